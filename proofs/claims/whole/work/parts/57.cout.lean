/-! What lies outside the class's cells: the row ABOVE, String's own static, three texts; contracts that read it. -/
abbrev Ou : Type := Nat × (Nat → Nat) × (Nat → Nat)
def abvF (j : Nat) : Int32 := if j = 0 then -1 else if j ≤ 3 then nI 0 else nI (j - 3)
def btF (i j : Nat) : Int32 := (([[], [119, 109, 100], [98, 101, 109]] : List (List Int32)).getD i []).getD j 0
def OUT (O : Ou) (A : Nat → Prop) (U : State) (H : Heap) : Prop :=
  (va_Z "GleanedSorry" "ABOVE" "[I" (.ref O.1) A U H ∧ va_T .int O.1 7 (fun j => .int (abvF j)) A U H) ∧ va_Z "java/lang/String" "COMPACT_STRINGS" "Z" (.int 1) A U H ∧ vk_S 3 [0, 3, 3] [[], [119, 109, 100], [98, 101, 109]] O.2.1 O.2.2 A U H ∧ (vk_R RX4 27 "" (O.2.1 0) U ∧ vk_R RX4 62 "wmd" (O.2.1 1) U ∧ vk_R RX4 64 "bem" (O.2.1 2) U)
theorem OUT.go {O : Ou} {A B : Nat → Prop} {s U : State} {H : Heap} {locs : List Loc} (h : OUT O A s s.heap) (hS : va_S A s.heap H locs) (hW : s.WarmedH U.vm) (hAB : ∀ q, B q → A q) : OUT O B U H :=
  ⟨⟨va_Z.moved hW.alike ((h.1.1.kept hS.2.1).narrow hAB), va_T.moved hW.alike ((h.1.2.kept hS.2.1).narrow hAB)⟩, va_Z.moved hW.alike ((h.2.1.kept hS.2.1).narrow hAB), vk_S.moved hW.alike ((h.2.2.1.kept hS.2.1).narrow hAB), ⟨h.2.2.2.1.warm hW, h.2.2.2.2.1.warm hW, h.2.2.2.2.2.warm hW⟩⟩
theorem OUT.cal {O : Ou} {A : Nat → Prop} {u U : State} {H : Heap} (e : U.vm = u.vm) (h : OUT O A u H) : OUT O A U H := by
  have a : u.vm.Alike U.vm := by rw [e]; exact Vm.Alike.refl u.vm
  exact ⟨⟨va_Z.moved a h.1.1, va_T.moved a h.1.2⟩, va_Z.moved a h.2.1, vk_S.moved a h.2.2.1, ⟨vk_R.same e h.2.2.2.1, vk_R.same e h.2.2.2.2.1, vk_R.same e h.2.2.2.2.2⟩⟩
def PreO (O : Ou) (D : va_G) (tys : List (ClassId × FieldType)) {S : Type} (Wd : S → va_W) (σ : S) (sz : Nat) (av : List Value) : Array Value → State → Prop :=
  va_Pc av (fun U => U.heap.size = sz ∧ va_P D vwCl (Wd σ) U.heap ∧ (va_K D vwCl tys U ∧ KN U) ∧ va_D (fun _ => True) (Wd σ) ∧ OUT O (va_A (Wd σ) sz) U U.heap)
def CiO (O : Ou) (l : Launch) (y : MethodName) (cc : ByteArray) (nL : Nat) (ret : Option FieldType) (d : Nat) (D : va_G) (tys : List (ClassId × FieldType)) {S : Type} (Wd : S → va_W) (av : List Value) (σ : S) (post : Int32 → S → Prop) : Prop :=
  ∀ sz, Met l y (.code y cc nL ret :: lw_g) (rmD d) (PreO O D tys Wd σ sz av) (va_Qi post (Bw D tys Wd (va_A (Wd σ) sz)) (va_A (Wd σ) sz)) 0 0 (va_A (Wd σ) sz)
theorem FBO {O : Ou} {S : Type} {Wd : S → va_W} (D : va_G) (tys : List (ClassId × FieldType)) (σ : S) (sz : Nat) (av : List Value) : FrameBlind (PreO O D tys Wd σ sz av) := fun a U g mk q => by
  obtain ⟨q0, q1, qP, ⟨qK, qN⟩, qD, qO⟩ := q
  exact ⟨q0, q1, qP, ⟨va_K.moved (u := U) (U := U.calling g mk a) (Vm.Alike.refl U.vm) qK, KN.same (u := U) (U := U.calling g mk a) rfl qN⟩, qD, OUT.cal (u := U) (U := U.calling g mk a) rfl qO⟩
theorem CiO.of {O : Ou} {l : Launch} {nL d : Nat} {D : va_G} {S : Type} {Wd : S → va_W} {σ : S} {cc : ByteArray} {ret : Option FieldType} {tys : List (ClassId × FieldType)} {y : MethodName} {av : List Value} {post : Int32 → S → Prop} (hy : plainName y.cls = true) (hlen : (lg_sl av).length ≤ nL)
    (body : ∀ (p : Program) (e : Env) (s : State) (m : MethodId) (below : List Frame) (meth : Method) (c : Code) (A : Nat → Prop), Cx p s m av.toArray meth c cc nL y.cls ret D tys A → OUT O A s s.heap → JJ p l e (rmD d) s m av.toArray below meth c (MQ below (va_Qi post (Bw D tys Wd A) A) av.toArray s 0 0 A) nL D A Wd σ 0 (lv_args 0 av) []) : CiO O l y cc nL ret d D tys Wd av σ post := by
  intro sz
  refine Met.ofW (cc := cc) (maxL := nL) (ret := ret) hy rfl ?_
  intro p e s m args below meth c s₁ B hml hv
  obtain ⟨rfl, hsz, hP, hK, hD0, hO⟩ := hv
  have hts := atoms_spec (ws := .code y cc nL ret :: lw_g) B.pre
  subst hsz
  have hl := lv_entry av (n := nL) hlen
  rw [lg_entry_eq]
  exact body p e s m below meth c (va_A (Wd σ) s.heap.size) ⟨B.exec, B.bytes, hml, findClass_of_methodNamed B.named, fun w hw => hts w (List.mem_cons_of_mem _ hw), hK, fun q h => Or.inr h, B.returns, B.notSynchronized⟩ hO s.heap [] _ hP hD0.self va_S.rf hl
theorem Ci.o {O : Ou} {l : Launch} {nL d : Nat} {D : va_G} {S : Type} {Wd : S → va_W} {σ : S} {cc : ByteArray} {ret : Option FieldType} {tys : List (ClassId × FieldType)} {y : MethodName} {av : List Value} {post : Int32 → S → Prop} (h : Ci l y cc nL ret d D tys Wd av σ post) : CiO O l y cc nL ret d D tys Wd av σ post := by
  intro sz p e ha hc hk s m args below hf happ hP hK
  exact h sz p e ha hc hk s m args below hf happ ⟨hP.1, hP.2.1, hP.2.2.1, hP.2.2.2.1, hP.2.2.2.2.1⟩ hK
theorem j_callVO {p : Program} {l : Launch} {e : Env} {s : State} {m : MethodId} {args : Array Value} {below : List Frame} {meth : Method} {c : Code} {Q : State → Prop} {nL : Nat} {D : va_G} {A : Nat → Prop} {S : Type} {Wd : S → va_W} {σ : S} {pc : Nat} {L : List (Nat × Value)} {rest : List Value} {cc : ByteArray} {own : String} {ret : Option FieldType} {tys : List (ClassId × FieldType)} {d : Nat} {y : MethodName} {bytes : ByteArray} {maxL index n d' : Nat} {ret' : Option FieldType} {As : List Value} {b : Nat} {O : Ou} {post : Int32 → S → Prop} (C : Cx p s m args meth c cc nL own ret D tys A) (hO : OUT O A s s.heap) (hV : VW own index y bytes maxL ret' n) (hM : CiO O l y bytes maxL ret' d' D tys Wd (.ref b :: As) σ post) (hr : Rcv σ Wd b y.cls) (hn : As.length = n) (hst : (rest.map fun v => v.category).sum ≤ 8) (hdg : decode cc pc = .ok (.invokevirtual index, 3)) (hd : d' < d)
    (kk : ∀ (r : Int32) (τ : S), post r τ → JJ p l e (rmD d) s m args below meth c Q nL D A Wd τ (pc + 3) L (.int r :: rest)) : JJ p l e (rmD d) s m args below meth c Q nL D A Wd σ pc L (As.reverse ++ .ref b :: rest) := by
  obtain ⟨hx, hb, hml, hown, hts, ⟨hK, hN⟩, hA, hr', hlocks⟩ := C
  obtain ⟨v1, v2, v3, v4, v5, v6, v7⟩ := hV
  obtain ⟨q0, ci, fs, r, r1, r2, r3⟩ := hr
  intro H locs ls hP hD hS hl
  have hFc := free_in hD hS hA
  refine va_calli (va_runV (As := As) (rest := rest) (C := y.cls) ⟨hx, hb, hml, hown, hts⟩ (hM H.size) ⟨callB_of n hts (gC v1) rfl rfl rfl (hts _ v5) (hts _ v2) v6 (rm_ok hd v7), hts _ v3, hts _ v4⟩ ⟨FBO D tys σ H.size _, by rw [← r3]; exact va_recv hK hP r2 r1, fun U hU hW => ⟨rfl, by rw [hU], by rw [hU]; exact hP, ⟨va_K.moved hW.alike hK, KN.warm hW hN⟩, hD.weaken (fun _ _ _ _ => trivial), by rw [hU]; exact hO.go hS hW hFc⟩⟩ rfl hn hl.1 rfl (lv_room hst) hdg ⟨Nat.le_refl _, Nat.le_refl _⟩) hS (fun q _ h => hFc q h) hFc (fun r u t H1 locs1 ht hvm hw hB hz1 hk1 hS => ?_)
  obtain ⟨hP1, -, hD1⟩ := hB
  rw [ht] at hP1
  exact kk r u hw H1 locs1 ls hP1 (hD1.weaken (fun _ q _ h => hFc q.1 h)) hS hl
theorem j_callVNO {p : Program} {l : Launch} {e : Env} {s : State} {m : MethodId} {args : Array Value} {below : List Frame} {meth : Method} {c : Code} {Q : State → Prop} {nL : Nat} {D : va_G} {A : Nat → Prop} {S : Type} {Wd : S → va_W} {σ : S} {pc : Nat} {L : List (Nat × Value)} {rest : List Value} {cc : ByteArray} {own : String} {ret : Option FieldType} {tys : List (ClassId × FieldType)} {d : Nat} {y : MethodName} {bytes : ByteArray} {maxL index n d' : Nat} {ret' : Option FieldType} {As : List Value} {b : Nat} {O : Ou} {post : Int32 → S → Prop} (C : Cx p s m args meth c cc nL own ret D tys A) (hO : OUT O A s s.heap) (hV : VN own index y bytes maxL ret' n) (hM : CiO O l y bytes maxL ret' d' D tys Wd (.ref b :: As) σ post) (hr : Rcv σ Wd b y.cls) (hn : As.length = n) (hst : (rest.map fun v => v.category).sum ≤ 8) (hdg : decode cc pc = .ok (.invokevirtual index, 3)) (hd : d' < d)
    (kk : ∀ (r : Int32) (τ : S), post r τ → JJ p l e (rmD d) s m args below meth c Q nL D A Wd τ (pc + 3) L (.int r :: rest)) : JJ p l e (rmD d) s m args below meth c Q nL D A Wd σ pc L (As.reverse ++ .ref b :: rest) := by
  obtain ⟨hx, hb, hml, hown, hts, ⟨hK, hN⟩, hA, hr', hlocks⟩ := C
  obtain ⟨host, v1, v2, v3, v4, v5, v6, v7⟩ := hV
  obtain ⟨q0, ci, fs, r, r1, r2, r3⟩ := hr
  intro H locs ls hP hD hS hl
  have hFc := free_in hD hS hA
  refine va_calli (va_runVN (As := As) (rest := rest) (C := y.cls) ⟨hx, hb, hml, hown, hts⟩ (hM H.size) ⟨va_cnB n hts (gC v1) rfl rfl rfl (hN _ v2) (hts _ v5) v6 (rm_ok hd v7), hts _ v3, hts _ v4⟩ ⟨FBO D tys σ H.size _, by rw [← r3]; exact va_recv hK hP r2 r1, fun U hU hW => ⟨rfl, by rw [hU], by rw [hU]; exact hP, ⟨va_K.moved hW.alike hK, KN.warm hW hN⟩, hD.weaken (fun _ _ _ _ => trivial), by rw [hU]; exact hO.go hS hW hFc⟩⟩ rfl hn hl.1 rfl (lv_room hst) hdg ⟨Nat.le_refl _, Nat.le_refl _⟩) hS (fun q _ h => hFc q h) hFc (fun r u t H1 locs1 ht hvm hw hB hz1 hk1 hS => ?_)
  obtain ⟨hP1, -, hD1⟩ := hB
  rw [ht] at hP1
  exact kk r u hw H1 locs1 ls hP1 (hD1.weaken (fun _ q _ h => hFc q.1 h)) hS hl
theorem j_callSO {p : Program} {l : Launch} {e : Env} {s : State} {m : MethodId} {args : Array Value} {below : List Frame} {meth : Method} {c : Code} {Q : State → Prop} {nL : Nat} {D : va_G} {A : Nat → Prop} {S : Type} {Wd : S → va_W} {σ : S} {pc : Nat} {L : List (Nat × Value)} {rest : List Value} {cc : ByteArray} {own : String} {ret : Option FieldType} {tys : List (ClassId × FieldType)} {d : Nat} {y : MethodName} {bytes : ByteArray} {maxL index n d' : Nat} {ret' : Option FieldType} {As : List Value} {O : Ou} {post : Int32 → S → Prop} (C : Cx p s m args meth c cc nL own ret D tys A) (hO : OUT O A s s.heap) (hV : SW own index y bytes maxL ret' n) (hM : CiO O l y bytes maxL ret' d' D tys Wd As σ post) (hn : As.length = n) (hst : (rest.map fun v => v.category).sum ≤ 8) (hdg : decode cc pc = .ok (.invokestatic index, 3)) (hd : d' < d)
    (kk : ∀ (r : Int32) (τ : S), post r τ → JJ p l e (rmD d) s m args below meth c Q nL D A Wd τ (pc + 3) L (.int r :: rest)) : JJ p l e (rmD d) s m args below meth c Q nL D A Wd σ pc L (As.reverse ++ rest) := by
  obtain ⟨hx, hb, hml, hown, hts, ⟨hK, hN⟩, hA, hr', hlocks⟩ := C
  obtain ⟨v1, v2, v3, v5, v6, v7⟩ := hV
  intro H locs ls hP hD hS hl
  have hFc := free_in hD hS hA
  refine va_calli (va_runS (As := As) (rest := rest) ⟨hx, hb, hml, hown, hts⟩ (hM H.size) ⟨callB_of n hts (gC v1) rfl rfl rfl (hts _ v5) (hts _ v2) v6 (rm_ok hd v7), hts _ v3⟩ ⟨FBO D tys σ H.size _, fun U hU hW => ⟨rfl, by rw [hU], by rw [hU]; exact hP, ⟨va_K.moved hW.alike hK, KN.warm hW hN⟩, hD.weaken (fun _ _ _ _ => trivial), by rw [hU]; exact hO.go hS hW hFc⟩⟩ rfl hn hl.1 rfl (lv_room hst) hdg ⟨Nat.le_refl _, Nat.le_refl _⟩) hS (fun q _ h => hFc q h) hFc (fun r u t H1 locs1 ht hvm hw hB hz1 hk1 hS => ?_)
  obtain ⟨hP1, -, hD1⟩ := hB
  rw [ht] at hP1
  exact kk r u hw H1 locs1 ls hP1 (hD1.weaken (fun _ q _ h => hFc q.1 h)) hS hl
theorem j_callXO {p : Program} {l : Launch} {e : Env} {s : State} {m : MethodId} {args : Array Value} {below : List Frame} {meth : Method} {c : Code} {Q : State → Prop} {nL : Nat} {D : va_G} {A : Nat → Prop} {S : Type} {Wd : S → va_W} {σ : S} {pc : Nat} {L : List (Nat × Value)} {rest : List Value} {cc : ByteArray} {own : String} {ret : Option FieldType} {tys : List (ClassId × FieldType)} {d : Nat} {y : MethodName} {bytes : ByteArray} {maxL index n d' : Nat} {ret' : Option FieldType} {As : List Value} {b : Nat} {O : Ou} {post : Int32 → S → Prop} {i : Nat} (C : Cx p s m args meth c cc nL own ret D tys A) (hO : OUT O A s s.heap) (hV : VW own index y bytes maxL ret' n) (hM : CiO O l y bytes maxL ret' d' D tys Wd (.ref b :: As) σ post) (hr : b = O.2.1 i ∧ i < 3 ∧ y.cls = "java/lang/String") (hn : As.length = n) (hst : (rest.map fun v => v.category).sum ≤ 8) (hdg : decode cc pc = .ok (.invokevirtual index, 3)) (hd : d' < d)
    (kk : ∀ (r : Int32) (τ : S), post r τ → JJ p l e (rmD d) s m args below meth c Q nL D A Wd τ (pc + 3) L (.int r :: rest)) : JJ p l e (rmD d) s m args below meth c Q nL D A Wd σ pc L (As.reverse ++ .ref b :: rest) := by
  obtain ⟨hx, hb, hml, hown, hts, ⟨hK, hN⟩, hA, hr', hlocks⟩ := C
  obtain ⟨v1, v2, v3, v4, v5, v6, v7⟩ := hV
  intro H locs ls hP hD hS hl
  have hFc := free_in hD hS hA
  refine va_calli (va_runV (As := As) (rest := rest) (C := y.cls) ⟨hx, hb, hml, hown, hts⟩ (hM H.size) ⟨callB_of n hts (gC v1) rfl rfl rfl (hts _ v5) (hts _ v2) v6 (rm_ok hd v7), hts _ v3, hts _ v4⟩ ⟨FBO D tys σ H.size _, by rw [hr.1, hr.2.2]; exact vk_recv hO.2.2.1 hr.2.1 hS, fun U hU hW => ⟨rfl, by rw [hU], by rw [hU]; exact hP, ⟨va_K.moved hW.alike hK, KN.warm hW hN⟩, hD.weaken (fun _ _ _ _ => trivial), by rw [hU]; exact hO.go hS hW hFc⟩⟩ rfl hn hl.1 rfl (lv_room hst) hdg ⟨Nat.le_refl _, Nat.le_refl _⟩) hS (fun q _ h => hFc q h) hFc (fun r u t H1 locs1 ht hvm hw hB hz1 hk1 hS => ?_)
  obtain ⟨hP1, -, hD1⟩ := hB
  rw [ht] at hP1
  exact kk r u hw H1 locs1 ls hP1 (hD1.weaken (fun _ q _ h => hFc q.1 h)) hS hl
theorem j_gets {p : Program} {l : Launch} {e : Env} {s : State} {m : MethodId} {args : Array Value} {below : List Frame} {meth : Method} {c : Code} {Q : State → Prop} {nL : Nat} {D : va_G} {A : Nat → Prop} {S : Type} {Wd : S → va_W} {σ : S} {pc : Nat} {L : List (Nat × Value)} {rest : List Value} {cc : ByteArray} {own : String} {ret : Option FieldType} {tys : List (ClassId × FieldType)} {R : Room} (C : Cx p s m args meth c cc nL own ret D tys A) {Cn fn fd : String} {v : Value} {index : Nat} (hZ : va_Z Cn fn fd v A s s.heap) (hk : Cond.fieldLink own index Cn fn fd ∈ lw_g) (hdg : decode cc pc = .ok (.getstatic index, 3)) (kk : JJ p l e R s m args below meth c Q nL D A Wd σ (pc + 3) L (v :: rest)) : JJ p l e R s m args below meth c Q nL D A Wd σ pc L rest := by
  obtain ⟨hx, hb, hml, hown, hts, hK, hA, hr, hlocks⟩ := C
  intro H locs ls hP hD hS hl
  exact va_gets hx hb hZ hS hown (hts _ hk) (fun _ h => h) hdg (kk H locs ls hP hD hS hl)
theorem j_tlen {p : Program} {l : Launch} {e : Env} {s : State} {m : MethodId} {args : Array Value} {below : List Frame} {meth : Method} {c : Code} {Q : State → Prop} {nL : Nat} {D : va_G} {A : Nat → Prop} {S : Type} {Wd : S → va_W} {σ : S} {pc : Nat} {L : List (Nat × Value)} {rest : List Value} {cc : ByteArray} {own : String} {ret : Option FieldType} {tys : List (ClassId × FieldType)} {R : Room} (C : Cx p s m args meth c cc nL own ret D tys A) {t N : Nat} {ty : FieldType} {f : Nat → Value} (hT : va_T ty t N f A s s.heap) (v : Int32) (hv : Int32.ofNat N = v) (hdg : decode cc pc = .ok (.arraylength, 1)) (kk : JJ p l e R s m args below meth c Q nL D A Wd σ (pc + 1) L (.int v :: rest)) : JJ p l e R s m args below meth c Q nL D A Wd σ pc L (.ref t :: rest) := by
  obtain ⟨hx, hb, hml, hown, hts, hK, hA, hr, hlocks⟩ := C
  intro H locs ls hP hD hS hl
  exact va_tlen hx hb hT hS hv hdg (kk H locs ls hP hD hS hl)
theorem j_tald {p : Program} {l : Launch} {e : Env} {s : State} {m : MethodId} {args : Array Value} {below : List Frame} {meth : Method} {c : Code} {Q : State → Prop} {nL : Nat} {D : va_G} {A : Nat → Prop} {S : Type} {Wd : S → va_W} {σ : S} {pc : Nat} {L : List (Nat × Value)} {rest : List Value} {cc : ByteArray} {own : String} {ret : Option FieldType} {tys : List (ClassId × FieldType)} {R : Room} (C : Cx p s m args meth c cc nL own ret D tys A) {t N : Nat} {f : Nat → Value} {i : Int32} (hT : va_T .int t N f A s s.heap) (j : Nat) (hi : i = nI j) (hj : j < N) (hN : N < 2 ^ 31) {v : Int32} (hv : f j = .int v) (hdg : decode cc pc = .ok (.iaload, 1)) (kk : JJ p l e R s m args below meth c Q nL D A Wd σ (pc + 1) L (.int v :: rest)) : JJ p l e R s m args below meth c Q nL D A Wd σ pc L (.int i :: .ref t :: rest) := by
  subst hi
  obtain ⟨hx, hb, hml, hown, hts, hK, hA, hr, hlocks⟩ := C
  intro H locs ls hP hD hS hl
  exact va_ti hx hb hT hS (vp_in_nI hj hN) (by rw [nI_clamp (by omega)]; exact hv) hdg (kk H locs ls hP hD hS hl)
theorem j_tbld {p : Program} {l : Launch} {e : Env} {s : State} {m : MethodId} {args : Array Value} {below : List Frame} {meth : Method} {c : Code} {Q : State → Prop} {nL : Nat} {D : va_G} {A : Nat → Prop} {S : Type} {Wd : S → va_W} {σ : S} {pc : Nat} {L : List (Nat × Value)} {rest : List Value} {cc : ByteArray} {own : String} {ret : Option FieldType} {tys : List (ClassId × FieldType)} {R : Room} (C : Cx p s m args meth c cc nL own ret D tys A) {t N : Nat} {f : Nat → Value} {i : Int32} (hT : va_T .byte t N f A s s.heap) (j : Nat) (hi : i = nI j) (hj : j < N) (hN : N < 2 ^ 31) {v : Int32} (hv : f j = .int v) (hdg : decode cc pc = .ok (.baload, 1)) (kk : JJ p l e R s m args below meth c Q nL D A Wd σ (pc + 1) L (.int v :: rest)) : JJ p l e R s m args below meth c Q nL D A Wd σ pc L (.int i :: .ref t :: rest) := by
  subst hi
  obtain ⟨hx, hb, hml, hown, hts, hK, hA, hr, hlocks⟩ := C
  intro H locs ls hP hD hS hl
  exact va_tb hx hb hT hS (vp_in_nI hj hN) (by rw [nI_clamp (by omega)]; exact hv) hdg (kk H locs ls hP hD hS hl)
theorem j_getX {p : Program} {l : Launch} {e : Env} {s : State} {m : MethodId} {args : Array Value} {below : List Frame} {meth : Method} {c : Code} {Q : State → Prop} {nL : Nat} {D : va_G} {A : Nat → Prop} {S : Type} {Wd : S → va_W} {σ : S} {pc : Nat} {L : List (Nat × Value)} {rest : List Value} {cc : ByteArray} {own : String} {ret : Option FieldType} {tys : List (ClassId × FieldType)} {R : Room} (C : Cx p s m args meth c cc nL own ret D tys A) {o fn fd : String} {index q : Nat} {v : Value} (hE : va_OF o fn fd v q A s s.heap) (hk : Cond.fieldLink own index o fn fd ∈ lw_g) (hdg : decode cc pc = .ok (.getfield index, 3)) (kk : JJ p l e R s m args below meth c Q nL D A Wd σ (pc + 3) L (v :: rest)) : JJ p l e R s m args below meth c Q nL D A Wd σ pc L (.ref q :: rest) := by
  obtain ⟨hx, hb, hml, hown, hts, hK, hA, hr, hlocks⟩ := C
  intro H locs ls hP hD hS hl
  exact vk_getf hx hb hE hS hown (hts _ hk) (fun _ h => h) hdg (kk H locs ls hP hD hS hl)
theorem j_ldcS {p : Program} {l : Launch} {e : Env} {s : State} {m : MethodId} {args : Array Value} {below : List Frame} {meth : Method} {c : Code} {Q : State → Prop} {nL : Nat} {D : va_G} {A : Nat → Prop} {S : Type} {Wd : S → va_W} {σ : S} {pc : Nat} {L : List (Nat × Value)} {rest : List Value} {cc : ByteArray} {own : String} {ret : Option FieldType} {tys : List (ClassId × FieldType)} {R : Room} (C : Cx p s m args meth c cc nL own ret D tys A) {tx : String} {index q : Nat} (hZ : vk_R own index tx q s) (hdg : decode cc pc = .ok (.ldc index, 2)) (kk : JJ p l e R s m args below meth c Q nL D A Wd σ (pc + 2) L (.ref q :: rest)) : JJ p l e R s m args below meth c Q nL D A Wd σ pc L rest := by
  obtain ⟨hx, hb, hml, hown, hts, hK, hA, hr, hlocks⟩ := C
  intro H locs ls hP hD hS hl
  exact va_ldcS hx hb hown hZ hdg (kk H locs ls hP hD hS hl)
theorem j_i2c {p : Program} {l : Launch} {e : Env} {s : State} {m : MethodId} {args : Array Value} {below : List Frame} {meth : Method} {c : Code} {Q : State → Prop} {nL : Nat} {D : va_G} {A : Nat → Prop} {S : Type} {Wd : S → va_W} {σ : S} {pc : Nat} {L : List (Nat × Value)} {rest : List Value} {cc : ByteArray} {own : String} {ret : Option FieldType} {tys : List (ClassId × FieldType)} {R : Room} (C : Cx p s m args meth c cc nL own ret D tys A) {x : Int32} (hdg : decode cc pc = .ok (.i2c, 1)) (kk : JJ p l e R s m args below meth c Q nL D A Wd σ (pc + 1) L (.int (x.toUInt32 % 65536).toInt32 :: rest)) : JJ p l e R s m args below meth c Q nL D A Wd σ pc L (.int x :: rest) := by
  obtain ⟨hx, hb, hml, hown, hts, hK, hA, hr, hlocks⟩ := C
  intro H locs ls hP hD hS hl
  exact lv_i2c hx hb hdg rfl (kk H locs ls hP hD hS hl)
theorem j_bret {p : Program} {l : Launch} {e : Env} {s : State} {m : MethodId} {args : Array Value} {below : List Frame} {meth : Method} {c : Code} {nL : Nat} {D : va_G} {A : Nat → Prop} {S : Type} {Wd : S → va_W} {σ : S} {pc : Nat} {L : List (Nat × Value)} {cc : ByteArray} {own : String} {tys : List (ClassId × FieldType)} {R : Room} {post : Int32 → S → Prop} {v : Int32} (C : Cx p s m args meth c cc nL own (some .byte) D tys A) (hdg : decode cc pc = .ok (.ireturn, 1)) (hn : narrow .byte (.int v) = .int v) (hp : post v σ) : JJ p l e R s m args below meth c (MQ below (va_Qi post (Bw D tys Wd A) A) args s 0 0 A) nL D A Wd σ pc L [.int v] := by
  obtain ⟨hx, hb, hml, hown, hts, hK, hA, hr, hlocks⟩ := C
  intro H locs ls hP hD hS hl
  exact W.zret (v := v) hx hb hr hn (fun t ht hW => ⟨⟨v, σ, rfl, hp, by rw [ht]; exact hP, va_K.moved hW.alike hK.1, hD⟩, hS.F ht⟩) hS.2.2 hdg

theorem vwS1 : VW RX4 97 yJ0_indexOf_0f7a4 cJ0_indexOf_0f7a4 2 (some .int) 1 := ⟨gw 596 (by decide +kernel) rfl, gw 593 (by decide +kernel) rfl, gw 594 (by decide +kernel) rfl, gw 595 (by decide +kernel) rfl, gw 97 (by decide +kernel) rfl, by decide +kernel, by decide⟩
theorem vwS2 : VW RJ0 633 yJ0_indexOf_7cf53 cJ0_indexOf_7cf53 3 (some .int) 2 := ⟨gw 600 (by decide +kernel) rfl, gw 597 (by decide +kernel) rfl, gw 598 (by decide +kernel) rfl, gw 599 (by decide +kernel) rfl, gw 97 (by decide +kernel) rfl, by decide +kernel, by decide⟩
theorem vwS3 : VW RJ0 492 yJ0_isLatin1_aae02 cJ0_isLatin1_aae02 1 (some .boolean) 0 := ⟨gw 604 (by decide +kernel) rfl, gw 601 (by decide +kernel) rfl, gw 602 (by decide +kernel) rfl, gw 603 (by decide +kernel) rfl, gw 97 (by decide +kernel) rfl, by decide +kernel, by decide⟩
theorem vwS4 : VW RJ0 505 yJ0_length_8abf5 cJ0_length_8abf5 1 (some .int) 0 := ⟨gw 610 (by decide +kernel) rfl, gw 607 (by decide +kernel) rfl, gw 608 (by decide +kernel) rfl, gw 609 (by decide +kernel) rfl, gw 97 (by decide +kernel) rfl, by decide +kernel, by decide⟩
theorem vwS5 : VW RJ0 335 yJ0_coder_7d493 cJ0_coder_7d493 1 (some .byte) 0 := ⟨gw 614 (by decide +kernel) rfl, gw 611 (by decide +kernel) rfl, gw 612 (by decide +kernel) rfl, gw 613 (by decide +kernel) rfl, gw 97 (by decide +kernel) rfl, by decide +kernel, by decide⟩
theorem swS6 : SW RJ0 637 yJ1_indexOf_4cfef cJ1_indexOf_4cfef 4 (some .int) 4 := ⟨gw 617 (by decide +kernel) rfl, gw 615 (by decide +kernel) rfl, gw 616 (by decide +kernel) rfl, gw 98 (by decide +kernel) rfl, by decide +kernel, by decide⟩
theorem swS7 : SW RJ1 88 yJ1_canEncode_9a6ad cJ1_canEncode_9a6ad 1 (some .boolean) 1 := ⟨gw 620 (by decide +kernel) rfl, gw 618 (by decide +kernel) rfl, gw 619 (by decide +kernel) rfl, gw 98 (by decide +kernel) rfl, by decide +kernel, by decide⟩
theorem swS8 : SW RJ1 95 yJ1_indexOfChar_4cfef cJ1_indexOfChar_4cfef 6 (some .int) 4 := ⟨gw 625 (by decide +kernel) rfl, gw 623 (by decide +kernel) rfl, gw 624 (by decide +kernel) rfl, gw 98 (by decide +kernel) rfl, by decide +kernel, by decide⟩
theorem mxS : MMx RJ1 92 := ⟨gw 621 (by decide +kernel) rfl, gw 125 (by decide +kernel) rfl, gw 86 (by decide +kernel) rfl, gw 126 (by decide +kernel) rfl⟩
theorem mnS : MMn RJ1 38 := ⟨gw 622 (by decide +kernel) rfl, gw 228 (by decide +kernel) rfl, gw 86 (by decide +kernel) rfl, gw 229 (by decide +kernel) rfl⟩
theorem kfO_157 : Cond.fieldLink RX11 157 "GleanedSorry" "ABOVE" "[I" ∈ lw_g := gw 513 (by decide +kernel) rfl
theorem kfO_38 : Cond.fieldLink RJ0 38 "java/lang/String" "COMPACT_STRINGS" "Z" ∈ lw_g := gw 605 (by decide +kernel) rfl
theorem kfO_9 : Cond.fieldLink RJ0 9 "java/lang/String" "value" "[B" ∈ lw_g := gw 1443 (by decide +kernel) rfl
theorem kfO_15 : Cond.fieldLink RJ0 15 "java/lang/String" "coder" "B" ∈ lw_g := gw 1442 (by decide +kernel) rfl
theorem dJ0_coder_7d493_0 : decode cJ0_coder_7d493 0 = .ok (.getstatic 38, 3) := by decide +kernel
theorem dJ0_coder_7d493_3 : decode cJ0_coder_7d493 3 = .ok (.ifCond .eq 10, 3) := by decide +kernel
theorem dJ0_coder_7d493_6 : decode cJ0_coder_7d493 6 = .ok (.aload_n 0, 1) := by decide +kernel
theorem dJ0_coder_7d493_7 : decode cJ0_coder_7d493 7 = .ok (.getfield 15, 3) := by decide +kernel
theorem dJ0_coder_7d493_10 : decode cJ0_coder_7d493 10 = .ok (.goto 4, 3) := by decide +kernel
theorem dJ0_coder_7d493_13 : decode cJ0_coder_7d493 13 = .ok (.iconst 1, 1) := by decide +kernel
theorem dJ0_coder_7d493_14 : decode cJ0_coder_7d493 14 = .ok (.ireturn, 1) := by decide +kernel
set_option maxHeartbeats 2000000 in
set_option maxRecDepth 20000 in
theorem h_coder_1 {l : Launch} {D : va_G} {cI cG cW : ClassId} {q : Nat → Nat} {S : Nat → Int32} {X : Nat → Nat → Int32} {P : Nat → Nat} {O : Ou}  : CiO O l yJ0_coder_7d493 cJ0_coder_7d493 1 (some .byte) 0 D (tyL cI cG cW) (wC cI cG cW q) [.ref (O.2.1 1)] (S, X, P) (fun r τ => r = nI 0 ∧ τ = (S, X, P)) := by
  refine CiO.of (by decide) (Nat.le_of_ble_eq_true rfl) ?_
  intro p_ e_ s_ m_ b_ M_ c_ A_ C hO
  replace C : Cx _ _ _ _ _ _ _ _ RJ0 _ _ _ _ := C
  refine j_L [0] [(0, .ref (O.2.1 1))] rfl ?_
  refine j_gets C (v := .int (nI 1)) hO.2.1 kfO_38 dJ0_coder_7d493_0 ?_
  refine j_if_eq C 13 dJ0_coder_7d493_3 (by decide) (fun c3 => ?_) (fun c3 => ?_)
  · rw [show (0 : Int32) = nI 0 from rfl, nI_eq (by omega) (by omega)] at c3
    exfalso; omega
  · rw [show (0 : Int32) = nI 0 from rfl, nI_eq (by omega) (by omega)] at c3
    refine j_aload_n C 0 dJ0_coder_7d493_6 rfl ?_
    refine j_getX C (v := .int (nI 0)) (hO.2.2.1.1 1 (by omega)).2.1 kfO_15 dJ0_coder_7d493_7 ?_
    refine j_goto C 14 dJ0_coder_7d493_10 (by decide) ?_
    refine j_bret C dJ0_coder_7d493_14 (by decide) ?_
    exact ⟨rfl, rfl⟩
theorem dJ0_isLatin1_aae02_0 : decode cJ0_isLatin1_aae02 0 = .ok (.getstatic 38, 3) := by decide +kernel
theorem dJ0_isLatin1_aae02_3 : decode cJ0_isLatin1_aae02 3 = .ok (.ifCond .eq 14, 3) := by decide +kernel
theorem dJ0_isLatin1_aae02_6 : decode cJ0_isLatin1_aae02 6 = .ok (.aload_n 0, 1) := by decide +kernel
theorem dJ0_isLatin1_aae02_7 : decode cJ0_isLatin1_aae02 7 = .ok (.getfield 15, 3) := by decide +kernel
theorem dJ0_isLatin1_aae02_10 : decode cJ0_isLatin1_aae02 10 = .ok (.ifCond .ne 7, 3) := by decide +kernel
theorem dJ0_isLatin1_aae02_13 : decode cJ0_isLatin1_aae02 13 = .ok (.iconst 1, 1) := by decide +kernel
theorem dJ0_isLatin1_aae02_14 : decode cJ0_isLatin1_aae02 14 = .ok (.goto 4, 3) := by decide +kernel
theorem dJ0_isLatin1_aae02_17 : decode cJ0_isLatin1_aae02 17 = .ok (.iconst 0, 1) := by decide +kernel
theorem dJ0_isLatin1_aae02_18 : decode cJ0_isLatin1_aae02 18 = .ok (.ireturn, 1) := by decide +kernel
set_option maxHeartbeats 2000000 in
set_option maxRecDepth 20000 in
theorem h_isLatin1_1 {l : Launch} {D : va_G} {cI cG cW : ClassId} {q : Nat → Nat} {S : Nat → Int32} {X : Nat → Nat → Int32} {P : Nat → Nat} {O : Ou}  : CiO O l yJ0_isLatin1_aae02 cJ0_isLatin1_aae02 1 (some .boolean) 0 D (tyL cI cG cW) (wC cI cG cW q) [.ref (O.2.1 1)] (S, X, P) (fun r τ => r = nI 1 ∧ τ = (S, X, P)) := by
  refine CiO.of (by decide) (Nat.le_of_ble_eq_true rfl) ?_
  intro p_ e_ s_ m_ b_ M_ c_ A_ C hO
  replace C : Cx _ _ _ _ _ _ _ _ RJ0 _ _ _ _ := C
  refine j_L [0] [(0, .ref (O.2.1 1))] rfl ?_
  refine j_gets C (v := .int (nI 1)) hO.2.1 kfO_38 dJ0_isLatin1_aae02_0 ?_
  refine j_if_eq C 17 dJ0_isLatin1_aae02_3 (by decide) (fun c3 => ?_) (fun c3 => ?_)
  · rw [show (0 : Int32) = nI 0 from rfl, nI_eq (by omega) (by omega)] at c3
    exfalso; omega
  · rw [show (0 : Int32) = nI 0 from rfl, nI_eq (by omega) (by omega)] at c3
    refine j_aload_n C 0 dJ0_isLatin1_aae02_6 rfl ?_
    refine j_getX C (v := .int (nI 0)) (hO.2.2.1.1 1 (by omega)).2.1 kfO_15 dJ0_isLatin1_aae02_7 ?_
    refine j_if_ne C 17 dJ0_isLatin1_aae02_10 (by decide) (fun c10 => ?_) (fun c10 => ?_)
    · rw [show (0 : Int32) = nI 0 from rfl, nI_eq (by omega) (by omega)] at c10
      exfalso; omega
    · rw [show (0 : Int32) = nI 0 from rfl, nI_eq (by omega) (by omega)] at c10
      refine j_iconst C (v := (nI 1)) dJ0_isLatin1_aae02_13 (by decide) ?_
      refine j_goto C 18 dJ0_isLatin1_aae02_14 (by decide) ?_
      refine j_zret C dJ0_isLatin1_aae02_18 (by decide) ?_
      exact ⟨rfl, rfl⟩
theorem dJ0_length_8abf5_0 : decode cJ0_length_8abf5 0 = .ok (.aload_n 0, 1) := by decide +kernel
theorem dJ0_length_8abf5_1 : decode cJ0_length_8abf5 1 = .ok (.getfield 9, 3) := by decide +kernel
theorem dJ0_length_8abf5_4 : decode cJ0_length_8abf5 4 = .ok (.arraylength, 1) := by decide +kernel
theorem dJ0_length_8abf5_5 : decode cJ0_length_8abf5 5 = .ok (.aload_n 0, 1) := by decide +kernel
theorem dJ0_length_8abf5_6 : decode cJ0_length_8abf5 6 = .ok (.invokevirtual 335, 3) := by decide +kernel
theorem dJ0_length_8abf5_9 : decode cJ0_length_8abf5 9 = .ok (.ishr, 1) := by decide +kernel
theorem dJ0_length_8abf5_10 : decode cJ0_length_8abf5 10 = .ok (.ireturn, 1) := by decide +kernel
set_option maxHeartbeats 2000000 in
set_option maxRecDepth 20000 in
theorem h_length_1 {l : Launch} {D : va_G} {cI cG cW : ClassId} {q : Nat → Nat} {S : Nat → Int32} {X : Nat → Nat → Int32} {P : Nat → Nat} {O : Ou}  : CiO O l yJ0_length_8abf5 cJ0_length_8abf5 1 (some .int) 1 D (tyL cI cG cW) (wC cI cG cW q) [.ref (O.2.1 1)] (S, X, P) (fun r τ => r = nI 3 ∧ τ = (S, X, P)) := by
  refine CiO.of (by decide) (Nat.le_of_ble_eq_true rfl) ?_
  intro p_ e_ s_ m_ b_ M_ c_ A_ C hO
  replace C : Cx _ _ _ _ _ _ _ _ RJ0 _ _ _ _ := C
  refine j_L [0] [(0, .ref (O.2.1 1))] rfl ?_
  refine j_aload_n C 0 dJ0_length_8abf5_0 rfl ?_
  refine j_getX C (hO.2.2.1.1 1 (by omega)).2.2.1 kfO_9 dJ0_length_8abf5_1 ?_
  refine j_tlen C (hO.2.2.1.1 1 (by omega)).2.2.2 (nI 3) rfl dJ0_length_8abf5_4 ?_
  refine j_aload_n C 0 dJ0_length_8abf5_5 rfl ?_
  refine j_callXO (i := 1) (As := []) (rest := [.int (nI 3)]) C hO vwS5 (h_coder_1) ⟨rfl, by decide, rfl⟩ rfl (Nat.le_of_ble_eq_true rfl) dJ0_length_8abf5_6 (by decide) ?_
  rintro _ _ ⟨rfl, rfl⟩
  refine j_ishr C dJ0_length_8abf5_9 ?_
  refine j_v (nI 3) (by decide) ?_
  refine j_iret C dJ0_length_8abf5_10 ?_
  exact ⟨rfl, rfl⟩
set_option maxHeartbeats 2000000 in
set_option maxRecDepth 20000 in
theorem h_coder_2 {l : Launch} {D : va_G} {cI cG cW : ClassId} {q : Nat → Nat} {S : Nat → Int32} {X : Nat → Nat → Int32} {P : Nat → Nat} {O : Ou}  : CiO O l yJ0_coder_7d493 cJ0_coder_7d493 1 (some .byte) 0 D (tyL cI cG cW) (wC cI cG cW q) [.ref (O.2.1 2)] (S, X, P) (fun r τ => r = nI 0 ∧ τ = (S, X, P)) := by
  refine CiO.of (by decide) (Nat.le_of_ble_eq_true rfl) ?_
  intro p_ e_ s_ m_ b_ M_ c_ A_ C hO
  replace C : Cx _ _ _ _ _ _ _ _ RJ0 _ _ _ _ := C
  refine j_L [0] [(0, .ref (O.2.1 2))] rfl ?_
  refine j_gets C (v := .int (nI 1)) hO.2.1 kfO_38 dJ0_coder_7d493_0 ?_
  refine j_if_eq C 13 dJ0_coder_7d493_3 (by decide) (fun c3 => ?_) (fun c3 => ?_)
  · rw [show (0 : Int32) = nI 0 from rfl, nI_eq (by omega) (by omega)] at c3
    exfalso; omega
  · rw [show (0 : Int32) = nI 0 from rfl, nI_eq (by omega) (by omega)] at c3
    refine j_aload_n C 0 dJ0_coder_7d493_6 rfl ?_
    refine j_getX C (v := .int (nI 0)) (hO.2.2.1.1 2 (by omega)).2.1 kfO_15 dJ0_coder_7d493_7 ?_
    refine j_goto C 14 dJ0_coder_7d493_10 (by decide) ?_
    refine j_bret C dJ0_coder_7d493_14 (by decide) ?_
    exact ⟨rfl, rfl⟩
set_option maxHeartbeats 2000000 in
set_option maxRecDepth 20000 in
theorem h_isLatin1_2 {l : Launch} {D : va_G} {cI cG cW : ClassId} {q : Nat → Nat} {S : Nat → Int32} {X : Nat → Nat → Int32} {P : Nat → Nat} {O : Ou}  : CiO O l yJ0_isLatin1_aae02 cJ0_isLatin1_aae02 1 (some .boolean) 0 D (tyL cI cG cW) (wC cI cG cW q) [.ref (O.2.1 2)] (S, X, P) (fun r τ => r = nI 1 ∧ τ = (S, X, P)) := by
  refine CiO.of (by decide) (Nat.le_of_ble_eq_true rfl) ?_
  intro p_ e_ s_ m_ b_ M_ c_ A_ C hO
  replace C : Cx _ _ _ _ _ _ _ _ RJ0 _ _ _ _ := C
  refine j_L [0] [(0, .ref (O.2.1 2))] rfl ?_
  refine j_gets C (v := .int (nI 1)) hO.2.1 kfO_38 dJ0_isLatin1_aae02_0 ?_
  refine j_if_eq C 17 dJ0_isLatin1_aae02_3 (by decide) (fun c3 => ?_) (fun c3 => ?_)
  · rw [show (0 : Int32) = nI 0 from rfl, nI_eq (by omega) (by omega)] at c3
    exfalso; omega
  · rw [show (0 : Int32) = nI 0 from rfl, nI_eq (by omega) (by omega)] at c3
    refine j_aload_n C 0 dJ0_isLatin1_aae02_6 rfl ?_
    refine j_getX C (v := .int (nI 0)) (hO.2.2.1.1 2 (by omega)).2.1 kfO_15 dJ0_isLatin1_aae02_7 ?_
    refine j_if_ne C 17 dJ0_isLatin1_aae02_10 (by decide) (fun c10 => ?_) (fun c10 => ?_)
    · rw [show (0 : Int32) = nI 0 from rfl, nI_eq (by omega) (by omega)] at c10
      exfalso; omega
    · rw [show (0 : Int32) = nI 0 from rfl, nI_eq (by omega) (by omega)] at c10
      refine j_iconst C (v := (nI 1)) dJ0_isLatin1_aae02_13 (by decide) ?_
      refine j_goto C 18 dJ0_isLatin1_aae02_14 (by decide) ?_
      refine j_zret C dJ0_isLatin1_aae02_18 (by decide) ?_
      exact ⟨rfl, rfl⟩
set_option maxHeartbeats 2000000 in
set_option maxRecDepth 20000 in
theorem h_length_2 {l : Launch} {D : va_G} {cI cG cW : ClassId} {q : Nat → Nat} {S : Nat → Int32} {X : Nat → Nat → Int32} {P : Nat → Nat} {O : Ou}  : CiO O l yJ0_length_8abf5 cJ0_length_8abf5 1 (some .int) 1 D (tyL cI cG cW) (wC cI cG cW q) [.ref (O.2.1 2)] (S, X, P) (fun r τ => r = nI 3 ∧ τ = (S, X, P)) := by
  refine CiO.of (by decide) (Nat.le_of_ble_eq_true rfl) ?_
  intro p_ e_ s_ m_ b_ M_ c_ A_ C hO
  replace C : Cx _ _ _ _ _ _ _ _ RJ0 _ _ _ _ := C
  refine j_L [0] [(0, .ref (O.2.1 2))] rfl ?_
  refine j_aload_n C 0 dJ0_length_8abf5_0 rfl ?_
  refine j_getX C (hO.2.2.1.1 2 (by omega)).2.2.1 kfO_9 dJ0_length_8abf5_1 ?_
  refine j_tlen C (hO.2.2.1.1 2 (by omega)).2.2.2 (nI 3) rfl dJ0_length_8abf5_4 ?_
  refine j_aload_n C 0 dJ0_length_8abf5_5 rfl ?_
  refine j_callXO (i := 2) (As := []) (rest := [.int (nI 3)]) C hO vwS5 (h_coder_2) ⟨rfl, by decide, rfl⟩ rfl (Nat.le_of_ble_eq_true rfl) dJ0_length_8abf5_6 (by decide) ?_
  rintro _ _ ⟨rfl, rfl⟩
  refine j_ishr C dJ0_length_8abf5_9 ?_
  refine j_v (nI 3) (by decide) ?_
  refine j_iret C dJ0_length_8abf5_10 ?_
  exact ⟨rfl, rfl⟩
theorem dJ1_canEncode_9a6ad_0 : decode cJ1_canEncode_9a6ad 0 = .ok (.iload_n 0, 1) := by decide +kernel
theorem dJ1_canEncode_9a6ad_1 : decode cJ1_canEncode_9a6ad 1 = .ok (.ifCond .lt 14, 3) := by decide +kernel
theorem dJ1_canEncode_9a6ad_4 : decode cJ1_canEncode_9a6ad 4 = .ok (.iload_n 0, 1) := by decide +kernel
theorem dJ1_canEncode_9a6ad_5 : decode cJ1_canEncode_9a6ad 5 = .ok (.sipush 255, 3) := by decide +kernel
theorem dJ1_canEncode_9a6ad_8 : decode cJ1_canEncode_9a6ad 8 = .ok (.if_icmp .gt 7, 3) := by decide +kernel
theorem dJ1_canEncode_9a6ad_11 : decode cJ1_canEncode_9a6ad 11 = .ok (.iconst 1, 1) := by decide +kernel
theorem dJ1_canEncode_9a6ad_12 : decode cJ1_canEncode_9a6ad 12 = .ok (.goto 4, 3) := by decide +kernel
theorem dJ1_canEncode_9a6ad_15 : decode cJ1_canEncode_9a6ad 15 = .ok (.iconst 0, 1) := by decide +kernel
theorem dJ1_canEncode_9a6ad_16 : decode cJ1_canEncode_9a6ad 16 = .ok (.ireturn, 1) := by decide +kernel
set_option maxHeartbeats 2000000 in
set_option maxRecDepth 20000 in
theorem h_canEncode {l : Launch} {D : va_G} {cI cG cW : ClassId} {q : Nat → Nat} {S : Nat → Int32} {X : Nat → Nat → Int32} {P : Nat → Nat} (b : Nat) (hb : b ≤ 255) : Ci l yJ1_canEncode_9a6ad cJ1_canEncode_9a6ad 1 (some .boolean) 0 D (tyL cI cG cW) (wC cI cG cW q) [.int (nI b)] (S, X, P) (fun r τ => r = nI 1 ∧ τ = (S, X, P)) := by
  refine Ci.of (by decide) (Nat.le_of_ble_eq_true rfl) ?_
  intro p_ e_ s_ m_ b_ M_ c_ A_ C
  replace C : Cx _ _ _ _ _ _ _ _ RJ1 _ _ _ _ := C
  refine j_L [0] [(0, .int (nI b))] rfl ?_
  refine j_iload_n C 0 dJ1_canEncode_9a6ad_0 rfl ?_
  refine j_if_lt C 15 dJ1_canEncode_9a6ad_1 (by decide) (fun c1 => ?_) (fun c1 => ?_)
  · rw [show (0 : Int32) = nI 0 from rfl, nI_ltI (by omega) (by omega)] at c1
    exfalso; omega
  · rw [show (0 : Int32) = nI 0 from rfl, nI_ltI (by omega) (by omega)] at c1
    refine j_iload_n C 0 dJ1_canEncode_9a6ad_4 rfl ?_
    refine j_sipush C (v := (nI 255)) dJ1_canEncode_9a6ad_5 (by decide) ?_
    refine j_icmp_gt C 15 dJ1_canEncode_9a6ad_8 (by decide) (fun c8 => ?_) (fun c8 => ?_)
    · rw [nI_ltI (by omega) (by omega)] at c8
      exfalso; omega
    · rw [nI_ltI (by omega) (by omega)] at c8
      refine j_iconst C (v := (nI 1)) dJ1_canEncode_9a6ad_11 (by decide) ?_
      refine j_goto C 16 dJ1_canEncode_9a6ad_12 (by decide) ?_
      refine j_zret C dJ1_canEncode_9a6ad_16 (by decide) ?_
      exact ⟨rfl, rfl⟩
def ixR (i : Nat) (x : Int32) : Int32 := if btF i 0 = x then nI 0 else if btF i 1 = x then nI 1 else if btF i 2 = x then nI 2 else -1
theorem ix_nam : ∀ u, u < 2 → ∀ j, j < 256 → ixR (1 + u) ((nI j).toInt8.toInt32) = (if namF u (nI j) < 3 then nI (namF u (nI j)) else -1) := by decide +kernel
theorem chr_id : ∀ j, j < 256 → ((nI j).toUInt32 % 65536).toInt32 = nI j := by decide +kernel
theorem dJ1_indexOfChar_4cfef_0 : decode cJ1_indexOfChar_4cfef 0 = .ok (.iload_n 1, 1) := by decide +kernel
theorem dJ1_indexOfChar_4cfef_1 : decode cJ1_indexOfChar_4cfef 1 = .ok (.i2b, 1) := by decide +kernel
theorem dJ1_indexOfChar_4cfef_2 : decode cJ1_indexOfChar_4cfef 2 = .ok (.istore 4, 2) := by decide +kernel
theorem dJ1_indexOfChar_4cfef_4 : decode cJ1_indexOfChar_4cfef 4 = .ok (.iload_n 2, 1) := by decide +kernel
theorem dJ1_indexOfChar_4cfef_5 : decode cJ1_indexOfChar_4cfef 5 = .ok (.istore 5, 2) := by decide +kernel
theorem dJ1_indexOfChar_4cfef_7 : decode cJ1_indexOfChar_4cfef 7 = .ok (.iload 5, 2) := by decide +kernel
theorem dJ1_indexOfChar_4cfef_9 : decode cJ1_indexOfChar_4cfef 9 = .ok (.iload_n 3, 1) := by decide +kernel
theorem dJ1_indexOfChar_4cfef_10 : decode cJ1_indexOfChar_4cfef 10 = .ok (.if_icmp .ge 21, 3) := by decide +kernel
theorem dJ1_indexOfChar_4cfef_13 : decode cJ1_indexOfChar_4cfef 13 = .ok (.aload_n 0, 1) := by decide +kernel
theorem dJ1_indexOfChar_4cfef_14 : decode cJ1_indexOfChar_4cfef 14 = .ok (.iload 5, 2) := by decide +kernel
theorem dJ1_indexOfChar_4cfef_16 : decode cJ1_indexOfChar_4cfef 16 = .ok (.baload, 1) := by decide +kernel
theorem dJ1_indexOfChar_4cfef_17 : decode cJ1_indexOfChar_4cfef 17 = .ok (.iload 4, 2) := by decide +kernel
theorem dJ1_indexOfChar_4cfef_19 : decode cJ1_indexOfChar_4cfef 19 = .ok (.if_icmp .ne 6, 3) := by decide +kernel
theorem dJ1_indexOfChar_4cfef_22 : decode cJ1_indexOfChar_4cfef 22 = .ok (.iload 5, 2) := by decide +kernel
theorem dJ1_indexOfChar_4cfef_24 : decode cJ1_indexOfChar_4cfef 24 = .ok (.ireturn, 1) := by decide +kernel
theorem dJ1_indexOfChar_4cfef_25 : decode cJ1_indexOfChar_4cfef 25 = .ok (.iinc 5 1, 3) := by decide +kernel
theorem dJ1_indexOfChar_4cfef_28 : decode cJ1_indexOfChar_4cfef 28 = .ok (.goto (-21), 3) := by decide +kernel
theorem dJ1_indexOfChar_4cfef_31 : decode cJ1_indexOfChar_4cfef 31 = .ok (.iconst (-1), 1) := by decide +kernel
theorem dJ1_indexOfChar_4cfef_32 : decode cJ1_indexOfChar_4cfef 32 = .ok (.ireturn, 1) := by decide +kernel
set_option maxHeartbeats 2000000 in
set_option maxRecDepth 20000 in
theorem h_ixChar_1 {l : Launch} {D : va_G} {cI cG cW : ClassId} {q : Nat → Nat} {S : Nat → Int32} {X : Nat → Nat → Int32} {P : Nat → Nat} {O : Ou} {x : Int32} : CiO O l yJ1_indexOfChar_4cfef cJ1_indexOfChar_4cfef 6 (some .int) 0 D (tyL cI cG cW) (wC cI cG cW q) [.ref (O.2.2 1), .int x, .int (nI 0), .int (nI 3)] (S, X, P) (fun r τ => r = ixR 1 (x.toInt8.toInt32) ∧ τ = (S, X, P)) := by
  refine CiO.of (by decide) (Nat.le_of_ble_eq_true rfl) ?_
  intro p_ e_ s_ m_ b_ M_ c_ A_ C hO
  replace C : Cx _ _ _ _ _ _ _ _ RJ1 _ _ _ _ := C
  refine j_L [0, 1, 2, 3] [(0, .ref (O.2.2 1)), (1, .int x), (2, .int (nI 0)), (3, .int (nI 3))] rfl ?_
  refine j_iload_n C 1 dJ1_indexOfChar_4cfef_0 rfl ?_
  refine j_i2b C dJ1_indexOfChar_4cfef_1 ?_
  refine j_istore C [(4, .int x.toInt8.toInt32), (0, .ref (O.2.2 1)), (1, .int x), (2, .int (nI 0)), (3, .int (nI 3))] dJ1_indexOfChar_4cfef_2 (by decide) rfl ?_
  refine j_iload_n C 3 dJ1_indexOfChar_4cfef_4 rfl ?_
  refine j_istore C [(5, .int (nI 0)), (4, .int x.toInt8.toInt32), (0, .ref (O.2.2 1)), (1, .int x), (2, .int (nI 0)), (3, .int (nI 3))] dJ1_indexOfChar_4cfef_5 (by decide) rfl ?_
  refine j_iload C 0 dJ1_indexOfChar_4cfef_7 rfl ?_
  refine j_iload_n C 5 dJ1_indexOfChar_4cfef_9 rfl ?_
  refine j_icmp_ge C 31 dJ1_indexOfChar_4cfef_10 (by decide) (fun c10 => ?_) (fun c10 => ?_)
  · rw [nI_leI (by omega) (by omega)] at c10
    exfalso; omega
  · rw [nI_leI (by omega) (by omega)] at c10
    refine j_aload_n C 2 dJ1_indexOfChar_4cfef_13 rfl ?_
    refine j_iload C 0 dJ1_indexOfChar_4cfef_14 rfl ?_
    refine j_tbld C (hO.2.2.1.1 1 (by omega)).2.2.2 0 rfl (by decide) (by decide) (v := btF 1 0) rfl dJ1_indexOfChar_4cfef_16 ?_
    refine j_iload C 1 dJ1_indexOfChar_4cfef_17 rfl ?_
    refine j_icmp_ne C 25 dJ1_indexOfChar_4cfef_19 (by decide) (fun n0 => ?_) (fun n0 => ?_)
    · skip
      refine j_iinc C (v := (nI 1)) 0 [(5, .int (nI 1)), (4, .int x.toInt8.toInt32), (0, .ref (O.2.2 1)), (1, .int x), (2, .int (nI 0)), (3, .int (nI 3))] dJ1_indexOfChar_4cfef_25 rfl (nI_1 _) (by decide) rfl ?_
      refine j_goto C 7 dJ1_indexOfChar_4cfef_28 (by decide) ?_
      refine j_iload C 0 dJ1_indexOfChar_4cfef_7 rfl ?_
      refine j_iload_n C 5 dJ1_indexOfChar_4cfef_9 rfl ?_
      refine j_icmp_ge C 31 dJ1_indexOfChar_4cfef_10 (by decide) (fun c10 => ?_) (fun c10 => ?_)
      · rw [nI_leI (by omega) (by omega)] at c10
        exfalso; omega
      · rw [nI_leI (by omega) (by omega)] at c10
        refine j_aload_n C 2 dJ1_indexOfChar_4cfef_13 rfl ?_
        refine j_iload C 0 dJ1_indexOfChar_4cfef_14 rfl ?_
        refine j_tbld C (hO.2.2.1.1 1 (by omega)).2.2.2 1 rfl (by decide) (by decide) (v := btF 1 1) rfl dJ1_indexOfChar_4cfef_16 ?_
        refine j_iload C 1 dJ1_indexOfChar_4cfef_17 rfl ?_
        refine j_icmp_ne C 25 dJ1_indexOfChar_4cfef_19 (by decide) (fun n1 => ?_) (fun n1 => ?_)
        · skip
          refine j_iinc C (v := (nI 2)) 0 [(5, .int (nI 2)), (4, .int x.toInt8.toInt32), (0, .ref (O.2.2 1)), (1, .int x), (2, .int (nI 0)), (3, .int (nI 3))] dJ1_indexOfChar_4cfef_25 rfl (nI_1 _) (by decide) rfl ?_
          refine j_goto C 7 dJ1_indexOfChar_4cfef_28 (by decide) ?_
          refine j_iload C 0 dJ1_indexOfChar_4cfef_7 rfl ?_
          refine j_iload_n C 5 dJ1_indexOfChar_4cfef_9 rfl ?_
          refine j_icmp_ge C 31 dJ1_indexOfChar_4cfef_10 (by decide) (fun c10 => ?_) (fun c10 => ?_)
          · rw [nI_leI (by omega) (by omega)] at c10
            exfalso; omega
          · rw [nI_leI (by omega) (by omega)] at c10
            refine j_aload_n C 2 dJ1_indexOfChar_4cfef_13 rfl ?_
            refine j_iload C 0 dJ1_indexOfChar_4cfef_14 rfl ?_
            refine j_tbld C (hO.2.2.1.1 1 (by omega)).2.2.2 2 rfl (by decide) (by decide) (v := btF 1 2) rfl dJ1_indexOfChar_4cfef_16 ?_
            refine j_iload C 1 dJ1_indexOfChar_4cfef_17 rfl ?_
            refine j_icmp_ne C 25 dJ1_indexOfChar_4cfef_19 (by decide) (fun n2 => ?_) (fun n2 => ?_)
            · skip
              refine j_iinc C (v := (nI 3)) 0 [(5, .int (nI 3)), (4, .int x.toInt8.toInt32), (0, .ref (O.2.2 1)), (1, .int x), (2, .int (nI 0)), (3, .int (nI 3))] dJ1_indexOfChar_4cfef_25 rfl (nI_1 _) (by decide) rfl ?_
              refine j_goto C 7 dJ1_indexOfChar_4cfef_28 (by decide) ?_
              refine j_iload C 0 dJ1_indexOfChar_4cfef_7 rfl ?_
              refine j_iload_n C 5 dJ1_indexOfChar_4cfef_9 rfl ?_
              refine j_icmp_ge C 31 dJ1_indexOfChar_4cfef_10 (by decide) (fun c10 => ?_) (fun c10 => ?_)
              · rw [nI_leI (by omega) (by omega)] at c10
                refine j_iconst C (v := (-1)) dJ1_indexOfChar_4cfef_31 (by decide) ?_
                refine j_iret C dJ1_indexOfChar_4cfef_32 ?_
                refine ⟨?_, rfl⟩
                unfold ixR
                rw [if_neg n0, if_neg n1, if_neg n2]
              · rw [nI_leI (by omega) (by omega)] at c10
                exfalso; omega
            · have y2 := n2
              refine j_iload C 0 dJ1_indexOfChar_4cfef_22 rfl ?_
              refine j_iret C dJ1_indexOfChar_4cfef_24 ?_
              refine ⟨?_, rfl⟩
              unfold ixR
              rw [if_neg n0, if_neg n1, if_pos y2]
        · have y1 := n1
          refine j_iload C 0 dJ1_indexOfChar_4cfef_22 rfl ?_
          refine j_iret C dJ1_indexOfChar_4cfef_24 ?_
          refine ⟨?_, rfl⟩
          unfold ixR
          rw [if_neg n0, if_pos y1]
    · have y0 := n0
      refine j_iload C 0 dJ1_indexOfChar_4cfef_22 rfl ?_
      refine j_iret C dJ1_indexOfChar_4cfef_24 ?_
      refine ⟨?_, rfl⟩
      unfold ixR
      rw [if_pos y0]
theorem dJ1_indexOf_4cfef_0 : decode cJ1_indexOf_4cfef 0 = .ok (.iload_n 1, 1) := by decide +kernel
theorem dJ1_indexOf_4cfef_1 : decode cJ1_indexOf_4cfef 1 = .ok (.invokestatic 88, 3) := by decide +kernel
theorem dJ1_indexOf_4cfef_4 : decode cJ1_indexOf_4cfef 4 = .ok (.ifCond .ne 5, 3) := by decide +kernel
theorem dJ1_indexOf_4cfef_7 : decode cJ1_indexOf_4cfef 7 = .ok (.iconst (-1), 1) := by decide +kernel
theorem dJ1_indexOf_4cfef_8 : decode cJ1_indexOf_4cfef 8 = .ok (.ireturn, 1) := by decide +kernel
theorem dJ1_indexOf_4cfef_9 : decode cJ1_indexOf_4cfef 9 = .ok (.iload_n 2, 1) := by decide +kernel
theorem dJ1_indexOf_4cfef_10 : decode cJ1_indexOf_4cfef 10 = .ok (.iconst 0, 1) := by decide +kernel
theorem dJ1_indexOf_4cfef_11 : decode cJ1_indexOf_4cfef 11 = .ok (.invokestatic 92, 3) := by decide +kernel
theorem dJ1_indexOf_4cfef_14 : decode cJ1_indexOf_4cfef 14 = .ok (.istore_n 2, 1) := by decide +kernel
theorem dJ1_indexOf_4cfef_15 : decode cJ1_indexOf_4cfef 15 = .ok (.iload_n 3, 1) := by decide +kernel
theorem dJ1_indexOf_4cfef_16 : decode cJ1_indexOf_4cfef 16 = .ok (.aload_n 0, 1) := by decide +kernel
theorem dJ1_indexOf_4cfef_17 : decode cJ1_indexOf_4cfef 17 = .ok (.arraylength, 1) := by decide +kernel
theorem dJ1_indexOf_4cfef_18 : decode cJ1_indexOf_4cfef 18 = .ok (.invokestatic 38, 3) := by decide +kernel
theorem dJ1_indexOf_4cfef_21 : decode cJ1_indexOf_4cfef 21 = .ok (.istore_n 3, 1) := by decide +kernel
theorem dJ1_indexOf_4cfef_22 : decode cJ1_indexOf_4cfef 22 = .ok (.iload_n 2, 1) := by decide +kernel
theorem dJ1_indexOf_4cfef_23 : decode cJ1_indexOf_4cfef 23 = .ok (.iload_n 3, 1) := by decide +kernel
theorem dJ1_indexOf_4cfef_24 : decode cJ1_indexOf_4cfef 24 = .ok (.if_icmp .lt 5, 3) := by decide +kernel
theorem dJ1_indexOf_4cfef_27 : decode cJ1_indexOf_4cfef 27 = .ok (.iconst (-1), 1) := by decide +kernel
theorem dJ1_indexOf_4cfef_28 : decode cJ1_indexOf_4cfef 28 = .ok (.ireturn, 1) := by decide +kernel
theorem dJ1_indexOf_4cfef_29 : decode cJ1_indexOf_4cfef 29 = .ok (.aload_n 0, 1) := by decide +kernel
theorem dJ1_indexOf_4cfef_30 : decode cJ1_indexOf_4cfef 30 = .ok (.iload_n 1, 1) := by decide +kernel
theorem dJ1_indexOf_4cfef_31 : decode cJ1_indexOf_4cfef 31 = .ok (.iload_n 2, 1) := by decide +kernel
theorem dJ1_indexOf_4cfef_32 : decode cJ1_indexOf_4cfef 32 = .ok (.iload_n 3, 1) := by decide +kernel
theorem dJ1_indexOf_4cfef_33 : decode cJ1_indexOf_4cfef 33 = .ok (.invokestatic 95, 3) := by decide +kernel
theorem dJ1_indexOf_4cfef_36 : decode cJ1_indexOf_4cfef 36 = .ok (.ireturn, 1) := by decide +kernel
set_option maxHeartbeats 2000000 in
set_option maxRecDepth 20000 in
theorem h_ixL_1 {l : Launch} {D : va_G} {cI cG cW : ClassId} {q : Nat → Nat} {S : Nat → Int32} {X : Nat → Nat → Int32} {P : Nat → Nat} {O : Ou} (b : Nat) (hb : b ≤ 255) : CiO O l yJ1_indexOf_4cfef cJ1_indexOf_4cfef 4 (some .int) 2 D (tyL cI cG cW) (wC cI cG cW q) [.ref (O.2.2 1), .int (nI b), .int (nI 0), .int (nI 3)] (S, X, P) (fun r τ => r = ixR 1 ((nI b).toInt8.toInt32) ∧ τ = (S, X, P)) := by
  refine CiO.of (by decide) (Nat.le_of_ble_eq_true rfl) ?_
  intro p_ e_ s_ m_ b_ M_ c_ A_ C hO
  replace C : Cx _ _ _ _ _ _ _ _ RJ1 _ _ _ _ := C
  refine j_L [0, 1, 2, 3] [(0, .ref (O.2.2 1)), (1, .int (nI b)), (2, .int (nI 0)), (3, .int (nI 3))] rfl ?_
  refine j_iload_n C 1 dJ1_indexOf_4cfef_0 rfl ?_
  refine j_callS (As := [.int (nI b)]) (rest := []) C swS7 (h_canEncode b hb) rfl (Nat.le_of_ble_eq_true rfl) dJ1_indexOf_4cfef_1 (by decide) ?_
  rintro _ _ ⟨rfl, rfl⟩
  refine j_if_ne C 9 dJ1_indexOf_4cfef_4 (by decide) (fun c4 => ?_) (fun c4 => ?_)
  · rw [show (0 : Int32) = nI 0 from rfl, nI_eq (by omega) (by omega)] at c4
    refine j_iload_n C 2 dJ1_indexOf_4cfef_9 rfl ?_
    refine j_iconst C (v := (nI 0)) dJ1_indexOf_4cfef_10 (by decide) ?_
    refine j_mmax (rest := []) C mxS (by decide) (Nat.le_of_ble_eq_true rfl) dJ1_indexOf_4cfef_11 ?_
    refine j_v (nI (max 0 0)) (mmax_nI (by omega) (by omega)) ?_
    refine j_v (nI 0) rfl ?_
    refine j_istore_n C [(2, .int (nI 0)), (0, .ref (O.2.2 1)), (1, .int (nI b)), (3, .int (nI 3))] dJ1_indexOf_4cfef_14 (by decide) rfl ?_
    refine j_iload_n C 3 dJ1_indexOf_4cfef_15 rfl ?_
    refine j_aload_n C 1 dJ1_indexOf_4cfef_16 rfl ?_
    refine j_tlen C (hO.2.2.1.1 1 (by omega)).2.2.2 (nI 3) rfl dJ1_indexOf_4cfef_17 ?_
    refine j_mmin (rest := []) C mnS (by decide) (Nat.le_of_ble_eq_true rfl) dJ1_indexOf_4cfef_18 ?_
    refine j_v (nI (min 3 3)) (mmin_nI (by omega) (by omega)) ?_
    refine j_v (nI 3) rfl ?_
    refine j_istore_n C [(3, .int (nI 3)), (2, .int (nI 0)), (0, .ref (O.2.2 1)), (1, .int (nI b))] dJ1_indexOf_4cfef_21 (by decide) rfl ?_
    refine j_iload_n C 1 dJ1_indexOf_4cfef_22 rfl ?_
    refine j_iload_n C 0 dJ1_indexOf_4cfef_23 rfl ?_
    refine j_icmp_lt C 29 dJ1_indexOf_4cfef_24 (by decide) (fun c24 => ?_) (fun c24 => ?_)
    · rw [nI_ltI (by omega) (by omega)] at c24
      refine j_aload_n C 2 dJ1_indexOf_4cfef_29 rfl ?_
      refine j_iload_n C 3 dJ1_indexOf_4cfef_30 rfl ?_
      refine j_iload_n C 1 dJ1_indexOf_4cfef_31 rfl ?_
      refine j_iload_n C 0 dJ1_indexOf_4cfef_32 rfl ?_
      refine j_callSO (As := [.ref (O.2.2 1), .int (nI b), .int (nI 0), .int (nI 3)]) (rest := []) C hO swS8 (h_ixChar_1) rfl (Nat.le_of_ble_eq_true rfl) dJ1_indexOf_4cfef_33 (by decide) ?_
      rintro _ _ ⟨rfl, rfl⟩
      refine j_iret C dJ1_indexOf_4cfef_36 ?_
      exact ⟨rfl, rfl⟩
    · rw [nI_ltI (by omega) (by omega)] at c24
      exfalso; omega
  · rw [show (0 : Int32) = nI 0 from rfl, nI_eq (by omega) (by omega)] at c4
    exfalso; omega
theorem dJ0_indexOf_7cf53_0 : decode cJ0_indexOf_7cf53 0 = .ok (.aload_n 0, 1) := by decide +kernel
theorem dJ0_indexOf_7cf53_1 : decode cJ0_indexOf_7cf53 1 = .ok (.invokevirtual 492, 3) := by decide +kernel
theorem dJ0_indexOf_7cf53_4 : decode cJ0_indexOf_7cf53 4 = .ok (.ifCond .eq 19, 3) := by decide +kernel
theorem dJ0_indexOf_7cf53_7 : decode cJ0_indexOf_7cf53 7 = .ok (.aload_n 0, 1) := by decide +kernel
theorem dJ0_indexOf_7cf53_8 : decode cJ0_indexOf_7cf53 8 = .ok (.getfield 9, 3) := by decide +kernel
theorem dJ0_indexOf_7cf53_11 : decode cJ0_indexOf_7cf53 11 = .ok (.iload_n 1, 1) := by decide +kernel
theorem dJ0_indexOf_7cf53_12 : decode cJ0_indexOf_7cf53 12 = .ok (.iload_n 2, 1) := by decide +kernel
theorem dJ0_indexOf_7cf53_13 : decode cJ0_indexOf_7cf53 13 = .ok (.aload_n 0, 1) := by decide +kernel
theorem dJ0_indexOf_7cf53_14 : decode cJ0_indexOf_7cf53 14 = .ok (.invokevirtual 505, 3) := by decide +kernel
theorem dJ0_indexOf_7cf53_17 : decode cJ0_indexOf_7cf53 17 = .ok (.invokestatic 637, 3) := by decide +kernel
theorem dJ0_indexOf_7cf53_20 : decode cJ0_indexOf_7cf53 20 = .ok (.goto 16, 3) := by decide +kernel
theorem dJ0_indexOf_7cf53_23 : decode cJ0_indexOf_7cf53 23 = .ok (.aload_n 0, 1) := by decide +kernel
theorem dJ0_indexOf_7cf53_24 : decode cJ0_indexOf_7cf53 24 = .ok (.getfield 9, 3) := by decide +kernel
theorem dJ0_indexOf_7cf53_27 : decode cJ0_indexOf_7cf53 27 = .ok (.iload_n 1, 1) := by decide +kernel
theorem dJ0_indexOf_7cf53_28 : decode cJ0_indexOf_7cf53 28 = .ok (.iload_n 2, 1) := by decide +kernel
theorem dJ0_indexOf_7cf53_29 : decode cJ0_indexOf_7cf53 29 = .ok (.aload_n 0, 1) := by decide +kernel
theorem dJ0_indexOf_7cf53_30 : decode cJ0_indexOf_7cf53 30 = .ok (.invokevirtual 505, 3) := by decide +kernel
theorem dJ0_indexOf_7cf53_33 : decode cJ0_indexOf_7cf53 33 = .ok (.invokestatic 640, 3) := by decide +kernel
theorem dJ0_indexOf_7cf53_36 : decode cJ0_indexOf_7cf53 36 = .ok (.ireturn, 1) := by decide +kernel
set_option maxHeartbeats 2000000 in
set_option maxRecDepth 20000 in
theorem h_ix2_1 {l : Launch} {D : va_G} {cI cG cW : ClassId} {q : Nat → Nat} {S : Nat → Int32} {X : Nat → Nat → Int32} {P : Nat → Nat} {O : Ou} (b : Nat) (hb : b ≤ 255) : CiO O l yJ0_indexOf_7cf53 cJ0_indexOf_7cf53 3 (some .int) 3 D (tyL cI cG cW) (wC cI cG cW q) [.ref (O.2.1 1), .int (nI b), .int (nI 0)] (S, X, P) (fun r τ => r = ixR 1 ((nI b).toInt8.toInt32) ∧ τ = (S, X, P)) := by
  refine CiO.of (by decide) (Nat.le_of_ble_eq_true rfl) ?_
  intro p_ e_ s_ m_ b_ M_ c_ A_ C hO
  replace C : Cx _ _ _ _ _ _ _ _ RJ0 _ _ _ _ := C
  refine j_L [0, 1, 2] [(0, .ref (O.2.1 1)), (1, .int (nI b)), (2, .int (nI 0))] rfl ?_
  refine j_aload_n C 0 dJ0_indexOf_7cf53_0 rfl ?_
  refine j_callXO (i := 1) (As := []) (rest := []) C hO vwS3 (h_isLatin1_1) ⟨rfl, by decide, rfl⟩ rfl (Nat.le_of_ble_eq_true rfl) dJ0_indexOf_7cf53_1 (by decide) ?_
  rintro _ _ ⟨rfl, rfl⟩
  refine j_if_eq C 23 dJ0_indexOf_7cf53_4 (by decide) (fun c4 => ?_) (fun c4 => ?_)
  · rw [show (0 : Int32) = nI 0 from rfl, nI_eq (by omega) (by omega)] at c4
    exfalso; omega
  · rw [show (0 : Int32) = nI 0 from rfl, nI_eq (by omega) (by omega)] at c4
    refine j_aload_n C 0 dJ0_indexOf_7cf53_7 rfl ?_
    refine j_getX C (hO.2.2.1.1 1 (by omega)).2.2.1 kfO_9 dJ0_indexOf_7cf53_8 ?_
    refine j_iload_n C 1 dJ0_indexOf_7cf53_11 rfl ?_
    refine j_iload_n C 2 dJ0_indexOf_7cf53_12 rfl ?_
    refine j_aload_n C 0 dJ0_indexOf_7cf53_13 rfl ?_
    refine j_callXO (i := 1) (As := []) (rest := [.int (nI 0), .int (nI b), .ref (O.2.2 1)]) C hO vwS4 (h_length_1) ⟨rfl, by decide, rfl⟩ rfl (Nat.le_of_ble_eq_true rfl) dJ0_indexOf_7cf53_14 (by decide) ?_
    rintro _ _ ⟨rfl, rfl⟩
    refine j_callSO (As := [.ref (O.2.2 1), .int (nI b), .int (nI 0), .int (nI 3)]) (rest := []) C hO swS6 (h_ixL_1 b hb) rfl (Nat.le_of_ble_eq_true rfl) dJ0_indexOf_7cf53_17 (by decide) ?_
    rintro _ _ ⟨rfl, rfl⟩
    refine j_goto C 36 dJ0_indexOf_7cf53_20 (by decide) ?_
    refine j_iret C dJ0_indexOf_7cf53_36 ?_
    exact ⟨rfl, rfl⟩
theorem dJ0_indexOf_0f7a4_0 : decode cJ0_indexOf_0f7a4 0 = .ok (.aload_n 0, 1) := by decide +kernel
theorem dJ0_indexOf_0f7a4_1 : decode cJ0_indexOf_0f7a4 1 = .ok (.iload_n 1, 1) := by decide +kernel
theorem dJ0_indexOf_0f7a4_2 : decode cJ0_indexOf_0f7a4 2 = .ok (.iconst 0, 1) := by decide +kernel
theorem dJ0_indexOf_0f7a4_3 : decode cJ0_indexOf_0f7a4 3 = .ok (.invokevirtual 633, 3) := by decide +kernel
theorem dJ0_indexOf_0f7a4_6 : decode cJ0_indexOf_0f7a4 6 = .ok (.ireturn, 1) := by decide +kernel
set_option maxHeartbeats 2000000 in
set_option maxRecDepth 20000 in
theorem h_ix_1 {l : Launch} {D : va_G} {cI cG cW : ClassId} {q : Nat → Nat} {S : Nat → Int32} {X : Nat → Nat → Int32} {P : Nat → Nat} {O : Ou} (b : Nat) (hb : b ≤ 255) : CiO O l yJ0_indexOf_0f7a4 cJ0_indexOf_0f7a4 2 (some .int) 4 D (tyL cI cG cW) (wC cI cG cW q) [.ref (O.2.1 1), .int (nI b)] (S, X, P) (fun r τ => r = ixR 1 ((nI b).toInt8.toInt32) ∧ τ = (S, X, P)) := by
  refine CiO.of (by decide) (Nat.le_of_ble_eq_true rfl) ?_
  intro p_ e_ s_ m_ b_ M_ c_ A_ C hO
  replace C : Cx _ _ _ _ _ _ _ _ RJ0 _ _ _ _ := C
  refine j_L [0, 1] [(0, .ref (O.2.1 1)), (1, .int (nI b))] rfl ?_
  refine j_aload_n C 0 dJ0_indexOf_0f7a4_0 rfl ?_
  refine j_iload_n C 1 dJ0_indexOf_0f7a4_1 rfl ?_
  refine j_iconst C (v := (nI 0)) dJ0_indexOf_0f7a4_2 (by decide) ?_
  refine j_callXO (i := 1) (As := [.int (nI b), .int (nI 0)]) (rest := []) C hO vwS2 (h_ix2_1 b hb) ⟨rfl, by decide, rfl⟩ rfl (Nat.le_of_ble_eq_true rfl) dJ0_indexOf_0f7a4_3 (by decide) ?_
  rintro _ _ ⟨rfl, rfl⟩
  refine j_iret C dJ0_indexOf_0f7a4_6 ?_
  exact ⟨rfl, rfl⟩
set_option maxHeartbeats 2000000 in
set_option maxRecDepth 20000 in
theorem h_ixChar_2 {l : Launch} {D : va_G} {cI cG cW : ClassId} {q : Nat → Nat} {S : Nat → Int32} {X : Nat → Nat → Int32} {P : Nat → Nat} {O : Ou} {x : Int32} : CiO O l yJ1_indexOfChar_4cfef cJ1_indexOfChar_4cfef 6 (some .int) 0 D (tyL cI cG cW) (wC cI cG cW q) [.ref (O.2.2 2), .int x, .int (nI 0), .int (nI 3)] (S, X, P) (fun r τ => r = ixR 2 (x.toInt8.toInt32) ∧ τ = (S, X, P)) := by
  refine CiO.of (by decide) (Nat.le_of_ble_eq_true rfl) ?_
  intro p_ e_ s_ m_ b_ M_ c_ A_ C hO
  replace C : Cx _ _ _ _ _ _ _ _ RJ1 _ _ _ _ := C
  refine j_L [0, 1, 2, 3] [(0, .ref (O.2.2 2)), (1, .int x), (2, .int (nI 0)), (3, .int (nI 3))] rfl ?_
  refine j_iload_n C 1 dJ1_indexOfChar_4cfef_0 rfl ?_
  refine j_i2b C dJ1_indexOfChar_4cfef_1 ?_
  refine j_istore C [(4, .int x.toInt8.toInt32), (0, .ref (O.2.2 2)), (1, .int x), (2, .int (nI 0)), (3, .int (nI 3))] dJ1_indexOfChar_4cfef_2 (by decide) rfl ?_
  refine j_iload_n C 3 dJ1_indexOfChar_4cfef_4 rfl ?_
  refine j_istore C [(5, .int (nI 0)), (4, .int x.toInt8.toInt32), (0, .ref (O.2.2 2)), (1, .int x), (2, .int (nI 0)), (3, .int (nI 3))] dJ1_indexOfChar_4cfef_5 (by decide) rfl ?_
  refine j_iload C 0 dJ1_indexOfChar_4cfef_7 rfl ?_
  refine j_iload_n C 5 dJ1_indexOfChar_4cfef_9 rfl ?_
  refine j_icmp_ge C 31 dJ1_indexOfChar_4cfef_10 (by decide) (fun c10 => ?_) (fun c10 => ?_)
  · rw [nI_leI (by omega) (by omega)] at c10
    exfalso; omega
  · rw [nI_leI (by omega) (by omega)] at c10
    refine j_aload_n C 2 dJ1_indexOfChar_4cfef_13 rfl ?_
    refine j_iload C 0 dJ1_indexOfChar_4cfef_14 rfl ?_
    refine j_tbld C (hO.2.2.1.1 2 (by omega)).2.2.2 0 rfl (by decide) (by decide) (v := btF 2 0) rfl dJ1_indexOfChar_4cfef_16 ?_
    refine j_iload C 1 dJ1_indexOfChar_4cfef_17 rfl ?_
    refine j_icmp_ne C 25 dJ1_indexOfChar_4cfef_19 (by decide) (fun n0 => ?_) (fun n0 => ?_)
    · skip
      refine j_iinc C (v := (nI 1)) 0 [(5, .int (nI 1)), (4, .int x.toInt8.toInt32), (0, .ref (O.2.2 2)), (1, .int x), (2, .int (nI 0)), (3, .int (nI 3))] dJ1_indexOfChar_4cfef_25 rfl (nI_1 _) (by decide) rfl ?_
      refine j_goto C 7 dJ1_indexOfChar_4cfef_28 (by decide) ?_
      refine j_iload C 0 dJ1_indexOfChar_4cfef_7 rfl ?_
      refine j_iload_n C 5 dJ1_indexOfChar_4cfef_9 rfl ?_
      refine j_icmp_ge C 31 dJ1_indexOfChar_4cfef_10 (by decide) (fun c10 => ?_) (fun c10 => ?_)
      · rw [nI_leI (by omega) (by omega)] at c10
        exfalso; omega
      · rw [nI_leI (by omega) (by omega)] at c10
        refine j_aload_n C 2 dJ1_indexOfChar_4cfef_13 rfl ?_
        refine j_iload C 0 dJ1_indexOfChar_4cfef_14 rfl ?_
        refine j_tbld C (hO.2.2.1.1 2 (by omega)).2.2.2 1 rfl (by decide) (by decide) (v := btF 2 1) rfl dJ1_indexOfChar_4cfef_16 ?_
        refine j_iload C 1 dJ1_indexOfChar_4cfef_17 rfl ?_
        refine j_icmp_ne C 25 dJ1_indexOfChar_4cfef_19 (by decide) (fun n1 => ?_) (fun n1 => ?_)
        · skip
          refine j_iinc C (v := (nI 2)) 0 [(5, .int (nI 2)), (4, .int x.toInt8.toInt32), (0, .ref (O.2.2 2)), (1, .int x), (2, .int (nI 0)), (3, .int (nI 3))] dJ1_indexOfChar_4cfef_25 rfl (nI_1 _) (by decide) rfl ?_
          refine j_goto C 7 dJ1_indexOfChar_4cfef_28 (by decide) ?_
          refine j_iload C 0 dJ1_indexOfChar_4cfef_7 rfl ?_
          refine j_iload_n C 5 dJ1_indexOfChar_4cfef_9 rfl ?_
          refine j_icmp_ge C 31 dJ1_indexOfChar_4cfef_10 (by decide) (fun c10 => ?_) (fun c10 => ?_)
          · rw [nI_leI (by omega) (by omega)] at c10
            exfalso; omega
          · rw [nI_leI (by omega) (by omega)] at c10
            refine j_aload_n C 2 dJ1_indexOfChar_4cfef_13 rfl ?_
            refine j_iload C 0 dJ1_indexOfChar_4cfef_14 rfl ?_
            refine j_tbld C (hO.2.2.1.1 2 (by omega)).2.2.2 2 rfl (by decide) (by decide) (v := btF 2 2) rfl dJ1_indexOfChar_4cfef_16 ?_
            refine j_iload C 1 dJ1_indexOfChar_4cfef_17 rfl ?_
            refine j_icmp_ne C 25 dJ1_indexOfChar_4cfef_19 (by decide) (fun n2 => ?_) (fun n2 => ?_)
            · skip
              refine j_iinc C (v := (nI 3)) 0 [(5, .int (nI 3)), (4, .int x.toInt8.toInt32), (0, .ref (O.2.2 2)), (1, .int x), (2, .int (nI 0)), (3, .int (nI 3))] dJ1_indexOfChar_4cfef_25 rfl (nI_1 _) (by decide) rfl ?_
              refine j_goto C 7 dJ1_indexOfChar_4cfef_28 (by decide) ?_
              refine j_iload C 0 dJ1_indexOfChar_4cfef_7 rfl ?_
              refine j_iload_n C 5 dJ1_indexOfChar_4cfef_9 rfl ?_
              refine j_icmp_ge C 31 dJ1_indexOfChar_4cfef_10 (by decide) (fun c10 => ?_) (fun c10 => ?_)
              · rw [nI_leI (by omega) (by omega)] at c10
                refine j_iconst C (v := (-1)) dJ1_indexOfChar_4cfef_31 (by decide) ?_
                refine j_iret C dJ1_indexOfChar_4cfef_32 ?_
                refine ⟨?_, rfl⟩
                unfold ixR
                rw [if_neg n0, if_neg n1, if_neg n2]
              · rw [nI_leI (by omega) (by omega)] at c10
                exfalso; omega
            · have y2 := n2
              refine j_iload C 0 dJ1_indexOfChar_4cfef_22 rfl ?_
              refine j_iret C dJ1_indexOfChar_4cfef_24 ?_
              refine ⟨?_, rfl⟩
              unfold ixR
              rw [if_neg n0, if_neg n1, if_pos y2]
        · have y1 := n1
          refine j_iload C 0 dJ1_indexOfChar_4cfef_22 rfl ?_
          refine j_iret C dJ1_indexOfChar_4cfef_24 ?_
          refine ⟨?_, rfl⟩
          unfold ixR
          rw [if_neg n0, if_pos y1]
    · have y0 := n0
      refine j_iload C 0 dJ1_indexOfChar_4cfef_22 rfl ?_
      refine j_iret C dJ1_indexOfChar_4cfef_24 ?_
      refine ⟨?_, rfl⟩
      unfold ixR
      rw [if_pos y0]
set_option maxHeartbeats 2000000 in
set_option maxRecDepth 20000 in
theorem h_ixL_2 {l : Launch} {D : va_G} {cI cG cW : ClassId} {q : Nat → Nat} {S : Nat → Int32} {X : Nat → Nat → Int32} {P : Nat → Nat} {O : Ou} (b : Nat) (hb : b ≤ 255) : CiO O l yJ1_indexOf_4cfef cJ1_indexOf_4cfef 4 (some .int) 2 D (tyL cI cG cW) (wC cI cG cW q) [.ref (O.2.2 2), .int (nI b), .int (nI 0), .int (nI 3)] (S, X, P) (fun r τ => r = ixR 2 ((nI b).toInt8.toInt32) ∧ τ = (S, X, P)) := by
  refine CiO.of (by decide) (Nat.le_of_ble_eq_true rfl) ?_
  intro p_ e_ s_ m_ b_ M_ c_ A_ C hO
  replace C : Cx _ _ _ _ _ _ _ _ RJ1 _ _ _ _ := C
  refine j_L [0, 1, 2, 3] [(0, .ref (O.2.2 2)), (1, .int (nI b)), (2, .int (nI 0)), (3, .int (nI 3))] rfl ?_
  refine j_iload_n C 1 dJ1_indexOf_4cfef_0 rfl ?_
  refine j_callS (As := [.int (nI b)]) (rest := []) C swS7 (h_canEncode b hb) rfl (Nat.le_of_ble_eq_true rfl) dJ1_indexOf_4cfef_1 (by decide) ?_
  rintro _ _ ⟨rfl, rfl⟩
  refine j_if_ne C 9 dJ1_indexOf_4cfef_4 (by decide) (fun c4 => ?_) (fun c4 => ?_)
  · rw [show (0 : Int32) = nI 0 from rfl, nI_eq (by omega) (by omega)] at c4
    refine j_iload_n C 2 dJ1_indexOf_4cfef_9 rfl ?_
    refine j_iconst C (v := (nI 0)) dJ1_indexOf_4cfef_10 (by decide) ?_
    refine j_mmax (rest := []) C mxS (by decide) (Nat.le_of_ble_eq_true rfl) dJ1_indexOf_4cfef_11 ?_
    refine j_v (nI (max 0 0)) (mmax_nI (by omega) (by omega)) ?_
    refine j_v (nI 0) rfl ?_
    refine j_istore_n C [(2, .int (nI 0)), (0, .ref (O.2.2 2)), (1, .int (nI b)), (3, .int (nI 3))] dJ1_indexOf_4cfef_14 (by decide) rfl ?_
    refine j_iload_n C 3 dJ1_indexOf_4cfef_15 rfl ?_
    refine j_aload_n C 1 dJ1_indexOf_4cfef_16 rfl ?_
    refine j_tlen C (hO.2.2.1.1 2 (by omega)).2.2.2 (nI 3) rfl dJ1_indexOf_4cfef_17 ?_
    refine j_mmin (rest := []) C mnS (by decide) (Nat.le_of_ble_eq_true rfl) dJ1_indexOf_4cfef_18 ?_
    refine j_v (nI (min 3 3)) (mmin_nI (by omega) (by omega)) ?_
    refine j_v (nI 3) rfl ?_
    refine j_istore_n C [(3, .int (nI 3)), (2, .int (nI 0)), (0, .ref (O.2.2 2)), (1, .int (nI b))] dJ1_indexOf_4cfef_21 (by decide) rfl ?_
    refine j_iload_n C 1 dJ1_indexOf_4cfef_22 rfl ?_
    refine j_iload_n C 0 dJ1_indexOf_4cfef_23 rfl ?_
    refine j_icmp_lt C 29 dJ1_indexOf_4cfef_24 (by decide) (fun c24 => ?_) (fun c24 => ?_)
    · rw [nI_ltI (by omega) (by omega)] at c24
      refine j_aload_n C 2 dJ1_indexOf_4cfef_29 rfl ?_
      refine j_iload_n C 3 dJ1_indexOf_4cfef_30 rfl ?_
      refine j_iload_n C 1 dJ1_indexOf_4cfef_31 rfl ?_
      refine j_iload_n C 0 dJ1_indexOf_4cfef_32 rfl ?_
      refine j_callSO (As := [.ref (O.2.2 2), .int (nI b), .int (nI 0), .int (nI 3)]) (rest := []) C hO swS8 (h_ixChar_2) rfl (Nat.le_of_ble_eq_true rfl) dJ1_indexOf_4cfef_33 (by decide) ?_
      rintro _ _ ⟨rfl, rfl⟩
      refine j_iret C dJ1_indexOf_4cfef_36 ?_
      exact ⟨rfl, rfl⟩
    · rw [nI_ltI (by omega) (by omega)] at c24
      exfalso; omega
  · rw [show (0 : Int32) = nI 0 from rfl, nI_eq (by omega) (by omega)] at c4
    exfalso; omega
set_option maxHeartbeats 2000000 in
set_option maxRecDepth 20000 in
theorem h_ix2_2 {l : Launch} {D : va_G} {cI cG cW : ClassId} {q : Nat → Nat} {S : Nat → Int32} {X : Nat → Nat → Int32} {P : Nat → Nat} {O : Ou} (b : Nat) (hb : b ≤ 255) : CiO O l yJ0_indexOf_7cf53 cJ0_indexOf_7cf53 3 (some .int) 3 D (tyL cI cG cW) (wC cI cG cW q) [.ref (O.2.1 2), .int (nI b), .int (nI 0)] (S, X, P) (fun r τ => r = ixR 2 ((nI b).toInt8.toInt32) ∧ τ = (S, X, P)) := by
  refine CiO.of (by decide) (Nat.le_of_ble_eq_true rfl) ?_
  intro p_ e_ s_ m_ b_ M_ c_ A_ C hO
  replace C : Cx _ _ _ _ _ _ _ _ RJ0 _ _ _ _ := C
  refine j_L [0, 1, 2] [(0, .ref (O.2.1 2)), (1, .int (nI b)), (2, .int (nI 0))] rfl ?_
  refine j_aload_n C 0 dJ0_indexOf_7cf53_0 rfl ?_
  refine j_callXO (i := 2) (As := []) (rest := []) C hO vwS3 (h_isLatin1_2) ⟨rfl, by decide, rfl⟩ rfl (Nat.le_of_ble_eq_true rfl) dJ0_indexOf_7cf53_1 (by decide) ?_
  rintro _ _ ⟨rfl, rfl⟩
  refine j_if_eq C 23 dJ0_indexOf_7cf53_4 (by decide) (fun c4 => ?_) (fun c4 => ?_)
  · rw [show (0 : Int32) = nI 0 from rfl, nI_eq (by omega) (by omega)] at c4
    exfalso; omega
  · rw [show (0 : Int32) = nI 0 from rfl, nI_eq (by omega) (by omega)] at c4
    refine j_aload_n C 0 dJ0_indexOf_7cf53_7 rfl ?_
    refine j_getX C (hO.2.2.1.1 2 (by omega)).2.2.1 kfO_9 dJ0_indexOf_7cf53_8 ?_
    refine j_iload_n C 1 dJ0_indexOf_7cf53_11 rfl ?_
    refine j_iload_n C 2 dJ0_indexOf_7cf53_12 rfl ?_
    refine j_aload_n C 0 dJ0_indexOf_7cf53_13 rfl ?_
    refine j_callXO (i := 2) (As := []) (rest := [.int (nI 0), .int (nI b), .ref (O.2.2 2)]) C hO vwS4 (h_length_2) ⟨rfl, by decide, rfl⟩ rfl (Nat.le_of_ble_eq_true rfl) dJ0_indexOf_7cf53_14 (by decide) ?_
    rintro _ _ ⟨rfl, rfl⟩
    refine j_callSO (As := [.ref (O.2.2 2), .int (nI b), .int (nI 0), .int (nI 3)]) (rest := []) C hO swS6 (h_ixL_2 b hb) rfl (Nat.le_of_ble_eq_true rfl) dJ0_indexOf_7cf53_17 (by decide) ?_
    rintro _ _ ⟨rfl, rfl⟩
    refine j_goto C 36 dJ0_indexOf_7cf53_20 (by decide) ?_
    refine j_iret C dJ0_indexOf_7cf53_36 ?_
    exact ⟨rfl, rfl⟩
set_option maxHeartbeats 2000000 in
set_option maxRecDepth 20000 in
theorem h_ix_2 {l : Launch} {D : va_G} {cI cG cW : ClassId} {q : Nat → Nat} {S : Nat → Int32} {X : Nat → Nat → Int32} {P : Nat → Nat} {O : Ou} (b : Nat) (hb : b ≤ 255) : CiO O l yJ0_indexOf_0f7a4 cJ0_indexOf_0f7a4 2 (some .int) 4 D (tyL cI cG cW) (wC cI cG cW q) [.ref (O.2.1 2), .int (nI b)] (S, X, P) (fun r τ => r = ixR 2 ((nI b).toInt8.toInt32) ∧ τ = (S, X, P)) := by
  refine CiO.of (by decide) (Nat.le_of_ble_eq_true rfl) ?_
  intro p_ e_ s_ m_ b_ M_ c_ A_ C hO
  replace C : Cx _ _ _ _ _ _ _ _ RJ0 _ _ _ _ := C
  refine j_L [0, 1] [(0, .ref (O.2.1 2)), (1, .int (nI b))] rfl ?_
  refine j_aload_n C 0 dJ0_indexOf_0f7a4_0 rfl ?_
  refine j_iload_n C 1 dJ0_indexOf_0f7a4_1 rfl ?_
  refine j_iconst C (v := (nI 0)) dJ0_indexOf_0f7a4_2 (by decide) ?_
  refine j_callXO (i := 2) (As := [.int (nI b), .int (nI 0)]) (rest := []) C hO vwS2 (h_ix2_2 b hb) ⟨rfl, by decide, rfl⟩ rfl (Nat.le_of_ble_eq_true rfl) dJ0_indexOf_0f7a4_3 (by decide) ?_
  rintro _ _ ⟨rfl, rfl⟩
  refine j_iret C dJ0_indexOf_0f7a4_6 ?_
  exact ⟨rfl, rfl⟩
theorem dX11_isOrIsUnder_0 : decode cX11_isOrIsUnder 0 = .ok (.iload_n 0, 1) := by decide +kernel
theorem dX11_isOrIsUnder_1 : decode cX11_isOrIsUnder 1 = .ok (.istore_n 2, 1) := by decide +kernel
theorem dX11_isOrIsUnder_2 : decode cX11_isOrIsUnder 2 = .ok (.iconst 0, 1) := by decide +kernel
theorem dX11_isOrIsUnder_3 : decode cX11_isOrIsUnder 3 = .ok (.istore_n 3, 1) := by decide +kernel
theorem dX11_isOrIsUnder_4 : decode cX11_isOrIsUnder 4 = .ok (.iload_n 3, 1) := by decide +kernel
theorem dX11_isOrIsUnder_5 : decode cX11_isOrIsUnder 5 = .ok (.getstatic 157, 3) := by decide +kernel
theorem dX11_isOrIsUnder_8 : decode cX11_isOrIsUnder 8 = .ok (.arraylength, 1) := by decide +kernel
theorem dX11_isOrIsUnder_9 : decode cX11_isOrIsUnder 9 = .ok (.if_icmp .ge 34, 3) := by decide +kernel
theorem dX11_isOrIsUnder_12 : decode cX11_isOrIsUnder 12 = .ok (.iload_n 2, 1) := by decide +kernel
theorem dX11_isOrIsUnder_13 : decode cX11_isOrIsUnder 13 = .ok (.ifCond .lt 30, 3) := by decide +kernel
theorem dX11_isOrIsUnder_16 : decode cX11_isOrIsUnder 16 = .ok (.iload_n 2, 1) := by decide +kernel
theorem dX11_isOrIsUnder_17 : decode cX11_isOrIsUnder 17 = .ok (.getstatic 157, 3) := by decide +kernel
theorem dX11_isOrIsUnder_20 : decode cX11_isOrIsUnder 20 = .ok (.arraylength, 1) := by decide +kernel
theorem dX11_isOrIsUnder_21 : decode cX11_isOrIsUnder 21 = .ok (.if_icmp .ge 22, 3) := by decide +kernel
theorem dX11_isOrIsUnder_24 : decode cX11_isOrIsUnder 24 = .ok (.iload_n 2, 1) := by decide +kernel
theorem dX11_isOrIsUnder_25 : decode cX11_isOrIsUnder 25 = .ok (.iload_n 1, 1) := by decide +kernel
theorem dX11_isOrIsUnder_26 : decode cX11_isOrIsUnder 26 = .ok (.if_icmp .ne 5, 3) := by decide +kernel
theorem dX11_isOrIsUnder_29 : decode cX11_isOrIsUnder 29 = .ok (.iconst 1, 1) := by decide +kernel
theorem dX11_isOrIsUnder_30 : decode cX11_isOrIsUnder 30 = .ok (.ireturn, 1) := by decide +kernel
theorem dX11_isOrIsUnder_31 : decode cX11_isOrIsUnder 31 = .ok (.getstatic 157, 3) := by decide +kernel
theorem dX11_isOrIsUnder_34 : decode cX11_isOrIsUnder 34 = .ok (.iload_n 2, 1) := by decide +kernel
theorem dX11_isOrIsUnder_35 : decode cX11_isOrIsUnder 35 = .ok (.iaload, 1) := by decide +kernel
theorem dX11_isOrIsUnder_36 : decode cX11_isOrIsUnder 36 = .ok (.istore_n 2, 1) := by decide +kernel
theorem dX11_isOrIsUnder_37 : decode cX11_isOrIsUnder 37 = .ok (.iinc 3 1, 3) := by decide +kernel
theorem dX11_isOrIsUnder_40 : decode cX11_isOrIsUnder 40 = .ok (.goto (-36), 3) := by decide +kernel
theorem dX11_isOrIsUnder_43 : decode cX11_isOrIsUnder 43 = .ok (.iconst 0, 1) := by decide +kernel
theorem dX11_isOrIsUnder_44 : decode cX11_isOrIsUnder 44 = .ok (.ireturn, 1) := by decide +kernel
set_option maxHeartbeats 2000000 in
set_option maxRecDepth 20000 in
theorem h_under {l : Launch} {D : va_G} {cI cG cW : ClassId} {q : Nat → Nat} {S : Nat → Int32} {X : Nat → Nat → Int32} {P : Nat → Nat} {O : Ou} (k a : Nat) (hk : k ≤ 6) (ha : a ≤ 6) : CiO O l yX11_isOrIsUnder cX11_isOrIsUnder 4 (some .boolean) 0 D (tyL cI cG cW) (wC cI cG cW q) [.int (nI k), .int (nI a)] (S, X, P) (fun r τ => r = bI (undF k a) ∧ τ = (S, X, P)) := by
  refine CiO.of (by decide) (Nat.le_of_ble_eq_true rfl) ?_
  intro p_ e_ s_ m_ b_ M_ c_ A_ C hO
  replace C : Cx _ _ _ _ _ _ _ _ RX11 _ _ _ _ := C
  refine j_L [0, 1] [(0, .int (nI k)), (1, .int (nI a))] rfl ?_
  rcases (show k = 0 ∨ k = 1 ∨ k = 2 ∨ k = 3 ∨ k = 4 ∨ k = 5 ∨ k = 6 by omega) with rfl | rfl | rfl | rfl | rfl | rfl | rfl
  · refine j_iload_n C 0 dX11_isOrIsUnder_0 rfl ?_
    refine j_istore_n C [(2, .int (nI 0)), (0, .int (nI 0)), (1, .int (nI a))] dX11_isOrIsUnder_1 (by decide) rfl ?_
    refine j_iconst C (v := (nI 0)) dX11_isOrIsUnder_2 (by decide) ?_
    refine j_istore_n C [(3, .int (nI 0)), (2, .int (nI 0)), (0, .int (nI 0)), (1, .int (nI a))] dX11_isOrIsUnder_3 (by decide) rfl ?_
    refine j_iload_n C 0 dX11_isOrIsUnder_4 rfl ?_
    refine j_gets C hO.1.1 kfO_157 dX11_isOrIsUnder_5 ?_
    refine j_tlen C hO.1.2 (nI 7) rfl dX11_isOrIsUnder_8 ?_
    refine j_icmp_ge C 43 dX11_isOrIsUnder_9 (by decide) (fun c9 => ?_) (fun c9 => ?_)
    · rw [nI_leI (by omega) (by omega)] at c9
      exfalso; omega
    · rw [nI_leI (by omega) (by omega)] at c9
      refine j_iload_n C 1 dX11_isOrIsUnder_12 rfl ?_
      refine j_if_lt C 43 dX11_isOrIsUnder_13 (by decide) (fun c13 => ?_) (fun c13 => ?_)
      · rw [show (0 : Int32) = nI 0 from rfl, nI_ltI (by omega) (by omega)] at c13
        exfalso; omega
      · rw [show (0 : Int32) = nI 0 from rfl, nI_ltI (by omega) (by omega)] at c13
        refine j_iload_n C 1 dX11_isOrIsUnder_16 rfl ?_
        refine j_gets C hO.1.1 kfO_157 dX11_isOrIsUnder_17 ?_
        refine j_tlen C hO.1.2 (nI 7) rfl dX11_isOrIsUnder_20 ?_
        refine j_icmp_ge C 43 dX11_isOrIsUnder_21 (by decide) (fun c21 => ?_) (fun c21 => ?_)
        · rw [nI_leI (by omega) (by omega)] at c21
          exact absurd c21 c9
        · rw [nI_leI (by omega) (by omega)] at c21
          refine j_iload_n C 1 dX11_isOrIsUnder_24 rfl ?_
          refine j_iload_n C 3 dX11_isOrIsUnder_25 rfl ?_
          refine j_icmp_ne C 31 dX11_isOrIsUnder_26 (by decide) (fun c26 => ?_) (fun c26 => ?_)
          · rw [nI_eq (by omega) (by omega)] at c26
            refine j_gets C hO.1.1 kfO_157 dX11_isOrIsUnder_31 ?_
            refine j_iload_n C 1 dX11_isOrIsUnder_34 rfl ?_
            refine j_tald C hO.1.2 0 rfl (by omega) (by omega) (v := abvF 0) rfl dX11_isOrIsUnder_35 ?_
            refine j_v (-1) (by decide) ?_
            refine j_istore_n C [(2, .int (-1)), (3, .int (nI 0)), (0, .int (nI 0)), (1, .int (nI a))] dX11_isOrIsUnder_36 (by decide) rfl ?_
            refine j_iinc C (v := (nI 1)) 1 [(3, .int (nI 1)), (2, .int (-1)), (0, .int (nI 0)), (1, .int (nI a))] dX11_isOrIsUnder_37 rfl (nI_1 _) (by decide) rfl ?_
            refine j_goto C 4 dX11_isOrIsUnder_40 (by decide) ?_
            refine j_iload_n C 0 dX11_isOrIsUnder_4 rfl ?_
            refine j_gets C hO.1.1 kfO_157 dX11_isOrIsUnder_5 ?_
            refine j_tlen C hO.1.2 (nI 7) rfl dX11_isOrIsUnder_8 ?_
            refine j_icmp_ge C 43 dX11_isOrIsUnder_9 (by decide) (fun c9 => ?_) (fun c9 => ?_)
            · rw [nI_leI (by omega) (by omega)] at c9
              exfalso; omega
            · rw [nI_leI (by omega) (by omega)] at c9
              refine j_iload_n C 1 dX11_isOrIsUnder_12 rfl ?_
              refine j_if_lt C 43 dX11_isOrIsUnder_13 (by decide) (fun c13 => ?_) (fun c13 => ?_)
              · skip
                refine j_iconst C (v := (nI 0)) dX11_isOrIsUnder_43 (by decide) ?_
                refine j_zret C dX11_isOrIsUnder_44 (by decide) ?_
                refine ⟨bI0 (by unfold undF; omega), rfl⟩
              · skip
                exact absurd (by decide) c13
          · rw [nI_eq (by omega) (by omega)] at c26
            refine j_iconst C (v := (nI 1)) dX11_isOrIsUnder_29 (by decide) ?_
            refine j_zret C dX11_isOrIsUnder_30 (by decide) ?_
            refine ⟨bI1 (by unfold undF; omega), rfl⟩
  · refine j_iload_n C 0 dX11_isOrIsUnder_0 rfl ?_
    refine j_istore_n C [(2, .int (nI 1)), (0, .int (nI 1)), (1, .int (nI a))] dX11_isOrIsUnder_1 (by decide) rfl ?_
    refine j_iconst C (v := (nI 0)) dX11_isOrIsUnder_2 (by decide) ?_
    refine j_istore_n C [(3, .int (nI 0)), (2, .int (nI 1)), (0, .int (nI 1)), (1, .int (nI a))] dX11_isOrIsUnder_3 (by decide) rfl ?_
    refine j_iload_n C 0 dX11_isOrIsUnder_4 rfl ?_
    refine j_gets C hO.1.1 kfO_157 dX11_isOrIsUnder_5 ?_
    refine j_tlen C hO.1.2 (nI 7) rfl dX11_isOrIsUnder_8 ?_
    refine j_icmp_ge C 43 dX11_isOrIsUnder_9 (by decide) (fun c9 => ?_) (fun c9 => ?_)
    · rw [nI_leI (by omega) (by omega)] at c9
      exfalso; omega
    · rw [nI_leI (by omega) (by omega)] at c9
      refine j_iload_n C 1 dX11_isOrIsUnder_12 rfl ?_
      refine j_if_lt C 43 dX11_isOrIsUnder_13 (by decide) (fun c13 => ?_) (fun c13 => ?_)
      · rw [show (0 : Int32) = nI 0 from rfl, nI_ltI (by omega) (by omega)] at c13
        exfalso; omega
      · rw [show (0 : Int32) = nI 0 from rfl, nI_ltI (by omega) (by omega)] at c13
        refine j_iload_n C 1 dX11_isOrIsUnder_16 rfl ?_
        refine j_gets C hO.1.1 kfO_157 dX11_isOrIsUnder_17 ?_
        refine j_tlen C hO.1.2 (nI 7) rfl dX11_isOrIsUnder_20 ?_
        refine j_icmp_ge C 43 dX11_isOrIsUnder_21 (by decide) (fun c21 => ?_) (fun c21 => ?_)
        · rw [nI_leI (by omega) (by omega)] at c21
          exfalso; omega
        · rw [nI_leI (by omega) (by omega)] at c21
          refine j_iload_n C 1 dX11_isOrIsUnder_24 rfl ?_
          refine j_iload_n C 3 dX11_isOrIsUnder_25 rfl ?_
          refine j_icmp_ne C 31 dX11_isOrIsUnder_26 (by decide) (fun c26 => ?_) (fun c26 => ?_)
          · rw [nI_eq (by omega) (by omega)] at c26
            refine j_gets C hO.1.1 kfO_157 dX11_isOrIsUnder_31 ?_
            refine j_iload_n C 1 dX11_isOrIsUnder_34 rfl ?_
            refine j_tald C hO.1.2 1 rfl (by omega) (by omega) (v := abvF 1) rfl dX11_isOrIsUnder_35 ?_
            refine j_v (nI 0) (by decide) ?_
            refine j_istore_n C [(2, .int (nI 0)), (3, .int (nI 0)), (0, .int (nI 1)), (1, .int (nI a))] dX11_isOrIsUnder_36 (by decide) rfl ?_
            refine j_iinc C (v := (nI 1)) 1 [(3, .int (nI 1)), (2, .int (nI 0)), (0, .int (nI 1)), (1, .int (nI a))] dX11_isOrIsUnder_37 rfl (nI_1 _) (by decide) rfl ?_
            refine j_goto C 4 dX11_isOrIsUnder_40 (by decide) ?_
            refine j_iload_n C 0 dX11_isOrIsUnder_4 rfl ?_
            refine j_gets C hO.1.1 kfO_157 dX11_isOrIsUnder_5 ?_
            refine j_tlen C hO.1.2 (nI 7) rfl dX11_isOrIsUnder_8 ?_
            refine j_icmp_ge C 43 dX11_isOrIsUnder_9 (by decide) (fun c9 => ?_) (fun c9 => ?_)
            · rw [nI_leI (by omega) (by omega)] at c9
              exfalso; omega
            · rw [nI_leI (by omega) (by omega)] at c9
              refine j_iload_n C 1 dX11_isOrIsUnder_12 rfl ?_
              refine j_if_lt C 43 dX11_isOrIsUnder_13 (by decide) (fun c13 => ?_) (fun c13 => ?_)
              · rw [show (0 : Int32) = nI 0 from rfl, nI_ltI (by omega) (by omega)] at c13
                exfalso; omega
              · rw [show (0 : Int32) = nI 0 from rfl, nI_ltI (by omega) (by omega)] at c13
                refine j_iload_n C 1 dX11_isOrIsUnder_16 rfl ?_
                refine j_gets C hO.1.1 kfO_157 dX11_isOrIsUnder_17 ?_
                refine j_tlen C hO.1.2 (nI 7) rfl dX11_isOrIsUnder_20 ?_
                refine j_icmp_ge C 43 dX11_isOrIsUnder_21 (by decide) (fun c21 => ?_) (fun c21 => ?_)
                · rw [nI_leI (by omega) (by omega)] at c21
                  exfalso; omega
                · rw [nI_leI (by omega) (by omega)] at c21
                  refine j_iload_n C 1 dX11_isOrIsUnder_24 rfl ?_
                  refine j_iload_n C 3 dX11_isOrIsUnder_25 rfl ?_
                  refine j_icmp_ne C 31 dX11_isOrIsUnder_26 (by decide) (fun c26 => ?_) (fun c26 => ?_)
                  · rw [nI_eq (by omega) (by omega)] at c26
                    refine j_gets C hO.1.1 kfO_157 dX11_isOrIsUnder_31 ?_
                    refine j_iload_n C 1 dX11_isOrIsUnder_34 rfl ?_
                    refine j_tald C hO.1.2 0 rfl (by omega) (by omega) (v := abvF 0) rfl dX11_isOrIsUnder_35 ?_
                    refine j_v (-1) (by decide) ?_
                    refine j_istore_n C [(2, .int (-1)), (3, .int (nI 1)), (0, .int (nI 1)), (1, .int (nI a))] dX11_isOrIsUnder_36 (by decide) rfl ?_
                    refine j_iinc C (v := (nI 2)) 1 [(3, .int (nI 2)), (2, .int (-1)), (0, .int (nI 1)), (1, .int (nI a))] dX11_isOrIsUnder_37 rfl (nI_1 _) (by decide) rfl ?_
                    refine j_goto C 4 dX11_isOrIsUnder_40 (by decide) ?_
                    refine j_iload_n C 0 dX11_isOrIsUnder_4 rfl ?_
                    refine j_gets C hO.1.1 kfO_157 dX11_isOrIsUnder_5 ?_
                    refine j_tlen C hO.1.2 (nI 7) rfl dX11_isOrIsUnder_8 ?_
                    refine j_icmp_ge C 43 dX11_isOrIsUnder_9 (by decide) (fun c9 => ?_) (fun c9 => ?_)
                    · rw [nI_leI (by omega) (by omega)] at c9
                      exfalso; omega
                    · rw [nI_leI (by omega) (by omega)] at c9
                      refine j_iload_n C 1 dX11_isOrIsUnder_12 rfl ?_
                      refine j_if_lt C 43 dX11_isOrIsUnder_13 (by decide) (fun c13 => ?_) (fun c13 => ?_)
                      · skip
                        refine j_iconst C (v := (nI 0)) dX11_isOrIsUnder_43 (by decide) ?_
                        refine j_zret C dX11_isOrIsUnder_44 (by decide) ?_
                        refine ⟨bI0 (by unfold undF; omega), rfl⟩
                      · skip
                        exact absurd (by decide) c13
                  · rw [nI_eq (by omega) (by omega)] at c26
                    refine j_iconst C (v := (nI 1)) dX11_isOrIsUnder_29 (by decide) ?_
                    refine j_zret C dX11_isOrIsUnder_30 (by decide) ?_
                    refine ⟨bI1 (by unfold undF; omega), rfl⟩
          · rw [nI_eq (by omega) (by omega)] at c26
            refine j_iconst C (v := (nI 1)) dX11_isOrIsUnder_29 (by decide) ?_
            refine j_zret C dX11_isOrIsUnder_30 (by decide) ?_
            refine ⟨bI1 (by unfold undF; omega), rfl⟩
  · refine j_iload_n C 0 dX11_isOrIsUnder_0 rfl ?_
    refine j_istore_n C [(2, .int (nI 2)), (0, .int (nI 2)), (1, .int (nI a))] dX11_isOrIsUnder_1 (by decide) rfl ?_
    refine j_iconst C (v := (nI 0)) dX11_isOrIsUnder_2 (by decide) ?_
    refine j_istore_n C [(3, .int (nI 0)), (2, .int (nI 2)), (0, .int (nI 2)), (1, .int (nI a))] dX11_isOrIsUnder_3 (by decide) rfl ?_
    refine j_iload_n C 0 dX11_isOrIsUnder_4 rfl ?_
    refine j_gets C hO.1.1 kfO_157 dX11_isOrIsUnder_5 ?_
    refine j_tlen C hO.1.2 (nI 7) rfl dX11_isOrIsUnder_8 ?_
    refine j_icmp_ge C 43 dX11_isOrIsUnder_9 (by decide) (fun c9 => ?_) (fun c9 => ?_)
    · rw [nI_leI (by omega) (by omega)] at c9
      exfalso; omega
    · rw [nI_leI (by omega) (by omega)] at c9
      refine j_iload_n C 1 dX11_isOrIsUnder_12 rfl ?_
      refine j_if_lt C 43 dX11_isOrIsUnder_13 (by decide) (fun c13 => ?_) (fun c13 => ?_)
      · rw [show (0 : Int32) = nI 0 from rfl, nI_ltI (by omega) (by omega)] at c13
        exfalso; omega
      · rw [show (0 : Int32) = nI 0 from rfl, nI_ltI (by omega) (by omega)] at c13
        refine j_iload_n C 1 dX11_isOrIsUnder_16 rfl ?_
        refine j_gets C hO.1.1 kfO_157 dX11_isOrIsUnder_17 ?_
        refine j_tlen C hO.1.2 (nI 7) rfl dX11_isOrIsUnder_20 ?_
        refine j_icmp_ge C 43 dX11_isOrIsUnder_21 (by decide) (fun c21 => ?_) (fun c21 => ?_)
        · rw [nI_leI (by omega) (by omega)] at c21
          exfalso; omega
        · rw [nI_leI (by omega) (by omega)] at c21
          refine j_iload_n C 1 dX11_isOrIsUnder_24 rfl ?_
          refine j_iload_n C 3 dX11_isOrIsUnder_25 rfl ?_
          refine j_icmp_ne C 31 dX11_isOrIsUnder_26 (by decide) (fun c26 => ?_) (fun c26 => ?_)
          · rw [nI_eq (by omega) (by omega)] at c26
            refine j_gets C hO.1.1 kfO_157 dX11_isOrIsUnder_31 ?_
            refine j_iload_n C 1 dX11_isOrIsUnder_34 rfl ?_
            refine j_tald C hO.1.2 2 rfl (by omega) (by omega) (v := abvF 2) rfl dX11_isOrIsUnder_35 ?_
            refine j_v (nI 0) (by decide) ?_
            refine j_istore_n C [(2, .int (nI 0)), (3, .int (nI 0)), (0, .int (nI 2)), (1, .int (nI a))] dX11_isOrIsUnder_36 (by decide) rfl ?_
            refine j_iinc C (v := (nI 1)) 1 [(3, .int (nI 1)), (2, .int (nI 0)), (0, .int (nI 2)), (1, .int (nI a))] dX11_isOrIsUnder_37 rfl (nI_1 _) (by decide) rfl ?_
            refine j_goto C 4 dX11_isOrIsUnder_40 (by decide) ?_
            refine j_iload_n C 0 dX11_isOrIsUnder_4 rfl ?_
            refine j_gets C hO.1.1 kfO_157 dX11_isOrIsUnder_5 ?_
            refine j_tlen C hO.1.2 (nI 7) rfl dX11_isOrIsUnder_8 ?_
            refine j_icmp_ge C 43 dX11_isOrIsUnder_9 (by decide) (fun c9 => ?_) (fun c9 => ?_)
            · rw [nI_leI (by omega) (by omega)] at c9
              exfalso; omega
            · rw [nI_leI (by omega) (by omega)] at c9
              refine j_iload_n C 1 dX11_isOrIsUnder_12 rfl ?_
              refine j_if_lt C 43 dX11_isOrIsUnder_13 (by decide) (fun c13 => ?_) (fun c13 => ?_)
              · rw [show (0 : Int32) = nI 0 from rfl, nI_ltI (by omega) (by omega)] at c13
                exfalso; omega
              · rw [show (0 : Int32) = nI 0 from rfl, nI_ltI (by omega) (by omega)] at c13
                refine j_iload_n C 1 dX11_isOrIsUnder_16 rfl ?_
                refine j_gets C hO.1.1 kfO_157 dX11_isOrIsUnder_17 ?_
                refine j_tlen C hO.1.2 (nI 7) rfl dX11_isOrIsUnder_20 ?_
                refine j_icmp_ge C 43 dX11_isOrIsUnder_21 (by decide) (fun c21 => ?_) (fun c21 => ?_)
                · rw [nI_leI (by omega) (by omega)] at c21
                  exfalso; omega
                · rw [nI_leI (by omega) (by omega)] at c21
                  refine j_iload_n C 1 dX11_isOrIsUnder_24 rfl ?_
                  refine j_iload_n C 3 dX11_isOrIsUnder_25 rfl ?_
                  refine j_icmp_ne C 31 dX11_isOrIsUnder_26 (by decide) (fun c26 => ?_) (fun c26 => ?_)
                  · rw [nI_eq (by omega) (by omega)] at c26
                    refine j_gets C hO.1.1 kfO_157 dX11_isOrIsUnder_31 ?_
                    refine j_iload_n C 1 dX11_isOrIsUnder_34 rfl ?_
                    refine j_tald C hO.1.2 0 rfl (by omega) (by omega) (v := abvF 0) rfl dX11_isOrIsUnder_35 ?_
                    refine j_v (-1) (by decide) ?_
                    refine j_istore_n C [(2, .int (-1)), (3, .int (nI 1)), (0, .int (nI 2)), (1, .int (nI a))] dX11_isOrIsUnder_36 (by decide) rfl ?_
                    refine j_iinc C (v := (nI 2)) 1 [(3, .int (nI 2)), (2, .int (-1)), (0, .int (nI 2)), (1, .int (nI a))] dX11_isOrIsUnder_37 rfl (nI_1 _) (by decide) rfl ?_
                    refine j_goto C 4 dX11_isOrIsUnder_40 (by decide) ?_
                    refine j_iload_n C 0 dX11_isOrIsUnder_4 rfl ?_
                    refine j_gets C hO.1.1 kfO_157 dX11_isOrIsUnder_5 ?_
                    refine j_tlen C hO.1.2 (nI 7) rfl dX11_isOrIsUnder_8 ?_
                    refine j_icmp_ge C 43 dX11_isOrIsUnder_9 (by decide) (fun c9 => ?_) (fun c9 => ?_)
                    · rw [nI_leI (by omega) (by omega)] at c9
                      exfalso; omega
                    · rw [nI_leI (by omega) (by omega)] at c9
                      refine j_iload_n C 1 dX11_isOrIsUnder_12 rfl ?_
                      refine j_if_lt C 43 dX11_isOrIsUnder_13 (by decide) (fun c13 => ?_) (fun c13 => ?_)
                      · skip
                        refine j_iconst C (v := (nI 0)) dX11_isOrIsUnder_43 (by decide) ?_
                        refine j_zret C dX11_isOrIsUnder_44 (by decide) ?_
                        refine ⟨bI0 (by unfold undF; omega), rfl⟩
                      · skip
                        exact absurd (by decide) c13
                  · rw [nI_eq (by omega) (by omega)] at c26
                    refine j_iconst C (v := (nI 1)) dX11_isOrIsUnder_29 (by decide) ?_
                    refine j_zret C dX11_isOrIsUnder_30 (by decide) ?_
                    refine ⟨bI1 (by unfold undF; omega), rfl⟩
          · rw [nI_eq (by omega) (by omega)] at c26
            refine j_iconst C (v := (nI 1)) dX11_isOrIsUnder_29 (by decide) ?_
            refine j_zret C dX11_isOrIsUnder_30 (by decide) ?_
            refine ⟨bI1 (by unfold undF; omega), rfl⟩
  · refine j_iload_n C 0 dX11_isOrIsUnder_0 rfl ?_
    refine j_istore_n C [(2, .int (nI 3)), (0, .int (nI 3)), (1, .int (nI a))] dX11_isOrIsUnder_1 (by decide) rfl ?_
    refine j_iconst C (v := (nI 0)) dX11_isOrIsUnder_2 (by decide) ?_
    refine j_istore_n C [(3, .int (nI 0)), (2, .int (nI 3)), (0, .int (nI 3)), (1, .int (nI a))] dX11_isOrIsUnder_3 (by decide) rfl ?_
    refine j_iload_n C 0 dX11_isOrIsUnder_4 rfl ?_
    refine j_gets C hO.1.1 kfO_157 dX11_isOrIsUnder_5 ?_
    refine j_tlen C hO.1.2 (nI 7) rfl dX11_isOrIsUnder_8 ?_
    refine j_icmp_ge C 43 dX11_isOrIsUnder_9 (by decide) (fun c9 => ?_) (fun c9 => ?_)
    · rw [nI_leI (by omega) (by omega)] at c9
      exfalso; omega
    · rw [nI_leI (by omega) (by omega)] at c9
      refine j_iload_n C 1 dX11_isOrIsUnder_12 rfl ?_
      refine j_if_lt C 43 dX11_isOrIsUnder_13 (by decide) (fun c13 => ?_) (fun c13 => ?_)
      · rw [show (0 : Int32) = nI 0 from rfl, nI_ltI (by omega) (by omega)] at c13
        exfalso; omega
      · rw [show (0 : Int32) = nI 0 from rfl, nI_ltI (by omega) (by omega)] at c13
        refine j_iload_n C 1 dX11_isOrIsUnder_16 rfl ?_
        refine j_gets C hO.1.1 kfO_157 dX11_isOrIsUnder_17 ?_
        refine j_tlen C hO.1.2 (nI 7) rfl dX11_isOrIsUnder_20 ?_
        refine j_icmp_ge C 43 dX11_isOrIsUnder_21 (by decide) (fun c21 => ?_) (fun c21 => ?_)
        · rw [nI_leI (by omega) (by omega)] at c21
          exfalso; omega
        · rw [nI_leI (by omega) (by omega)] at c21
          refine j_iload_n C 1 dX11_isOrIsUnder_24 rfl ?_
          refine j_iload_n C 3 dX11_isOrIsUnder_25 rfl ?_
          refine j_icmp_ne C 31 dX11_isOrIsUnder_26 (by decide) (fun c26 => ?_) (fun c26 => ?_)
          · rw [nI_eq (by omega) (by omega)] at c26
            refine j_gets C hO.1.1 kfO_157 dX11_isOrIsUnder_31 ?_
            refine j_iload_n C 1 dX11_isOrIsUnder_34 rfl ?_
            refine j_tald C hO.1.2 3 rfl (by omega) (by omega) (v := abvF 3) rfl dX11_isOrIsUnder_35 ?_
            refine j_v (nI 0) (by decide) ?_
            refine j_istore_n C [(2, .int (nI 0)), (3, .int (nI 0)), (0, .int (nI 3)), (1, .int (nI a))] dX11_isOrIsUnder_36 (by decide) rfl ?_
            refine j_iinc C (v := (nI 1)) 1 [(3, .int (nI 1)), (2, .int (nI 0)), (0, .int (nI 3)), (1, .int (nI a))] dX11_isOrIsUnder_37 rfl (nI_1 _) (by decide) rfl ?_
            refine j_goto C 4 dX11_isOrIsUnder_40 (by decide) ?_
            refine j_iload_n C 0 dX11_isOrIsUnder_4 rfl ?_
            refine j_gets C hO.1.1 kfO_157 dX11_isOrIsUnder_5 ?_
            refine j_tlen C hO.1.2 (nI 7) rfl dX11_isOrIsUnder_8 ?_
            refine j_icmp_ge C 43 dX11_isOrIsUnder_9 (by decide) (fun c9 => ?_) (fun c9 => ?_)
            · rw [nI_leI (by omega) (by omega)] at c9
              exfalso; omega
            · rw [nI_leI (by omega) (by omega)] at c9
              refine j_iload_n C 1 dX11_isOrIsUnder_12 rfl ?_
              refine j_if_lt C 43 dX11_isOrIsUnder_13 (by decide) (fun c13 => ?_) (fun c13 => ?_)
              · rw [show (0 : Int32) = nI 0 from rfl, nI_ltI (by omega) (by omega)] at c13
                exfalso; omega
              · rw [show (0 : Int32) = nI 0 from rfl, nI_ltI (by omega) (by omega)] at c13
                refine j_iload_n C 1 dX11_isOrIsUnder_16 rfl ?_
                refine j_gets C hO.1.1 kfO_157 dX11_isOrIsUnder_17 ?_
                refine j_tlen C hO.1.2 (nI 7) rfl dX11_isOrIsUnder_20 ?_
                refine j_icmp_ge C 43 dX11_isOrIsUnder_21 (by decide) (fun c21 => ?_) (fun c21 => ?_)
                · rw [nI_leI (by omega) (by omega)] at c21
                  exfalso; omega
                · rw [nI_leI (by omega) (by omega)] at c21
                  refine j_iload_n C 1 dX11_isOrIsUnder_24 rfl ?_
                  refine j_iload_n C 3 dX11_isOrIsUnder_25 rfl ?_
                  refine j_icmp_ne C 31 dX11_isOrIsUnder_26 (by decide) (fun c26 => ?_) (fun c26 => ?_)
                  · rw [nI_eq (by omega) (by omega)] at c26
                    refine j_gets C hO.1.1 kfO_157 dX11_isOrIsUnder_31 ?_
                    refine j_iload_n C 1 dX11_isOrIsUnder_34 rfl ?_
                    refine j_tald C hO.1.2 0 rfl (by omega) (by omega) (v := abvF 0) rfl dX11_isOrIsUnder_35 ?_
                    refine j_v (-1) (by decide) ?_
                    refine j_istore_n C [(2, .int (-1)), (3, .int (nI 1)), (0, .int (nI 3)), (1, .int (nI a))] dX11_isOrIsUnder_36 (by decide) rfl ?_
                    refine j_iinc C (v := (nI 2)) 1 [(3, .int (nI 2)), (2, .int (-1)), (0, .int (nI 3)), (1, .int (nI a))] dX11_isOrIsUnder_37 rfl (nI_1 _) (by decide) rfl ?_
                    refine j_goto C 4 dX11_isOrIsUnder_40 (by decide) ?_
                    refine j_iload_n C 0 dX11_isOrIsUnder_4 rfl ?_
                    refine j_gets C hO.1.1 kfO_157 dX11_isOrIsUnder_5 ?_
                    refine j_tlen C hO.1.2 (nI 7) rfl dX11_isOrIsUnder_8 ?_
                    refine j_icmp_ge C 43 dX11_isOrIsUnder_9 (by decide) (fun c9 => ?_) (fun c9 => ?_)
                    · rw [nI_leI (by omega) (by omega)] at c9
                      exfalso; omega
                    · rw [nI_leI (by omega) (by omega)] at c9
                      refine j_iload_n C 1 dX11_isOrIsUnder_12 rfl ?_
                      refine j_if_lt C 43 dX11_isOrIsUnder_13 (by decide) (fun c13 => ?_) (fun c13 => ?_)
                      · skip
                        refine j_iconst C (v := (nI 0)) dX11_isOrIsUnder_43 (by decide) ?_
                        refine j_zret C dX11_isOrIsUnder_44 (by decide) ?_
                        refine ⟨bI0 (by unfold undF; omega), rfl⟩
                      · skip
                        exact absurd (by decide) c13
                  · rw [nI_eq (by omega) (by omega)] at c26
                    refine j_iconst C (v := (nI 1)) dX11_isOrIsUnder_29 (by decide) ?_
                    refine j_zret C dX11_isOrIsUnder_30 (by decide) ?_
                    refine ⟨bI1 (by unfold undF; omega), rfl⟩
          · rw [nI_eq (by omega) (by omega)] at c26
            refine j_iconst C (v := (nI 1)) dX11_isOrIsUnder_29 (by decide) ?_
            refine j_zret C dX11_isOrIsUnder_30 (by decide) ?_
            refine ⟨bI1 (by unfold undF; omega), rfl⟩
  · refine j_iload_n C 0 dX11_isOrIsUnder_0 rfl ?_
    refine j_istore_n C [(2, .int (nI 4)), (0, .int (nI 4)), (1, .int (nI a))] dX11_isOrIsUnder_1 (by decide) rfl ?_
    refine j_iconst C (v := (nI 0)) dX11_isOrIsUnder_2 (by decide) ?_
    refine j_istore_n C [(3, .int (nI 0)), (2, .int (nI 4)), (0, .int (nI 4)), (1, .int (nI a))] dX11_isOrIsUnder_3 (by decide) rfl ?_
    refine j_iload_n C 0 dX11_isOrIsUnder_4 rfl ?_
    refine j_gets C hO.1.1 kfO_157 dX11_isOrIsUnder_5 ?_
    refine j_tlen C hO.1.2 (nI 7) rfl dX11_isOrIsUnder_8 ?_
    refine j_icmp_ge C 43 dX11_isOrIsUnder_9 (by decide) (fun c9 => ?_) (fun c9 => ?_)
    · rw [nI_leI (by omega) (by omega)] at c9
      exfalso; omega
    · rw [nI_leI (by omega) (by omega)] at c9
      refine j_iload_n C 1 dX11_isOrIsUnder_12 rfl ?_
      refine j_if_lt C 43 dX11_isOrIsUnder_13 (by decide) (fun c13 => ?_) (fun c13 => ?_)
      · rw [show (0 : Int32) = nI 0 from rfl, nI_ltI (by omega) (by omega)] at c13
        exfalso; omega
      · rw [show (0 : Int32) = nI 0 from rfl, nI_ltI (by omega) (by omega)] at c13
        refine j_iload_n C 1 dX11_isOrIsUnder_16 rfl ?_
        refine j_gets C hO.1.1 kfO_157 dX11_isOrIsUnder_17 ?_
        refine j_tlen C hO.1.2 (nI 7) rfl dX11_isOrIsUnder_20 ?_
        refine j_icmp_ge C 43 dX11_isOrIsUnder_21 (by decide) (fun c21 => ?_) (fun c21 => ?_)
        · rw [nI_leI (by omega) (by omega)] at c21
          exfalso; omega
        · rw [nI_leI (by omega) (by omega)] at c21
          refine j_iload_n C 1 dX11_isOrIsUnder_24 rfl ?_
          refine j_iload_n C 3 dX11_isOrIsUnder_25 rfl ?_
          refine j_icmp_ne C 31 dX11_isOrIsUnder_26 (by decide) (fun c26 => ?_) (fun c26 => ?_)
          · rw [nI_eq (by omega) (by omega)] at c26
            refine j_gets C hO.1.1 kfO_157 dX11_isOrIsUnder_31 ?_
            refine j_iload_n C 1 dX11_isOrIsUnder_34 rfl ?_
            refine j_tald C hO.1.2 4 rfl (by omega) (by omega) (v := abvF 4) rfl dX11_isOrIsUnder_35 ?_
            refine j_v (nI 1) (by decide) ?_
            refine j_istore_n C [(2, .int (nI 1)), (3, .int (nI 0)), (0, .int (nI 4)), (1, .int (nI a))] dX11_isOrIsUnder_36 (by decide) rfl ?_
            refine j_iinc C (v := (nI 1)) 1 [(3, .int (nI 1)), (2, .int (nI 1)), (0, .int (nI 4)), (1, .int (nI a))] dX11_isOrIsUnder_37 rfl (nI_1 _) (by decide) rfl ?_
            refine j_goto C 4 dX11_isOrIsUnder_40 (by decide) ?_
            refine j_iload_n C 0 dX11_isOrIsUnder_4 rfl ?_
            refine j_gets C hO.1.1 kfO_157 dX11_isOrIsUnder_5 ?_
            refine j_tlen C hO.1.2 (nI 7) rfl dX11_isOrIsUnder_8 ?_
            refine j_icmp_ge C 43 dX11_isOrIsUnder_9 (by decide) (fun c9 => ?_) (fun c9 => ?_)
            · rw [nI_leI (by omega) (by omega)] at c9
              exfalso; omega
            · rw [nI_leI (by omega) (by omega)] at c9
              refine j_iload_n C 1 dX11_isOrIsUnder_12 rfl ?_
              refine j_if_lt C 43 dX11_isOrIsUnder_13 (by decide) (fun c13 => ?_) (fun c13 => ?_)
              · rw [show (0 : Int32) = nI 0 from rfl, nI_ltI (by omega) (by omega)] at c13
                exfalso; omega
              · rw [show (0 : Int32) = nI 0 from rfl, nI_ltI (by omega) (by omega)] at c13
                refine j_iload_n C 1 dX11_isOrIsUnder_16 rfl ?_
                refine j_gets C hO.1.1 kfO_157 dX11_isOrIsUnder_17 ?_
                refine j_tlen C hO.1.2 (nI 7) rfl dX11_isOrIsUnder_20 ?_
                refine j_icmp_ge C 43 dX11_isOrIsUnder_21 (by decide) (fun c21 => ?_) (fun c21 => ?_)
                · rw [nI_leI (by omega) (by omega)] at c21
                  exact absurd c21 c9
                · rw [nI_leI (by omega) (by omega)] at c21
                  refine j_iload_n C 1 dX11_isOrIsUnder_24 rfl ?_
                  refine j_iload_n C 3 dX11_isOrIsUnder_25 rfl ?_
                  refine j_icmp_ne C 31 dX11_isOrIsUnder_26 (by decide) (fun c26 => ?_) (fun c26 => ?_)
                  · rw [nI_eq (by omega) (by omega)] at c26
                    refine j_gets C hO.1.1 kfO_157 dX11_isOrIsUnder_31 ?_
                    refine j_iload_n C 1 dX11_isOrIsUnder_34 rfl ?_
                    refine j_tald C hO.1.2 1 rfl (by omega) (by omega) (v := abvF 1) rfl dX11_isOrIsUnder_35 ?_
                    refine j_v (nI 0) (by decide) ?_
                    refine j_istore_n C [(2, .int (nI 0)), (3, .int (nI 1)), (0, .int (nI 4)), (1, .int (nI a))] dX11_isOrIsUnder_36 (by decide) rfl ?_
                    refine j_iinc C (v := (nI 2)) 1 [(3, .int (nI 2)), (2, .int (nI 0)), (0, .int (nI 4)), (1, .int (nI a))] dX11_isOrIsUnder_37 rfl (nI_1 _) (by decide) rfl ?_
                    refine j_goto C 4 dX11_isOrIsUnder_40 (by decide) ?_
                    refine j_iload_n C 0 dX11_isOrIsUnder_4 rfl ?_
                    refine j_gets C hO.1.1 kfO_157 dX11_isOrIsUnder_5 ?_
                    refine j_tlen C hO.1.2 (nI 7) rfl dX11_isOrIsUnder_8 ?_
                    refine j_icmp_ge C 43 dX11_isOrIsUnder_9 (by decide) (fun c9 => ?_) (fun c9 => ?_)
                    · rw [nI_leI (by omega) (by omega)] at c9
                      exfalso; omega
                    · rw [nI_leI (by omega) (by omega)] at c9
                      refine j_iload_n C 1 dX11_isOrIsUnder_12 rfl ?_
                      refine j_if_lt C 43 dX11_isOrIsUnder_13 (by decide) (fun c13 => ?_) (fun c13 => ?_)
                      · rw [show (0 : Int32) = nI 0 from rfl, nI_ltI (by omega) (by omega)] at c13
                        exfalso; omega
                      · rw [show (0 : Int32) = nI 0 from rfl, nI_ltI (by omega) (by omega)] at c13
                        refine j_iload_n C 1 dX11_isOrIsUnder_16 rfl ?_
                        refine j_gets C hO.1.1 kfO_157 dX11_isOrIsUnder_17 ?_
                        refine j_tlen C hO.1.2 (nI 7) rfl dX11_isOrIsUnder_20 ?_
                        refine j_icmp_ge C 43 dX11_isOrIsUnder_21 (by decide) (fun c21 => ?_) (fun c21 => ?_)
                        · rw [nI_leI (by omega) (by omega)] at c21
                          exfalso; omega
                        · rw [nI_leI (by omega) (by omega)] at c21
                          refine j_iload_n C 1 dX11_isOrIsUnder_24 rfl ?_
                          refine j_iload_n C 3 dX11_isOrIsUnder_25 rfl ?_
                          refine j_icmp_ne C 31 dX11_isOrIsUnder_26 (by decide) (fun c26 => ?_) (fun c26 => ?_)
                          · rw [nI_eq (by omega) (by omega)] at c26
                            refine j_gets C hO.1.1 kfO_157 dX11_isOrIsUnder_31 ?_
                            refine j_iload_n C 1 dX11_isOrIsUnder_34 rfl ?_
                            refine j_tald C hO.1.2 0 rfl (by omega) (by omega) (v := abvF 0) rfl dX11_isOrIsUnder_35 ?_
                            refine j_v (-1) (by decide) ?_
                            refine j_istore_n C [(2, .int (-1)), (3, .int (nI 2)), (0, .int (nI 4)), (1, .int (nI a))] dX11_isOrIsUnder_36 (by decide) rfl ?_
                            refine j_iinc C (v := (nI 3)) 1 [(3, .int (nI 3)), (2, .int (-1)), (0, .int (nI 4)), (1, .int (nI a))] dX11_isOrIsUnder_37 rfl (nI_1 _) (by decide) rfl ?_
                            refine j_goto C 4 dX11_isOrIsUnder_40 (by decide) ?_
                            refine j_iload_n C 0 dX11_isOrIsUnder_4 rfl ?_
                            refine j_gets C hO.1.1 kfO_157 dX11_isOrIsUnder_5 ?_
                            refine j_tlen C hO.1.2 (nI 7) rfl dX11_isOrIsUnder_8 ?_
                            refine j_icmp_ge C 43 dX11_isOrIsUnder_9 (by decide) (fun c9 => ?_) (fun c9 => ?_)
                            · rw [nI_leI (by omega) (by omega)] at c9
                              exfalso; omega
                            · rw [nI_leI (by omega) (by omega)] at c9
                              refine j_iload_n C 1 dX11_isOrIsUnder_12 rfl ?_
                              refine j_if_lt C 43 dX11_isOrIsUnder_13 (by decide) (fun c13 => ?_) (fun c13 => ?_)
                              · skip
                                refine j_iconst C (v := (nI 0)) dX11_isOrIsUnder_43 (by decide) ?_
                                refine j_zret C dX11_isOrIsUnder_44 (by decide) ?_
                                refine ⟨bI0 (by unfold undF; omega), rfl⟩
                              · skip
                                exact absurd (by decide) c13
                          · rw [nI_eq (by omega) (by omega)] at c26
                            refine j_iconst C (v := (nI 1)) dX11_isOrIsUnder_29 (by decide) ?_
                            refine j_zret C dX11_isOrIsUnder_30 (by decide) ?_
                            refine ⟨bI1 (by unfold undF; omega), rfl⟩
                  · rw [nI_eq (by omega) (by omega)] at c26
                    refine j_iconst C (v := (nI 1)) dX11_isOrIsUnder_29 (by decide) ?_
                    refine j_zret C dX11_isOrIsUnder_30 (by decide) ?_
                    refine ⟨bI1 (by unfold undF; omega), rfl⟩
          · rw [nI_eq (by omega) (by omega)] at c26
            refine j_iconst C (v := (nI 1)) dX11_isOrIsUnder_29 (by decide) ?_
            refine j_zret C dX11_isOrIsUnder_30 (by decide) ?_
            refine ⟨bI1 (by unfold undF; omega), rfl⟩
  · refine j_iload_n C 0 dX11_isOrIsUnder_0 rfl ?_
    refine j_istore_n C [(2, .int (nI 5)), (0, .int (nI 5)), (1, .int (nI a))] dX11_isOrIsUnder_1 (by decide) rfl ?_
    refine j_iconst C (v := (nI 0)) dX11_isOrIsUnder_2 (by decide) ?_
    refine j_istore_n C [(3, .int (nI 0)), (2, .int (nI 5)), (0, .int (nI 5)), (1, .int (nI a))] dX11_isOrIsUnder_3 (by decide) rfl ?_
    refine j_iload_n C 0 dX11_isOrIsUnder_4 rfl ?_
    refine j_gets C hO.1.1 kfO_157 dX11_isOrIsUnder_5 ?_
    refine j_tlen C hO.1.2 (nI 7) rfl dX11_isOrIsUnder_8 ?_
    refine j_icmp_ge C 43 dX11_isOrIsUnder_9 (by decide) (fun c9 => ?_) (fun c9 => ?_)
    · rw [nI_leI (by omega) (by omega)] at c9
      exfalso; omega
    · rw [nI_leI (by omega) (by omega)] at c9
      refine j_iload_n C 1 dX11_isOrIsUnder_12 rfl ?_
      refine j_if_lt C 43 dX11_isOrIsUnder_13 (by decide) (fun c13 => ?_) (fun c13 => ?_)
      · rw [show (0 : Int32) = nI 0 from rfl, nI_ltI (by omega) (by omega)] at c13
        exfalso; omega
      · rw [show (0 : Int32) = nI 0 from rfl, nI_ltI (by omega) (by omega)] at c13
        refine j_iload_n C 1 dX11_isOrIsUnder_16 rfl ?_
        refine j_gets C hO.1.1 kfO_157 dX11_isOrIsUnder_17 ?_
        refine j_tlen C hO.1.2 (nI 7) rfl dX11_isOrIsUnder_20 ?_
        refine j_icmp_ge C 43 dX11_isOrIsUnder_21 (by decide) (fun c21 => ?_) (fun c21 => ?_)
        · rw [nI_leI (by omega) (by omega)] at c21
          exfalso; omega
        · rw [nI_leI (by omega) (by omega)] at c21
          refine j_iload_n C 1 dX11_isOrIsUnder_24 rfl ?_
          refine j_iload_n C 3 dX11_isOrIsUnder_25 rfl ?_
          refine j_icmp_ne C 31 dX11_isOrIsUnder_26 (by decide) (fun c26 => ?_) (fun c26 => ?_)
          · rw [nI_eq (by omega) (by omega)] at c26
            refine j_gets C hO.1.1 kfO_157 dX11_isOrIsUnder_31 ?_
            refine j_iload_n C 1 dX11_isOrIsUnder_34 rfl ?_
            refine j_tald C hO.1.2 5 rfl (by omega) (by omega) (v := abvF 5) rfl dX11_isOrIsUnder_35 ?_
            refine j_v (nI 2) (by decide) ?_
            refine j_istore_n C [(2, .int (nI 2)), (3, .int (nI 0)), (0, .int (nI 5)), (1, .int (nI a))] dX11_isOrIsUnder_36 (by decide) rfl ?_
            refine j_iinc C (v := (nI 1)) 1 [(3, .int (nI 1)), (2, .int (nI 2)), (0, .int (nI 5)), (1, .int (nI a))] dX11_isOrIsUnder_37 rfl (nI_1 _) (by decide) rfl ?_
            refine j_goto C 4 dX11_isOrIsUnder_40 (by decide) ?_
            refine j_iload_n C 0 dX11_isOrIsUnder_4 rfl ?_
            refine j_gets C hO.1.1 kfO_157 dX11_isOrIsUnder_5 ?_
            refine j_tlen C hO.1.2 (nI 7) rfl dX11_isOrIsUnder_8 ?_
            refine j_icmp_ge C 43 dX11_isOrIsUnder_9 (by decide) (fun c9 => ?_) (fun c9 => ?_)
            · rw [nI_leI (by omega) (by omega)] at c9
              exfalso; omega
            · rw [nI_leI (by omega) (by omega)] at c9
              refine j_iload_n C 1 dX11_isOrIsUnder_12 rfl ?_
              refine j_if_lt C 43 dX11_isOrIsUnder_13 (by decide) (fun c13 => ?_) (fun c13 => ?_)
              · rw [show (0 : Int32) = nI 0 from rfl, nI_ltI (by omega) (by omega)] at c13
                exfalso; omega
              · rw [show (0 : Int32) = nI 0 from rfl, nI_ltI (by omega) (by omega)] at c13
                refine j_iload_n C 1 dX11_isOrIsUnder_16 rfl ?_
                refine j_gets C hO.1.1 kfO_157 dX11_isOrIsUnder_17 ?_
                refine j_tlen C hO.1.2 (nI 7) rfl dX11_isOrIsUnder_20 ?_
                refine j_icmp_ge C 43 dX11_isOrIsUnder_21 (by decide) (fun c21 => ?_) (fun c21 => ?_)
                · rw [nI_leI (by omega) (by omega)] at c21
                  exfalso; omega
                · rw [nI_leI (by omega) (by omega)] at c21
                  refine j_iload_n C 1 dX11_isOrIsUnder_24 rfl ?_
                  refine j_iload_n C 3 dX11_isOrIsUnder_25 rfl ?_
                  refine j_icmp_ne C 31 dX11_isOrIsUnder_26 (by decide) (fun c26 => ?_) (fun c26 => ?_)
                  · rw [nI_eq (by omega) (by omega)] at c26
                    refine j_gets C hO.1.1 kfO_157 dX11_isOrIsUnder_31 ?_
                    refine j_iload_n C 1 dX11_isOrIsUnder_34 rfl ?_
                    refine j_tald C hO.1.2 2 rfl (by omega) (by omega) (v := abvF 2) rfl dX11_isOrIsUnder_35 ?_
                    refine j_v (nI 0) (by decide) ?_
                    refine j_istore_n C [(2, .int (nI 0)), (3, .int (nI 1)), (0, .int (nI 5)), (1, .int (nI a))] dX11_isOrIsUnder_36 (by decide) rfl ?_
                    refine j_iinc C (v := (nI 2)) 1 [(3, .int (nI 2)), (2, .int (nI 0)), (0, .int (nI 5)), (1, .int (nI a))] dX11_isOrIsUnder_37 rfl (nI_1 _) (by decide) rfl ?_
                    refine j_goto C 4 dX11_isOrIsUnder_40 (by decide) ?_
                    refine j_iload_n C 0 dX11_isOrIsUnder_4 rfl ?_
                    refine j_gets C hO.1.1 kfO_157 dX11_isOrIsUnder_5 ?_
                    refine j_tlen C hO.1.2 (nI 7) rfl dX11_isOrIsUnder_8 ?_
                    refine j_icmp_ge C 43 dX11_isOrIsUnder_9 (by decide) (fun c9 => ?_) (fun c9 => ?_)
                    · rw [nI_leI (by omega) (by omega)] at c9
                      exfalso; omega
                    · rw [nI_leI (by omega) (by omega)] at c9
                      refine j_iload_n C 1 dX11_isOrIsUnder_12 rfl ?_
                      refine j_if_lt C 43 dX11_isOrIsUnder_13 (by decide) (fun c13 => ?_) (fun c13 => ?_)
                      · rw [show (0 : Int32) = nI 0 from rfl, nI_ltI (by omega) (by omega)] at c13
                        exfalso; omega
                      · rw [show (0 : Int32) = nI 0 from rfl, nI_ltI (by omega) (by omega)] at c13
                        refine j_iload_n C 1 dX11_isOrIsUnder_16 rfl ?_
                        refine j_gets C hO.1.1 kfO_157 dX11_isOrIsUnder_17 ?_
                        refine j_tlen C hO.1.2 (nI 7) rfl dX11_isOrIsUnder_20 ?_
                        refine j_icmp_ge C 43 dX11_isOrIsUnder_21 (by decide) (fun c21 => ?_) (fun c21 => ?_)
                        · rw [nI_leI (by omega) (by omega)] at c21
                          exfalso; omega
                        · rw [nI_leI (by omega) (by omega)] at c21
                          refine j_iload_n C 1 dX11_isOrIsUnder_24 rfl ?_
                          refine j_iload_n C 3 dX11_isOrIsUnder_25 rfl ?_
                          refine j_icmp_ne C 31 dX11_isOrIsUnder_26 (by decide) (fun c26 => ?_) (fun c26 => ?_)
                          · rw [nI_eq (by omega) (by omega)] at c26
                            refine j_gets C hO.1.1 kfO_157 dX11_isOrIsUnder_31 ?_
                            refine j_iload_n C 1 dX11_isOrIsUnder_34 rfl ?_
                            refine j_tald C hO.1.2 0 rfl (by omega) (by omega) (v := abvF 0) rfl dX11_isOrIsUnder_35 ?_
                            refine j_v (-1) (by decide) ?_
                            refine j_istore_n C [(2, .int (-1)), (3, .int (nI 2)), (0, .int (nI 5)), (1, .int (nI a))] dX11_isOrIsUnder_36 (by decide) rfl ?_
                            refine j_iinc C (v := (nI 3)) 1 [(3, .int (nI 3)), (2, .int (-1)), (0, .int (nI 5)), (1, .int (nI a))] dX11_isOrIsUnder_37 rfl (nI_1 _) (by decide) rfl ?_
                            refine j_goto C 4 dX11_isOrIsUnder_40 (by decide) ?_
                            refine j_iload_n C 0 dX11_isOrIsUnder_4 rfl ?_
                            refine j_gets C hO.1.1 kfO_157 dX11_isOrIsUnder_5 ?_
                            refine j_tlen C hO.1.2 (nI 7) rfl dX11_isOrIsUnder_8 ?_
                            refine j_icmp_ge C 43 dX11_isOrIsUnder_9 (by decide) (fun c9 => ?_) (fun c9 => ?_)
                            · rw [nI_leI (by omega) (by omega)] at c9
                              exfalso; omega
                            · rw [nI_leI (by omega) (by omega)] at c9
                              refine j_iload_n C 1 dX11_isOrIsUnder_12 rfl ?_
                              refine j_if_lt C 43 dX11_isOrIsUnder_13 (by decide) (fun c13 => ?_) (fun c13 => ?_)
                              · skip
                                refine j_iconst C (v := (nI 0)) dX11_isOrIsUnder_43 (by decide) ?_
                                refine j_zret C dX11_isOrIsUnder_44 (by decide) ?_
                                refine ⟨bI0 (by unfold undF; omega), rfl⟩
                              · skip
                                exact absurd (by decide) c13
                          · rw [nI_eq (by omega) (by omega)] at c26
                            refine j_iconst C (v := (nI 1)) dX11_isOrIsUnder_29 (by decide) ?_
                            refine j_zret C dX11_isOrIsUnder_30 (by decide) ?_
                            refine ⟨bI1 (by unfold undF; omega), rfl⟩
                  · rw [nI_eq (by omega) (by omega)] at c26
                    refine j_iconst C (v := (nI 1)) dX11_isOrIsUnder_29 (by decide) ?_
                    refine j_zret C dX11_isOrIsUnder_30 (by decide) ?_
                    refine ⟨bI1 (by unfold undF; omega), rfl⟩
          · rw [nI_eq (by omega) (by omega)] at c26
            refine j_iconst C (v := (nI 1)) dX11_isOrIsUnder_29 (by decide) ?_
            refine j_zret C dX11_isOrIsUnder_30 (by decide) ?_
            refine ⟨bI1 (by unfold undF; omega), rfl⟩
  · refine j_iload_n C 0 dX11_isOrIsUnder_0 rfl ?_
    refine j_istore_n C [(2, .int (nI 6)), (0, .int (nI 6)), (1, .int (nI a))] dX11_isOrIsUnder_1 (by decide) rfl ?_
    refine j_iconst C (v := (nI 0)) dX11_isOrIsUnder_2 (by decide) ?_
    refine j_istore_n C [(3, .int (nI 0)), (2, .int (nI 6)), (0, .int (nI 6)), (1, .int (nI a))] dX11_isOrIsUnder_3 (by decide) rfl ?_
    refine j_iload_n C 0 dX11_isOrIsUnder_4 rfl ?_
    refine j_gets C hO.1.1 kfO_157 dX11_isOrIsUnder_5 ?_
    refine j_tlen C hO.1.2 (nI 7) rfl dX11_isOrIsUnder_8 ?_
    refine j_icmp_ge C 43 dX11_isOrIsUnder_9 (by decide) (fun c9 => ?_) (fun c9 => ?_)
    · rw [nI_leI (by omega) (by omega)] at c9
      exfalso; omega
    · rw [nI_leI (by omega) (by omega)] at c9
      refine j_iload_n C 1 dX11_isOrIsUnder_12 rfl ?_
      refine j_if_lt C 43 dX11_isOrIsUnder_13 (by decide) (fun c13 => ?_) (fun c13 => ?_)
      · rw [show (0 : Int32) = nI 0 from rfl, nI_ltI (by omega) (by omega)] at c13
        exfalso; omega
      · rw [show (0 : Int32) = nI 0 from rfl, nI_ltI (by omega) (by omega)] at c13
        refine j_iload_n C 1 dX11_isOrIsUnder_16 rfl ?_
        refine j_gets C hO.1.1 kfO_157 dX11_isOrIsUnder_17 ?_
        refine j_tlen C hO.1.2 (nI 7) rfl dX11_isOrIsUnder_20 ?_
        refine j_icmp_ge C 43 dX11_isOrIsUnder_21 (by decide) (fun c21 => ?_) (fun c21 => ?_)
        · rw [nI_leI (by omega) (by omega)] at c21
          exfalso; omega
        · rw [nI_leI (by omega) (by omega)] at c21
          refine j_iload_n C 1 dX11_isOrIsUnder_24 rfl ?_
          refine j_iload_n C 3 dX11_isOrIsUnder_25 rfl ?_
          refine j_icmp_ne C 31 dX11_isOrIsUnder_26 (by decide) (fun c26 => ?_) (fun c26 => ?_)
          · rw [nI_eq (by omega) (by omega)] at c26
            refine j_gets C hO.1.1 kfO_157 dX11_isOrIsUnder_31 ?_
            refine j_iload_n C 1 dX11_isOrIsUnder_34 rfl ?_
            refine j_tald C hO.1.2 6 rfl (by omega) (by omega) (v := abvF 6) rfl dX11_isOrIsUnder_35 ?_
            refine j_v (nI 3) (by decide) ?_
            refine j_istore_n C [(2, .int (nI 3)), (3, .int (nI 0)), (0, .int (nI 6)), (1, .int (nI a))] dX11_isOrIsUnder_36 (by decide) rfl ?_
            refine j_iinc C (v := (nI 1)) 1 [(3, .int (nI 1)), (2, .int (nI 3)), (0, .int (nI 6)), (1, .int (nI a))] dX11_isOrIsUnder_37 rfl (nI_1 _) (by decide) rfl ?_
            refine j_goto C 4 dX11_isOrIsUnder_40 (by decide) ?_
            refine j_iload_n C 0 dX11_isOrIsUnder_4 rfl ?_
            refine j_gets C hO.1.1 kfO_157 dX11_isOrIsUnder_5 ?_
            refine j_tlen C hO.1.2 (nI 7) rfl dX11_isOrIsUnder_8 ?_
            refine j_icmp_ge C 43 dX11_isOrIsUnder_9 (by decide) (fun c9 => ?_) (fun c9 => ?_)
            · rw [nI_leI (by omega) (by omega)] at c9
              exfalso; omega
            · rw [nI_leI (by omega) (by omega)] at c9
              refine j_iload_n C 1 dX11_isOrIsUnder_12 rfl ?_
              refine j_if_lt C 43 dX11_isOrIsUnder_13 (by decide) (fun c13 => ?_) (fun c13 => ?_)
              · rw [show (0 : Int32) = nI 0 from rfl, nI_ltI (by omega) (by omega)] at c13
                exfalso; omega
              · rw [show (0 : Int32) = nI 0 from rfl, nI_ltI (by omega) (by omega)] at c13
                refine j_iload_n C 1 dX11_isOrIsUnder_16 rfl ?_
                refine j_gets C hO.1.1 kfO_157 dX11_isOrIsUnder_17 ?_
                refine j_tlen C hO.1.2 (nI 7) rfl dX11_isOrIsUnder_20 ?_
                refine j_icmp_ge C 43 dX11_isOrIsUnder_21 (by decide) (fun c21 => ?_) (fun c21 => ?_)
                · rw [nI_leI (by omega) (by omega)] at c21
                  exfalso; omega
                · rw [nI_leI (by omega) (by omega)] at c21
                  refine j_iload_n C 1 dX11_isOrIsUnder_24 rfl ?_
                  refine j_iload_n C 3 dX11_isOrIsUnder_25 rfl ?_
                  refine j_icmp_ne C 31 dX11_isOrIsUnder_26 (by decide) (fun c26 => ?_) (fun c26 => ?_)
                  · rw [nI_eq (by omega) (by omega)] at c26
                    refine j_gets C hO.1.1 kfO_157 dX11_isOrIsUnder_31 ?_
                    refine j_iload_n C 1 dX11_isOrIsUnder_34 rfl ?_
                    refine j_tald C hO.1.2 3 rfl (by omega) (by omega) (v := abvF 3) rfl dX11_isOrIsUnder_35 ?_
                    refine j_v (nI 0) (by decide) ?_
                    refine j_istore_n C [(2, .int (nI 0)), (3, .int (nI 1)), (0, .int (nI 6)), (1, .int (nI a))] dX11_isOrIsUnder_36 (by decide) rfl ?_
                    refine j_iinc C (v := (nI 2)) 1 [(3, .int (nI 2)), (2, .int (nI 0)), (0, .int (nI 6)), (1, .int (nI a))] dX11_isOrIsUnder_37 rfl (nI_1 _) (by decide) rfl ?_
                    refine j_goto C 4 dX11_isOrIsUnder_40 (by decide) ?_
                    refine j_iload_n C 0 dX11_isOrIsUnder_4 rfl ?_
                    refine j_gets C hO.1.1 kfO_157 dX11_isOrIsUnder_5 ?_
                    refine j_tlen C hO.1.2 (nI 7) rfl dX11_isOrIsUnder_8 ?_
                    refine j_icmp_ge C 43 dX11_isOrIsUnder_9 (by decide) (fun c9 => ?_) (fun c9 => ?_)
                    · rw [nI_leI (by omega) (by omega)] at c9
                      exfalso; omega
                    · rw [nI_leI (by omega) (by omega)] at c9
                      refine j_iload_n C 1 dX11_isOrIsUnder_12 rfl ?_
                      refine j_if_lt C 43 dX11_isOrIsUnder_13 (by decide) (fun c13 => ?_) (fun c13 => ?_)
                      · rw [show (0 : Int32) = nI 0 from rfl, nI_ltI (by omega) (by omega)] at c13
                        exfalso; omega
                      · rw [show (0 : Int32) = nI 0 from rfl, nI_ltI (by omega) (by omega)] at c13
                        refine j_iload_n C 1 dX11_isOrIsUnder_16 rfl ?_
                        refine j_gets C hO.1.1 kfO_157 dX11_isOrIsUnder_17 ?_
                        refine j_tlen C hO.1.2 (nI 7) rfl dX11_isOrIsUnder_20 ?_
                        refine j_icmp_ge C 43 dX11_isOrIsUnder_21 (by decide) (fun c21 => ?_) (fun c21 => ?_)
                        · rw [nI_leI (by omega) (by omega)] at c21
                          exfalso; omega
                        · rw [nI_leI (by omega) (by omega)] at c21
                          refine j_iload_n C 1 dX11_isOrIsUnder_24 rfl ?_
                          refine j_iload_n C 3 dX11_isOrIsUnder_25 rfl ?_
                          refine j_icmp_ne C 31 dX11_isOrIsUnder_26 (by decide) (fun c26 => ?_) (fun c26 => ?_)
                          · rw [nI_eq (by omega) (by omega)] at c26
                            refine j_gets C hO.1.1 kfO_157 dX11_isOrIsUnder_31 ?_
                            refine j_iload_n C 1 dX11_isOrIsUnder_34 rfl ?_
                            refine j_tald C hO.1.2 0 rfl (by omega) (by omega) (v := abvF 0) rfl dX11_isOrIsUnder_35 ?_
                            refine j_v (-1) (by decide) ?_
                            refine j_istore_n C [(2, .int (-1)), (3, .int (nI 2)), (0, .int (nI 6)), (1, .int (nI a))] dX11_isOrIsUnder_36 (by decide) rfl ?_
                            refine j_iinc C (v := (nI 3)) 1 [(3, .int (nI 3)), (2, .int (-1)), (0, .int (nI 6)), (1, .int (nI a))] dX11_isOrIsUnder_37 rfl (nI_1 _) (by decide) rfl ?_
                            refine j_goto C 4 dX11_isOrIsUnder_40 (by decide) ?_
                            refine j_iload_n C 0 dX11_isOrIsUnder_4 rfl ?_
                            refine j_gets C hO.1.1 kfO_157 dX11_isOrIsUnder_5 ?_
                            refine j_tlen C hO.1.2 (nI 7) rfl dX11_isOrIsUnder_8 ?_
                            refine j_icmp_ge C 43 dX11_isOrIsUnder_9 (by decide) (fun c9 => ?_) (fun c9 => ?_)
                            · rw [nI_leI (by omega) (by omega)] at c9
                              exfalso; omega
                            · rw [nI_leI (by omega) (by omega)] at c9
                              refine j_iload_n C 1 dX11_isOrIsUnder_12 rfl ?_
                              refine j_if_lt C 43 dX11_isOrIsUnder_13 (by decide) (fun c13 => ?_) (fun c13 => ?_)
                              · skip
                                refine j_iconst C (v := (nI 0)) dX11_isOrIsUnder_43 (by decide) ?_
                                refine j_zret C dX11_isOrIsUnder_44 (by decide) ?_
                                refine ⟨bI0 (by unfold undF; omega), rfl⟩
                              · skip
                                exact absurd (by decide) c13
                          · rw [nI_eq (by omega) (by omega)] at c26
                            refine j_iconst C (v := (nI 1)) dX11_isOrIsUnder_29 (by decide) ?_
                            refine j_zret C dX11_isOrIsUnder_30 (by decide) ?_
                            refine ⟨bI1 (by unfold undF; omega), rfl⟩
                  · rw [nI_eq (by omega) (by omega)] at c26
                    refine j_iconst C (v := (nI 1)) dX11_isOrIsUnder_29 (by decide) ?_
                    refine j_zret C dX11_isOrIsUnder_30 (by decide) ?_
                    refine ⟨bI1 (by unfold undF; omega), rfl⟩
          · rw [nI_eq (by omega) (by omega)] at c26
            refine j_iconst C (v := (nI 1)) dX11_isOrIsUnder_29 (by decide) ?_
            refine j_zret C dX11_isOrIsUnder_30 (by decide) ?_
            refine ⟨bI1 (by unfold undF; omega), rfl⟩
theorem dX11_as_0 : decode cX11_as 0 = .ok (.aload_n 0, 1) := by decide +kernel
theorem dX11_as_1 : decode cX11_as 1 = .ok (.iload_n 1, 1) := by decide +kernel
theorem dX11_as_2 : decode cX11_as 2 = .ok (.invokevirtual 123, 3) := by decide +kernel
theorem dX11_as_5 : decode cX11_as 5 = .ok (.ifCond .eq 17, 3) := by decide +kernel
theorem dX11_as_8 : decode cX11_as 8 = .ok (.iload_n 2, 1) := by decide +kernel
theorem dX11_as_9 : decode cX11_as 9 = .ok (.iconst 0, 1) := by decide +kernel
theorem dX11_as_10 : decode cX11_as 10 = .ok (.getstatic 157, 3) := by decide +kernel
theorem dX11_as_13 : decode cX11_as 13 = .ok (.arraylength, 1) := by decide +kernel
theorem dX11_as_14 : decode cX11_as 14 = .ok (.iconst 1, 1) := by decide +kernel
theorem dX11_as_15 : decode cX11_as 15 = .ok (.isub, 1) := by decide +kernel
theorem dX11_as_16 : decode cX11_as 16 = .ok (.invokestatic 86, 3) := by decide +kernel
theorem dX11_as_19 : decode cX11_as 19 = .ok (.ifCond .ne 9, 3) := by decide +kernel
theorem dX11_as_22 : decode cX11_as 22 = .ok (.aload_n 0, 1) := by decide +kernel
theorem dX11_as_23 : decode cX11_as 23 = .ok (.iconst 1, 1) := by decide +kernel
theorem dX11_as_24 : decode cX11_as 24 = .ok (.invokevirtual 90, 3) := by decide +kernel
theorem dX11_as_27 : decode cX11_as 27 = .ok (.ireturn, 1) := by decide +kernel
theorem dX11_as_28 : decode cX11_as 28 = .ok (.aload_n 0, 1) := by decide +kernel
theorem dX11_as_29 : decode cX11_as 29 = .ok (.getfield 75, 3) := by decide +kernel
theorem dX11_as_32 : decode cX11_as 32 = .ok (.getfield 94, 3) := by decide +kernel
theorem dX11_as_35 : decode cX11_as 35 = .ok (.getfield 130, 3) := by decide +kernel
theorem dX11_as_38 : decode cX11_as 38 = .ok (.iload_n 1, 1) := by decide +kernel
theorem dX11_as_39 : decode cX11_as 39 = .ok (.iaload, 1) := by decide +kernel
theorem dX11_as_40 : decode cX11_as 40 = .ok (.iload_n 2, 1) := by decide +kernel
theorem dX11_as_41 : decode cX11_as 41 = .ok (.invokestatic 160, 3) := by decide +kernel
theorem dX11_as_44 : decode cX11_as 44 = .ok (.ifCond .ne 9, 3) := by decide +kernel
theorem dX11_as_47 : decode cX11_as 47 = .ok (.aload_n 0, 1) := by decide +kernel
theorem dX11_as_48 : decode cX11_as 48 = .ok (.iconst 5, 1) := by decide +kernel
theorem dX11_as_49 : decode cX11_as 49 = .ok (.invokevirtual 90, 3) := by decide +kernel
theorem dX11_as_52 : decode cX11_as 52 = .ok (.ireturn, 1) := by decide +kernel
theorem dX11_as_53 : decode cX11_as 53 = .ok (.aload_n 0, 1) := by decide +kernel
theorem dX11_as_54 : decode cX11_as 54 = .ok (.getfield 75, 3) := by decide +kernel
theorem dX11_as_57 : decode cX11_as 57 = .ok (.getfield 94, 3) := by decide +kernel
theorem dX11_as_60 : decode cX11_as 60 = .ok (.getfield 133, 3) := by decide +kernel
theorem dX11_as_63 : decode cX11_as 63 = .ok (.iload_n 1, 1) := by decide +kernel
theorem dX11_as_64 : decode cX11_as 64 = .ok (.iaload, 1) := by decide +kernel
theorem dX11_as_65 : decode cX11_as 65 = .ok (.ireturn, 1) := by decide +kernel
set_option maxHeartbeats 2000000 in
set_option maxRecDepth 20000 in
theorem k_as {l : Launch} {D : va_G} {cI cG cW : ClassId} {q : Nat → Nat} {S : Nat → Int32} {X : Nat → Nat → Int32} {P : Nat → Nat} {O : Ou} {p kind : Int32} {V row kept tried bf fd pk bo so sh mv tr : Nat → Int32} {nc np nw d nt nq : Nat} (hR : RKx row nc np nw d nt nq) (hC : CR (S, X, P) (sR V row kept tried bf fd pk bo so sh mv tr)) : CiO O l yX11_as cX11_as 3 (some .int) 3 D (tyL cI cG cW) (wC cI cG cW q) [.ref (q 0), .int p, .int kind] (S, X, P) (fun r τ => r = (sp_as V row kept tried bf fd pk bo so sh mv tr p kind).1 ∧ CR τ (sp_as V row kept tried bf fd pk bo so sh mv tr p kind).2) := by
  refine CiO.of (by decide) (Nat.le_of_ble_eq_true rfl) ?_
  intro p_ e_ s_ m_ b_ M_ c_ A_ C hO
  replace C : Cx _ _ _ _ _ _ _ _ RX11 _ _ _ _ := C
  refine j_L [0, 1, 2] [(0, .ref (q 0)), (1, .int p), (2, .int kind)] rfl ?_
  obtain ⟨hI, hW, ⟨e0, hd⟩, ⟨e4, ht⟩, ⟨e5, hq⟩, hB⟩ := id hR
  obtain ⟨⟨e2, hc2, hc10⟩, ⟨e3, hn6⟩, ⟨e8, hw8⟩, hP, hE, hLo, hT0, hT1⟩ := id hI
  have hIc := hI
  have hF : CF S X 0 row (X 44) nc np := by have h := hC.fld; rw [e2, e3, tN_nI (by omega), tN_nI (by omega)] at h; exact h
  have hK : CK S X 0 row nw nt nq := by have h := hC.kp; rw [e8, e4, e5, tN_nI (by omega), tN_nI (by omega), tN_nI (by omega)] at h; exact h
  have hS1 : S 1 = row 8 := hK.wrongs
  have hS5 : S 5 = row 2 := hF.cells
  have hS7 : S 7 = row 3 := hF.people
  refine j_aload_n C 0 dX11_as_0 rfl ?_
  refine j_iload_n C 1 dX11_as_1 rfl ?_
  refine j_callV (As := [.int p]) (rest := []) C vw11_123 (h_isPerson) ⟨0, 11, _, _, rfl, rfl, rfl⟩ rfl (Nat.le_of_ble_eq_true rfl) dX11_as_2 (by decide) ?_
  rintro _ _ ⟨rfl, rfl⟩
  refine j_v (bI (inn p 0 (row 3 - 1))) (by rw [hS7]) ?_
  refine j_if_eq C 22 dX11_as_5 (by decide) (fun c5 => ?_) (fun c5 => ?_)
  · replace c5 := bI_f c5
    refine j_aload_n C 0 dX11_as_22 rfl ?_
    refine j_iconst C (v := (nI 1)) dX11_as_23 (by decide) ?_
    refine j_callV (As := [.int (nI 1)]) (rest := []) C vw11_90 (h_error 1 (by decide)) ⟨0, 11, _, _, rfl, rfl, rfl⟩ rfl (Nat.le_of_ble_eq_true rfl) dX11_as_24 (by decide) ?_
    rintro _ _ ⟨rfl, rfl⟩
    refine j_iret C dX11_as_27 ?_
    unfold sp_as
    rw [if_neg (fun h => c5 h.1)]
    exact ⟨show (-1000000000 : Int32) - nI 1 = -1000000001 from by decide, hC.er 1⟩
  · replace c5 := bI_t c5
    obtain ⟨pn, hpn, rfl⟩ := inn_row c5 e3 (by omega)
    refine j_iload_n C 2 dX11_as_8 rfl ?_
    refine j_iconst C (v := (nI 0)) dX11_as_9 (by decide) ?_
    refine j_gets C hO.1.1 kfO_157 dX11_as_10 ?_
    refine j_tlen C hO.1.2 (nI 7) rfl dX11_as_13 ?_
    refine j_iconst C (v := (nI 1)) dX11_as_14 (by decide) ?_
    refine j_isub C dX11_as_15 ?_
    refine j_v (nI 6) (by decide) ?_
    refine j_callS (As := [.int kind, .int (nI 0), .int (nI 6)]) (rest := []) C sw11_86 (h_within) rfl (Nat.le_of_ble_eq_true rfl) dX11_as_16 (by decide) ?_
    rintro _ _ ⟨rfl, rfl⟩
    refine j_if_ne C 28 dX11_as_19 (by decide) (fun c19 => ?_) (fun c19 => ?_)
    · replace c19 := bI_t c19
      obtain ⟨an, gan, han, rfl⟩ := inn_lit c19 (by omega)
      obtain ⟨⟨k, hk, ek⟩, -⟩ := hP pn hpn
      refine j_aload_n C 0 dX11_as_28 rfl ?_
      refine j_get C (v := .ref (q 1)) 0 1 rfl rfl inlC11 (by decide) kf11_75 rfl dX11_as_29 ?_
      refine j_getN C (v := .ref (q 3)) 1 0 rfl rfl inlC3 (by decide) kf11_94 rfl dX11_as_32 ?_
      refine j_getN C (v := .ref (q 38)) 3 5 rfl rfl inlC1 (by decide) kf11_130 rfl dX11_as_35 ?_
      refine j_iload_n C 1 dX11_as_38 rfl ?_
      refine j_ialdN C 38 0 rfl rfl pn rfl (by omega) (by decide) dX11_as_39 ?_
      refine j_v (nI k) ((hF.per 0 (by omega) pn (by omega)).trans ek) ?_
      refine j_iload_n C 2 dX11_as_40 rfl ?_
      refine j_callSO (As := [.int (nI k), .int (nI an)]) (rest := []) C hO sw11_160 (h_under k an hk (by omega)) rfl (Nat.le_of_ble_eq_true rfl) dX11_as_41 (by decide) ?_
      rintro _ _ ⟨rfl, rfl⟩
      refine j_if_ne C 53 dX11_as_44 (by decide) (fun c44 => ?_) (fun c44 => ?_)
      · replace c44 := bI_t c44
        refine j_aload_n C 0 dX11_as_53 rfl ?_
        refine j_get C (v := .ref (q 1)) 0 1 rfl rfl inlC11 (by decide) kf11_75 rfl dX11_as_54 ?_
        refine j_getN C (v := .ref (q 3)) 1 0 rfl rfl inlC3 (by decide) kf11_94 rfl dX11_as_57 ?_
        refine j_getN C (v := .ref (q 39)) 3 6 rfl rfl inlC1 (by decide) kf11_133 rfl dX11_as_60 ?_
        refine j_iload_n C 1 dX11_as_63 rfl ?_
        refine j_ialdN C 39 0 rfl rfl pn rfl (by omega) (by decide) dX11_as_64 ?_
        refine j_v (row (30 + 6 * pn + 1)) (hF.per 1 (by omega) pn (by omega)) ?_
        refine j_iret C dX11_as_65 ?_
        unfold sp_as
        rw [if_pos ⟨c5, c19⟩, tN_nI (n := pn) (by omega), tN_nI (n := an) (by omega), ek, tN_nI (n := k) (by omega)]
        rw [if_pos c44]
        exact ⟨rfl, hC⟩
      · replace c44 := bI_f c44
        refine j_aload_n C 0 dX11_as_47 rfl ?_
        refine j_iconst C (v := (nI 5)) dX11_as_48 (by decide) ?_
        refine j_callV (As := [.int (nI 5)]) (rest := []) C vw11_90 (h_error 5 (by decide)) ⟨0, 11, _, _, rfl, rfl, rfl⟩ rfl (Nat.le_of_ble_eq_true rfl) dX11_as_49 (by decide) ?_
        rintro _ _ ⟨rfl, rfl⟩
        refine j_iret C dX11_as_52 ?_
        unfold sp_as
        rw [if_pos ⟨c5, c19⟩, tN_nI (n := pn) (by omega), tN_nI (n := an) (by omega), ek, tN_nI (n := k) (by omega)]
        rw [if_neg c44]
        exact ⟨show (-1000000000 : Int32) - nI 5 = -1000000005 from by decide, hC.er 5⟩
    · replace c19 := bI_f c19
      refine j_aload_n C 0 dX11_as_22 rfl ?_
      refine j_iconst C (v := (nI 1)) dX11_as_23 (by decide) ?_
      refine j_callV (As := [.int (nI 1)]) (rest := []) C vw11_90 (h_error 1 (by decide)) ⟨0, 11, _, _, rfl, rfl, rfl⟩ rfl (Nat.le_of_ble_eq_true rfl) dX11_as_24 (by decide) ?_
      rintro _ _ ⟨rfl, rfl⟩
      refine j_iret C dX11_as_27 ?_
      unfold sp_as
      rw [if_neg (fun h => c19 h.2)]
      exact ⟨show (-1000000000 : Int32) - nI 1 = -1000000001 from by decide, hC.er 1⟩

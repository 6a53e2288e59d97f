/-! More rows: arrays by numbers, Math, arraycopy, calls among nest mates, inherited and overriding methods, super. -/
section JR3
variable {p : Program} {l : Launch} {e : Env} {R : Room} {s : State} {m : MethodId} {args : Array Value} {below : List Frame} {meth : Method} {c : Code} {Q : State → Prop} {nL d : Nat} {D : va_G} {A : Nat → Prop} {S : Type} {Wd : S → va_W} {σ : S} {pc : Nat} {L L' : List (Nat × Value)} {rest : List Value}
variable {cc : ByteArray} {own : String} {ret : Option FieldType} {tys : List (ClassId × FieldType)}
theorem j_ialdN (C : Cx p s m args meth c cc nL own ret D tys A) {a n : Nat} {cA : ClassId} {f : Nat → Int32} {i : Int32} (q0 t0 : Nat) (ha : (Wd σ)[q0]? = some (a, .inl (cA, n, .inl f))) (ht : tys[t0]? = some (cA, .int)) (j : Nat) (hi : i = nI j) (hj : j < n) (hn : n < 2 ^ 31) (hdg : decode cc pc = .ok (.iaload, 1)) (kk : JJ p l e R s m args below meth c Q nL D A Wd σ (pc + 1) L (.int (f j) :: rest)) : JJ p l e R s m args below meth c Q nL D A Wd σ pc L (.int i :: .ref a :: rest) := by
  subst hi
  refine j_iald C q0 t0 ha ht (vp_in_nI hj hn) hdg ?_
  rw [nI_clamp (by omega)]
  exact kk
theorem j_iastN (C : Cx p s m args meth c cc nL own ret D tys A) {a n : Nat} {cA : ClassId} {f : Nat → Int32} {i x : Int32} (q0 t0 : Nat) (ha : (Wd σ)[q0]? = some (a, .inl (cA, n, .inl f))) (ht : tys[t0]? = some (cA, .int)) (j : Nat) (hi : i = nI j) (hj : j < n) (hn : n < 2 ^ 31) (hdg : decode cc pc = .ok (.iastore, 1)) (τ : S) (hτ : (Wd σ).set q0 (a, .inl (cA, n, .inl (upd f j x))) = Wd τ) (kk : JJ p l e R s m args below meth c Q nL D A Wd τ (pc + 1) L rest) : JJ p l e R s m args below meth c Q nL D A Wd σ pc L (.int x :: .int i :: .ref a :: rest) := by
  subst hi
  refine j_iast C q0 t0 ha ht (vp_in_nI hj hn) hdg τ ?_ kk
  rw [nI_clamp (by omega)]
  exact hτ
theorem j_aaldN (C : Cx p s m args meth c cc nL own ret D tys A) {a n b : Nat} {cA : ClassId} {Cn : String} {f : Nat → Option Nat} {i : Int32} (q0 t0 : Nat) (ha : (Wd σ)[q0]? = some (a, .inl (cA, n, .inr (.inr (.inr (.inr f)))))) (ht : tys[t0]? = some (cA, .object Cn)) (j : Nat) (hi : i = nI j) (hj : j < n) (hn : n < 2 ^ 31) (hb' : f j = some b) (hdg : decode cc pc = .ok (.aaload, 1)) (kk : JJ p l e R s m args below meth c Q nL D A Wd σ (pc + 1) L (.ref b :: rest)) : JJ p l e R s m args below meth c Q nL D A Wd σ pc L (.int i :: .ref a :: rest) := by
  subst hi
  obtain ⟨hx, hb, hml, hown, hts, ⟨hK, hN⟩, hA, hr, hlocks⟩ := C
  intro H locs ls hP hD hS hl
  refine va_aldq hx hb hK hP q0 t0 ha ht (vp_in_nI hj hn) hdg ?_
  rw [nI_clamp (by omega), hb']
  exact kk H locs ls hP hD hS hl
/-- what the tables say of Math.min and Math.max, called from a class -/
def MMx (own : String) (index : Nat) : Prop := Cond.methodLink own index Lib.Math.max.name ∈ lw_g ∧ Cond.static Lib.Math.max.name ∈ lw_g ∧ Cond.initialized "java/lang/Math" ∈ lw_g ∧ Cond.code Lib.Math.max.name Lib.Math.max.code 2 (some .int) ∈ lw_g
def MMn (own : String) (index : Nat) : Prop := Cond.methodLink own index Lib.Math.min.name ∈ lw_g ∧ Cond.static Lib.Math.min.name ∈ lw_g ∧ Cond.initialized "java/lang/Math" ∈ lw_g ∧ Cond.code Lib.Math.min.name Lib.Math.min.code 2 (some .int) ∈ lw_g
theorem j_mmax (C : Cx p s m args meth c cc nL own ret D tys A) {index : Nat} {x y : Int32} (hM : MMx own index) (hd : 1 ≤ d) (hst : (rest.map fun v => v.category).sum ≤ 8) (hdg : decode cc pc = .ok (.invokestatic index, 3)) (kk : JJ p l e (rmD d) s m args below meth c Q nL D A Wd σ (pc + 3) L (.int (if x < y then y else x) :: rest)) : JJ p l e (rmD d) s m args below meth c Q nL D A Wd σ pc L (.int y :: .int x :: rest) := by
  obtain ⟨hx, hb, hml, hown, hts, ⟨hK, hN⟩, hA, hr, hlocks⟩ := C
  intro H locs ls hP hD hS hl
  obtain ⟨m1, m2, m3, m4⟩ := hM
  exact va_mmax hx hb (hml.trans hl.1.symm) hown (hts _ m1) (hts _ m2) (hts _ m3) (hts _ m4) hd (show _ ≤ 40 * d by omega) (Nat.zero_le _) (Nat.zero_le _) hdg (kk H locs ls hP hD hS hl)
theorem j_mmin (C : Cx p s m args meth c cc nL own ret D tys A) {index : Nat} {x y : Int32} (hM : MMn own index) (hd : 1 ≤ d) (hst : (rest.map fun v => v.category).sum ≤ 8) (hdg : decode cc pc = .ok (.invokestatic index, 3)) (kk : JJ p l e (rmD d) s m args below meth c Q nL D A Wd σ (pc + 3) L (.int (if y < x then y else x) :: rest)) : JJ p l e (rmD d) s m args below meth c Q nL D A Wd σ pc L (.int y :: .int x :: rest) := by
  obtain ⟨hx, hb, hml, hown, hts, ⟨hK, hN⟩, hA, hr, hlocks⟩ := C
  intro H locs ls hP hD hS hl
  obtain ⟨m1, m2, m3, m4⟩ := hM
  exact va_mmin hx hb (hml.trans hl.1.symm) hown (hts _ m1) (hts _ m2) (hts _ m3) (hts _ m4) hd (show _ ≤ 40 * d by omega) (Nat.zero_le _) (Nat.zero_le _) hdg (kk H locs ls hP hD hS hl)
def ACw (own : String) (index : Nat) : Prop := Cond.methodLink own index arraycopyName ∈ lw_g ∧ Cond.native arraycopyName ∈ lw_g ∧ Cond.static arraycopyName ∈ lw_g ∧ Cond.initialized "java/lang/System" ∈ lw_g
theorem j_copy (C : Cx p s m args meth c cc nL own ret D tys A) {index a a0 n0 n1 : Nat} {cA : ClassId} {f g : Nat → Int32} (q0 q1 t0 : Nat) (hM : ACw own index) (ha0 : (Wd σ)[q0]? = some (a0, .inl (cA, n0, .inl f))) (ha1 : (Wd σ)[q1]? = some (a, .inl (cA, n1, .inl g))) (ht0 : tys[t0]? = some (cA, .int)) (i j k : Nat) (hi : i + k ≤ n0) (hj : j + k ≤ n1) (hn0 : n0 < 2 ^ 31) (hn1 : n1 < 2 ^ 31) (hd : 2 ≤ d) (hst : (rest.map fun v => v.category).sum ≤ 8) (hdg : decode cc pc = .ok (.invokestatic index, 3)) (τ : S) (hτ : (Wd σ).set q1 (a, .inl (cA, n1, .inl (va_cpy f g i j k))) = Wd τ) (kk : JJ p l e (rmD d) s m args below meth c Q nL D A Wd τ (pc + 3) L rest) : JJ p l e (rmD d) s m args below meth c Q nL D A Wd σ pc L (.int (nI k) :: .int (nI j) :: .ref a :: .int (nI i) :: .ref a0 :: rest) := by
  obtain ⟨hx, hb, hml, hown, hts, ⟨hK, hN⟩, hA, hr, hlocks⟩ := C
  intro H locs ls hP hD hS hl
  obtain ⟨m1, m2, m3, m4⟩ := hM
  have hw : nativeFrameWords "java/lang/System" "arraycopy" 5 ≤ 60 := by decide
  have hlo : (rest.map fun v => v.category).sum + (nativeFrameWords "java/lang/System" "arraycopy" 5 + 11) ≤ (rmD d).locals := by
    show _ ≤ 40 * d
    omega
  refine va_copyi (sp := nI i) (dp := nI j) (n := nI k) hx hb (hml.trans hl.1.symm) hown (hts _ m1) (hts _ m2) (hts _ m3) (hts _ m4) hK hP hD hS q0 q1 t0 t0 ha0 ha1 ht0 ht0 rfl (nI_pos (by omega)) (nI_pos (by omega)) (nI_pos (by omega)) (by rw [nI_clamp (by omega), nI_clamp (by omega)]; exact hi) (by rw [nI_clamp (by omega), nI_clamp (by omega)]; exact hj) (fun _ _ => rfl) (show 1 ≤ d by omega) hlo hdg (fun H1 locs1 hP1 hD1 hS1 => ?_)
  rw [nI_clamp (by omega), nI_clamp (by omega), nI_clamp (by omega), hτ] at hP1 hD1
  exact kk H1 locs1 ls hP1 hD1 hS1 hl
variable {y : MethodName} {bytes : ByteArray} {maxL index n d' : Nat} {ret' : Option FieldType} {As : List Value} {b : Nat}
/-- a private method of a nest mate -/
def VN (own : String) (index : Nat) (y : MethodName) (bytes : ByteArray) (maxL : Nat) (ret : Option FieldType) (n : Nat) : Prop :=
  ∃ host, Cond.code y bytes maxL ret ∈ lw_g ∧ Cond.methodLinkNest own index y host ∈ lw_n ∧ Cond.instanceMethod y ∈ lw_g ∧ Cond.selects y.cls y y ∈ lw_g ∧ Cond.initialized y.cls ∈ lw_g ∧ (y.cls ≠ "java/lang/invoke/MethodHandle" ∧ y.cls ≠ "java/lang/invoke/VarHandle" ∧ (parseMethodDescriptor y.desc).map (fun d => d.parameters.length) = some n) ∧ maxL ≤ 21
def SN (own : String) (index : Nat) (y : MethodName) (bytes : ByteArray) (maxL : Nat) (ret : Option FieldType) (n : Nat) : Prop :=
  ∃ host, Cond.code y bytes maxL ret ∈ lw_g ∧ Cond.methodLinkNest own index y host ∈ lw_n ∧ Cond.static y ∈ lw_g ∧ Cond.initialized y.cls ∈ lw_g ∧ (y.cls ≠ "java/lang/invoke/MethodHandle" ∧ y.cls ≠ "java/lang/invoke/VarHandle" ∧ (parseMethodDescriptor y.desc).map (fun d => d.parameters.length) = some n) ∧ maxL ≤ 21
theorem j_callVN {post : Int32 → S → Prop} (C : Cx p s m args meth c cc nL own ret D tys A) (hV : VN own index y bytes maxL ret' n) (hM : Ci l y bytes maxL ret' d' D tys Wd (.ref b :: As) σ post) (hr : Rcv σ Wd b y.cls) (hn : As.length = n) (hst : (rest.map fun v => v.category).sum ≤ 8) (hdg : decode cc pc = .ok (.invokevirtual index, 3)) (hd : d' < d)
    (kk : ∀ (r : Int32) (τ : S), post r τ → JJ p l e (rmD d) s m args below meth c Q nL D A Wd τ (pc + 3) L (.int r :: rest)) : JJ p l e (rmD d) s m args below meth c Q nL D A Wd σ pc L (As.reverse ++ .ref b :: rest) := by
  obtain ⟨hx, hb, hml, hown, hts, ⟨hK, hN⟩, hA, hr', hlocks⟩ := C
  obtain ⟨host, v1, v2, v3, v4, v5, v6, v7⟩ := hV
  obtain ⟨q0, ci, fs, r, r1, r2, r3⟩ := hr
  intro H locs ls hP hD hS hl
  have hFc := free_in hD hS hA
  refine va_calli (va_runVN (As := As) (rest := rest) (C := y.cls) ⟨hx, hb, hml, hown, hts⟩ (hM H.size) ⟨va_cnB n hts (gC v1) rfl rfl rfl (hN _ v2) (hts _ v5) v6 (rm_ok hd v7), hts _ v3, hts _ v4⟩ ⟨FB D tys σ H.size _, by rw [← r3]; exact va_recv hK hP r2 r1, fun U hU hW => ⟨rfl, by rw [hU], by rw [hU]; exact hP, ⟨va_K.moved hW.alike hK, KN.warm hW hN⟩, hD.weaken (fun _ _ _ _ => trivial)⟩⟩ rfl hn hl.1 rfl (lv_room hst) hdg ⟨Nat.le_refl _, Nat.le_refl _⟩) hS (fun q _ h => hFc q h) hFc (fun r u t H1 locs1 ht hvm hw hB hz1 hk1 hS => ?_)
  obtain ⟨hP1, -, hD1⟩ := hB
  rw [ht] at hP1
  exact kk r u hw H1 locs1 ls hP1 (hD1.weaken (fun _ q _ h => hFc q.1 h)) hS hl
theorem j_callVNv {post : S → Prop} (C : Cx p s m args meth c cc nL own ret D tys A) (hV : VN own index y bytes maxL ret' n) (hM : Cv l y bytes maxL ret' d' D tys Wd (.ref b :: As) σ post) (hr : Rcv σ Wd b y.cls) (hn : As.length = n) (hst : (rest.map fun v => v.category).sum ≤ 8) (hdg : decode cc pc = .ok (.invokevirtual index, 3)) (hd : d' < d)
    (kk : ∀ (τ : S), post τ → JJ p l e (rmD d) s m args below meth c Q nL D A Wd τ (pc + 3) L (rest)) : JJ p l e (rmD d) s m args below meth c Q nL D A Wd σ pc L (As.reverse ++ .ref b :: rest) := by
  obtain ⟨hx, hb, hml, hown, hts, ⟨hK, hN⟩, hA, hr', hlocks⟩ := C
  obtain ⟨host, v1, v2, v3, v4, v5, v6, v7⟩ := hV
  obtain ⟨q0, ci, fs, r, r1, r2, r3⟩ := hr
  intro H locs ls hP hD hS hl
  have hFc := free_in hD hS hA
  refine va_callv (va_runVN (As := As) (rest := rest) (C := y.cls) ⟨hx, hb, hml, hown, hts⟩ (hM H.size) ⟨va_cnB n hts (gC v1) rfl rfl rfl (hN _ v2) (hts _ v5) v6 (rm_ok hd v7), hts _ v3, hts _ v4⟩ ⟨FB D tys σ H.size _, by rw [← r3]; exact va_recv hK hP r2 r1, fun U hU hW => ⟨rfl, by rw [hU], by rw [hU]; exact hP, ⟨va_K.moved hW.alike hK, KN.warm hW hN⟩, hD.weaken (fun _ _ _ _ => trivial)⟩⟩ rfl hn hl.1 rfl (lv_room hst) hdg ⟨Nat.le_refl _, Nat.le_refl _⟩) hS (fun q _ h => hFc q h) hFc (fun u t H1 locs1 ht hvm hw hB hz1 hk1 hS => ?_)
  obtain ⟨hP1, -, hD1⟩ := hB
  rw [ht] at hP1
  exact kk u hw H1 locs1 ls hP1 (hD1.weaken (fun _ q _ h => hFc q.1 h)) hS hl
theorem j_callSN {post : Int32 → S → Prop} (C : Cx p s m args meth c cc nL own ret D tys A) (hV : SN own index y bytes maxL ret' n) (hM : Ci l y bytes maxL ret' d' D tys Wd As σ post) (hn : As.length = n) (hst : (rest.map fun v => v.category).sum ≤ 8) (hdg : decode cc pc = .ok (.invokestatic index, 3)) (hd : d' < d)
    (kk : ∀ (r : Int32) (τ : S), post r τ → JJ p l e (rmD d) s m args below meth c Q nL D A Wd τ (pc + 3) L (.int r :: rest)) : JJ p l e (rmD d) s m args below meth c Q nL D A Wd σ pc L (As.reverse ++ rest) := by
  obtain ⟨hx, hb, hml, hown, hts, ⟨hK, hN⟩, hA, hr', hlocks⟩ := C
  obtain ⟨host, v1, v2, v3, v5, v6, v7⟩ := hV
  intro H locs ls hP hD hS hl
  have hFc := free_in hD hS hA
  refine va_calli (va_runSN (As := As) (rest := rest) ⟨hx, hb, hml, hown, hts⟩ (hM H.size) ⟨va_cnB n hts (gC v1) rfl rfl rfl (hN _ v2) (hts _ v5) v6 (rm_ok hd v7), hts _ v3, trivial⟩ ⟨FB D tys σ H.size _, fun U hU hW => ⟨rfl, by rw [hU], by rw [hU]; exact hP, ⟨va_K.moved hW.alike hK, KN.warm hW hN⟩, hD.weaken (fun _ _ _ _ => trivial)⟩⟩ rfl hn hl.1 rfl (lv_room hst) hdg ⟨Nat.le_refl _, Nat.le_refl _⟩) hS (fun q _ h => hFc q h) hFc (fun r u t H1 locs1 ht hvm hw hB hz1 hk1 hS => ?_)
  obtain ⟨hP1, -, hD1⟩ := hB
  rw [ht] at hP1
  exact kk r u hw H1 locs1 ls hP1 (hD1.weaken (fun _ q _ h => hFc q.1 h)) hS hl
/-- a method x that is called on an object of the class Cn, which has y for it; 'owner' declares what x names -/
def UW (own Cn owner : String) (index : Nat) (x y : MethodName) (bytes : ByteArray) (maxL : Nat) (ret : Option FieldType) (n : Nat) : Prop :=
  ∃ (b0 : ByteArray) (m0 : Nat) (r0 : Option FieldType), Cond.code y bytes maxL ret ∈ lw_g ∧ Cond.methodLink own index x ∈ lw_g ∧ Cond.sameMethod x.cls owner x.name x.desc ∈ lw_g ∧ Cond.instanceMethod ⟨owner, x.name, x.desc⟩ ∈ lw_g ∧ Cond.code ⟨owner, x.name, x.desc⟩ b0 m0 r0 ∈ lw_g ∧ Cond.selects Cn x y ∈ lw_g ∧ Cond.instanceMethod y ∈ lw_g ∧ Cond.initialized y.cls ∈ lw_g ∧ (owner ≠ "java/lang/invoke/MethodHandle" ∧ owner ≠ "java/lang/invoke/VarHandle" ∧ (parseMethodDescriptor x.desc).map (fun d => d.parameters.length) = some n) ∧ maxL ≤ 21
theorem j_callU {post : Int32 → S → Prop} {x : MethodName} {Cn owner : String} (C : Cx p s m args meth c cc nL own ret D tys A) (hV : UW own Cn owner index x y bytes maxL ret' n) (hM : Ci l y bytes maxL ret' d' D tys Wd (.ref b :: As) σ post) (hr : Rcv σ Wd b Cn) (hn : As.length = n) (hst : (rest.map fun v => v.category).sum ≤ 8) (hdg : decode cc pc = .ok (.invokevirtual index, 3)) (hd : d' < d)
    (kk : ∀ (r : Int32) (τ : S), post r τ → JJ p l e (rmD d) s m args below meth c Q nL D A Wd τ (pc + 3) L (.int r :: rest)) : JJ p l e (rmD d) s m args below meth c Q nL D A Wd σ pc L (As.reverse ++ .ref b :: rest) := by
  obtain ⟨hx, hb, hml, hown, hts, ⟨hK, hN⟩, hA, hr', hlocks⟩ := C
  obtain ⟨b0, m0, r0, v1, v2, v3, v4, v5, v6, v7, v8, v9, v10⟩ := hV
  obtain ⟨q0, ci, fs, r, r1, r2, r3⟩ := hr
  intro H locs ls hP hD hS hl
  have hFc := free_in hD hS hA
  refine va_calli (va_runU (As := As) (rest := rest) (C := Cn) ⟨hx, hb, hml, hown, hts⟩ (hM H.size) (va_cwO n hts (fun w hw => ?_) rfl rfl rfl v5 v9 (rm_ok hd v10)) ⟨FB D tys σ H.size _, by rw [← r3]; exact va_recv hK hP r2 r1, fun U hU hW => ⟨rfl, by rw [hU], by rw [hU]; exact hP, ⟨va_K.moved hW.alike hK, KN.warm hW hN⟩, hD.weaken (fun _ _ _ _ => trivial)⟩⟩ rfl hn hl.1 rfl (lv_room hst) hdg ⟨Nat.le_refl _, Nat.le_refl _⟩) hS (fun q _ h => hFc q h) hFc (fun r u t H1 locs1 ht hvm hw hB hz1 hk1 hS => ?_)
  · unfold va_wsO at hw
    rcases List.mem_append.mp hw with hw | hw
    · simp only [List.mem_cons, List.not_mem_nil, or_false] at hw
      rcases hw with rfl | rfl | rfl | rfl | rfl | rfl
      · exact gI _ v2
      · exact gI _ v3
      · exact gI _ v4
      · exact gI _ v6
      · exact gI _ v7
      · exact gI _ v8
    · exact gC v1 w hw
  · obtain ⟨hP1, -, hD1⟩ := hB
    rw [ht] at hP1
    exact kk r u hw H1 locs1 ls hP1 (hD1.weaken (fun _ q _ h => hFc q.1 h)) hS hl
/-- super.y() -/
def SUW (own : String) (index : Nat) (y : MethodName) (bytes : ByteArray) (maxL : Nat) (ret : Option FieldType) (n : Nat) : Prop :=
  Cond.code y bytes maxL ret ∈ lw_g ∧ Cond.methodLink own index y ∈ lw_g ∧ Cond.sameMethod y.cls y.cls y.name y.desc ∈ lw_g ∧ Cond.superclass own y.cls ∈ lw_g ∧ Cond.instanceMethod y ∈ lw_g ∧ Cond.initialized y.cls ∈ lw_g ∧ (y.name ≠ "<init>" ∧ (parseMethodDescriptor y.desc).map (fun d => d.parameters.length) = some n) ∧ maxL ≤ 21
theorem j_callSU {post : Int32 → S → Prop} {Cn : String} (C : Cx p s m args meth c cc nL own ret D tys A) (hV : SUW own index y bytes maxL ret' n) (hM : Ci l y bytes maxL ret' d' D tys Wd (.ref b :: As) σ post) (hr : Rcv σ Wd b Cn) (hn : As.length = n) (hst : (rest.map fun v => v.category).sum ≤ 8) (hdg : decode cc pc = .ok (.invokespecial index, 3)) (hd : d' < d)
    (kk : ∀ (r : Int32) (τ : S), post r τ → JJ p l e (rmD d) s m args below meth c Q nL D A Wd τ (pc + 3) L (.int r :: rest)) : JJ p l e (rmD d) s m args below meth c Q nL D A Wd σ pc L (As.reverse ++ .ref b :: rest) := by
  obtain ⟨hx, hb, hml, hown, hts, ⟨hK, hN⟩, hA, hr', hlocks⟩ := C
  obtain ⟨v1, v2, v3, v4, v5, v6, v7, v8⟩ := hV
  obtain ⟨q0, ci, fs, r, r1, r2, r3⟩ := hr
  intro H locs ls hP hD hS hl
  have hFc := free_in hD hS hA
  have hat := (hK.1 ci r r2).2
  rw [r3] at hat
  refine va_calli (va_runSU (As := As) (rest := rest) (C := Cn) hat ⟨hx, hb, hml, hown, hts⟩ (hM H.size) (va_cwSU n hts (fun w hw => ?_) rfl rfl rfl v7 (rm_ok hd v8)) ⟨FB D tys σ H.size _, by rw [← r3]; exact va_recv hK hP r2 r1, fun U hU hW => ⟨rfl, by rw [hU], by rw [hU]; exact hP, ⟨va_K.moved hW.alike hK, KN.warm hW hN⟩, hD.weaken (fun _ _ _ _ => trivial)⟩⟩ rfl hn hl.1 rfl (lv_room hst) hdg ⟨Nat.le_refl _, Nat.le_refl _⟩) hS (fun q _ h => hFc q h) hFc (fun r u t H1 locs1 ht hvm hw hB hz1 hk1 hS => ?_)
  · unfold va_wsSU at hw
    rcases List.mem_append.mp hw with hw | hw
    · simp only [List.mem_cons, List.not_mem_nil, or_false] at hw
      rcases hw with rfl | rfl | rfl | rfl | rfl
      · exact gI _ v2
      · exact gI _ v3
      · exact gI _ v4
      · exact gI _ v5
      · exact gI _ v6
    · exact gC v1 w hw
  · obtain ⟨hP1, -, hD1⟩ := hB
    rw [ht] at hP1
    exact kk r u hw H1 locs1 ls hP1 (hD1.weaken (fun _ q _ h => hFc q.1 h)) hS hl
end JR3

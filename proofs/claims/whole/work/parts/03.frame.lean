/-! The judgement JJ: the machine stands at pc with locals L and operand stack st, the heap holds the world Wd σ; heap and slots are hidden. Contracts Ci, Cv, Cz over a world. -/
def rmD (d : Nat) : Room := { frames := d, cells := 0, slots := 0, locals := 40 * d }
def isNest : Cond → Bool
  | .fieldLinkNest .. => true
  | .methodLinkNest .. => true
  | _ => false
def lw_g : List Cond := lw_tbl.filter goodWord
def lw_n : List Cond := lw_tbl.filter isNest
theorem gw {w : Cond} (i : Nat) (h : lw_tbl[i]? = some w) (hg : goodWord w = true) : w ∈ lw_g := List.mem_filter.mpr ⟨List.mem_of_getElem? h, hg⟩
theorem nw {w : Cond} (i : Nat) (h : lw_tbl[i]? = some w) (hg : isNest w = true) : w ∈ lw_n := List.mem_filter.mpr ⟨List.mem_of_getElem? h, hg⟩
theorem lw_good : ∀ w ∈ lw_g, goodWord w = true := fun w h => (List.mem_filter.mp h).2
def KN (U : State) : Prop := ∀ w ∈ lw_n, va_Nw w U
theorem KN.warm {s U : State} (hW : s.WarmedH U.vm) (h : KN s) : KN U := by
  intro w hw
  have h1 := h w hw
  have h2 := (List.mem_filter.mp hw).2
  cases w <;> first | exact va_Nw.warmF hW h1 | exact va_Nw.warmM hW h1 | (simp [isNest] at h2)
theorem KN.same {u U : State} (e : u.vm = U.vm) (h : KN u) : KN U := by
  intro w hw
  have h1 := h w hw
  have h2 := (List.mem_filter.mp hw).2
  cases w <;> first | exact va_Nw.same rfl e h1 | (simp [isNest] at h2)
/-- what holds in the whole walk of a method -/
def Cx (p : Program) (s : State) (m : MethodId) (args : Array Value) (meth : Method) (c : Code) (cc : ByteArray) (nL : Nat) (own : String) (ret : Option FieldType) (D : va_G) (tys : List (ClassId × FieldType)) (A : Nat → Prop) : Prop :=
  p.tables.exec = Jvm.exec ∧ c.code = cc ∧ c.maxLocals = nL ∧ s.vm.findClass own = some m.cls ∧ (∀ w ∈ lw_g, w.before args s = true) ∧ (va_K D vwCl tys s ∧ KN s) ∧ (∀ q : Nat, s.heap.size ≤ q → A q) ∧ meth.sig.returnType = ret ∧ meth.locks = false
def JJ (p : Program) (l : Launch) (e : Env) (R : Room) (s : State) (m : MethodId) (args : Array Value) (below : List Frame) (meth : Method) (c : Code) (Q : State → Prop) (nL : Nat) (D : va_G) (A : Nat → Prop) {S : Type} (Wd : S → va_W) (σ : S) (pc : Nat) (L : List (Nat × Value)) (st : List Value) : Prop :=
  ∀ (H : Heap) (locs : List Loc) (ls : Array Slot), va_P D vwCl (Wd σ) H → va_D A (Wd σ) → va_S A s.heap H locs → lv_has ls nL L → W p l e R s m args below meth c H locs 0 0 Q (F0 m pc ls st)
def PreW (D : va_G) (tys : List (ClassId × FieldType)) {S : Type} (Wd : S → va_W) (σ : S) (sz : Nat) (av : List Value) : Array Value → State → Prop :=
  va_Pc av (fun U => U.heap.size = sz ∧ va_P D vwCl (Wd σ) U.heap ∧ (va_K D vwCl tys U ∧ KN U) ∧ va_D (fun _ => True) (Wd σ))
def Bw (D : va_G) (tys : List (ClassId × FieldType)) {S : Type} (Wd : S → va_W) (A : Nat → Prop) (τ : S) (t : State) : Prop := va_P D vwCl (Wd τ) t.heap ∧ va_K D vwCl tys t ∧ va_D A (Wd τ)
def Ci (l : Launch) (y : MethodName) (cc : ByteArray) (nL : Nat) (ret : Option FieldType) (d : Nat) (D : va_G) (tys : List (ClassId × FieldType)) {S : Type} (Wd : S → va_W) (av : List Value) (σ : S) (post : Int32 → S → Prop) : Prop :=
  ∀ sz, Met l y (.code y cc nL ret :: lw_g) (rmD d) (PreW D tys Wd σ sz av) (va_Qi post (Bw D tys Wd (va_A (Wd σ) sz)) (va_A (Wd σ) sz)) 0 0 (va_A (Wd σ) sz)
def Cv (l : Launch) (y : MethodName) (cc : ByteArray) (nL : Nat) (ret : Option FieldType) (d : Nat) (D : va_G) (tys : List (ClassId × FieldType)) {S : Type} (Wd : S → va_W) (av : List Value) (σ : S) (post : S → Prop) : Prop :=
  ∀ sz, Met l y (.code y cc nL ret :: lw_g) (rmD d) (PreW D tys Wd σ sz av) (va_Qv post (Bw D tys Wd (va_A (Wd σ) sz)) (va_A (Wd σ) sz)) 0 0 (va_A (Wd σ) sz)
section FR
variable {p : Program} {l : Launch} {e : Env} {R : Room} {s : State} {m : MethodId} {args : Array Value} {below : List Frame} {meth : Method} {c : Code} {Q : State → Prop} {nL : Nat} {D : va_G} {A : Nat → Prop} {S : Type} {Wd : S → va_W} {σ : S} {pc : Nat} {L L' : List (Nat × Value)} {st : List Value}
variable {cc : ByteArray} {own : String} {ret : Option FieldType} {tys : List (ClassId × FieldType)} {y : MethodName} {d : Nat} {av : List Value}
theorem Ci.of {post : Int32 → S → Prop} (hy : plainName y.cls = true) (hlen : (lg_sl av).length ≤ nL)
    (body : ∀ (p : Program) (e : Env) (s : State) (m : MethodId) (below : List Frame) (meth : Method) (c : Code) (A : Nat → Prop), Cx p s m av.toArray meth c cc nL y.cls ret D tys A → JJ p l e (rmD d) s m av.toArray below meth c (MQ below (va_Qi post (Bw D tys Wd A) A) av.toArray s 0 0 A) nL D A Wd σ 0 (lv_args 0 av) []) : Ci l y cc nL ret d D tys Wd av σ post := by
  intro sz
  refine Met.ofW (cc := cc) (maxL := nL) (ret := ret) hy rfl ?_
  intro p e s m args below meth c s₁ B hml hv
  obtain ⟨rfl, hsz, hP, hK, hD0⟩ := hv
  have hts := atoms_spec (ws := .code y cc nL ret :: lw_g) B.pre
  subst hsz
  have hl := lv_entry av (n := nL) hlen
  rw [lg_entry_eq]
  exact body p e s m below meth c (va_A (Wd σ) s.heap.size) ⟨B.exec, B.bytes, hml, findClass_of_methodNamed B.named, fun w hw => hts w (List.mem_cons_of_mem _ hw), hK, fun q h => Or.inr h, B.returns, B.notSynchronized⟩ s.heap [] _ hP hD0.self va_S.rf hl
theorem Cv.of {post : S → Prop} (hy : plainName y.cls = true) (hlen : (lg_sl av).length ≤ nL)
    (body : ∀ (p : Program) (e : Env) (s : State) (m : MethodId) (below : List Frame) (meth : Method) (c : Code) (A : Nat → Prop), Cx p s m av.toArray meth c cc nL y.cls ret D tys A → JJ p l e (rmD d) s m av.toArray below meth c (MQ below (va_Qv post (Bw D tys Wd A) A) av.toArray s 0 0 A) nL D A Wd σ 0 (lv_args 0 av) []) : Cv l y cc nL ret d D tys Wd av σ post := by
  intro sz
  refine Met.ofW (cc := cc) (maxL := nL) (ret := ret) hy rfl ?_
  intro p e s m args below meth c s₁ B hml hv
  obtain ⟨rfl, hsz, hP, hK, hD0⟩ := hv
  have hts := atoms_spec (ws := .code y cc nL ret :: lw_g) B.pre
  subst hsz
  have hl := lv_entry av (n := nL) hlen
  rw [lg_entry_eq]
  exact body p e s m below meth c (va_A (Wd σ) s.heap.size) ⟨B.exec, B.bytes, hml, findClass_of_methodNamed B.named, fun w hw => hts w (List.mem_cons_of_mem _ hw), hK, fun q h => Or.inr h, B.returns, B.notSynchronized⟩ s.heap [] _ hP hD0.self va_S.rf hl
theorem Ci.mono {post post' : Int32 → S → Prop} (h : Ci l y cc nL ret d D tys Wd av σ post) (hp : ∀ r τ, post r τ → post' r τ) : Ci l y cc nL ret d D tys Wd av σ post' := by
  intro sz p e ha hc hk s m args below hf happ hP hK
  obtain ⟨t, o, h1, h2, h3, ⟨⟨⟨r, u, g1, g2, g3⟩, g4⟩, h5⟩⟩ := h sz p e ha hc hk s m args below hf happ hP hK
  exact ⟨t, o, h1, h2, h3, ⟨⟨⟨r, u, g1, hp r u g2, g3⟩, g4⟩, h5⟩⟩
-- the ends
theorem j_iret {post : Int32 → S → Prop} {v : Int32} (C : Cx p s m args meth c cc nL own (some .int) D tys A) (hdg : decode cc pc = .ok (.ireturn, 1)) (hp : post v σ) : JJ p l e R s m args below meth c (MQ below (va_Qi post (Bw D tys Wd A) A) args s 0 0 A) nL D A Wd σ pc L [.int v] := by
  obtain ⟨hx, hb, hml, hown, hts, hK, hA, hr, hlocks⟩ := C
  intro H locs ls hP hD hS hl
  exact W.iret (v := v) hx hb hr (fun t ht hW => ⟨⟨v, σ, rfl, hp, by rw [ht]; exact hP, va_K.moved hW.alike hK.1, hD⟩, hS.F ht⟩) hS.2.2 hdg
theorem j_zret {post : Int32 → S → Prop} {v : Int32} (C : Cx p s m args meth c cc nL own (some .boolean) D tys A) (hdg : decode cc pc = .ok (.ireturn, 1)) (hn : v = 0 ∨ v = 1) (hp : post v σ) : JJ p l e R s m args below meth c (MQ below (va_Qi post (Bw D tys Wd A) A) args s 0 0 A) nL D A Wd σ pc L [.int v] := by
  obtain ⟨hx, hb, hml, hown, hts, hK, hA, hr, hlocks⟩ := C
  intro H locs ls hP hD hS hl
  exact W.zret (v := v) hx hb hr (by rcases hn with rfl | rfl <;> rfl) (fun t ht hW => ⟨⟨v, σ, rfl, hp, by rw [ht]; exact hP, va_K.moved hW.alike hK.1, hD⟩, hS.F ht⟩) hS.2.2 hdg
theorem j_vret {post : S → Prop} (C : Cx p s m args meth c cc nL own none D tys A) (hdg : decode cc pc = .ok (.return_, 1)) (hp : post σ) : JJ p l e R s m args below meth c (MQ below (va_Qv post (Bw D tys Wd A) A) args s 0 0 A) nL D A Wd σ pc L [] := by
  obtain ⟨hx, hb, hml, hown, hts, hK, hA, hr, hlocks⟩ := C
  intro H locs ls hP hD hS hl
  exact W.vret hx hb hr (fun t ht hW => ⟨⟨σ, rfl, hp, by rw [ht]; exact hP, va_K.moved hW.alike hK.1, hD⟩, hS.F ht⟩) hS.2.2 hdg
-- calls
theorem FB (D : va_G) (tys : List (ClassId × FieldType)) (σ : S) (sz : Nat) (av : List Value) : FrameBlind (PreW D tys Wd σ sz av) := fun a U g mk q => by
  obtain ⟨q0, q1, qP, ⟨qK, qN⟩, qD⟩ := q
  exact ⟨q0, q1, qP, ⟨va_K.moved (u := U) (U := U.calling g mk a) (Vm.Alike.refl U.vm) qK, KN.same (u := U) (U := U.calling g mk a) rfl qN⟩, qD⟩
theorem gI : GoodIn lw_g lw_g := fun w h => ⟨h, good_of_word (lw_good w h)⟩
theorem gC {y : MethodName} {cc : ByteArray} {nL : Nat} {ret : Option FieldType} (h : Cond.code y cc nL ret ∈ lw_g) : GoodIn lw_g (.code y cc nL ret :: lw_g) := fun w hw => by
  rcases List.mem_cons.mp hw with rfl | hw
  · exact gI _ h
  · exact gI _ hw
/-- what the tables say of a method that is called on an object of its own class, from the class own -/
def VW (own : String) (index : Nat) (y : MethodName) (bytes : ByteArray) (maxL : Nat) (ret : Option FieldType) (n : Nat) : Prop :=
  Cond.code y bytes maxL ret ∈ lw_g ∧ Cond.methodLink own index y ∈ lw_g ∧ Cond.instanceMethod y ∈ lw_g ∧ Cond.selects y.cls y y ∈ lw_g ∧ Cond.initialized y.cls ∈ lw_g ∧ (y.cls ≠ "java/lang/invoke/MethodHandle" ∧ y.cls ≠ "java/lang/invoke/VarHandle" ∧ (parseMethodDescriptor y.desc).map (fun d => d.parameters.length) = some n) ∧ maxL ≤ 21
def SW (own : String) (index : Nat) (y : MethodName) (bytes : ByteArray) (maxL : Nat) (ret : Option FieldType) (n : Nat) : Prop :=
  Cond.code y bytes maxL ret ∈ lw_g ∧ Cond.methodLink own index y ∈ lw_g ∧ Cond.static y ∈ lw_g ∧ Cond.initialized y.cls ∈ lw_g ∧ (y.cls ≠ "java/lang/invoke/MethodHandle" ∧ y.cls ≠ "java/lang/invoke/VarHandle" ∧ (parseMethodDescriptor y.desc).map (fun d => d.parameters.length) = some n) ∧ maxL ≤ 21
def Rcv (σ : S) (Wd : S → va_W) (b : Nat) (C : String) : Prop := ∃ (q0 ci : Nat) (fs : List Value) (r : vw_C), (Wd σ)[q0]? = some (b, .inr (ci, fs)) ∧ vwCl[ci]? = some r ∧ r.1 = C
theorem rm_ok {d d' n : Nat} (h : d' < d) (hn : n ≤ 21) : (rmD d').frames + 1 ≤ (rmD d).frames ∧ 8 + (n + 11) + (rmD d').locals ≤ (rmD d).locals := by
  simp only [rmD]
  omega
variable {bytes : ByteArray} {maxL index n d' : Nat} {ret' : Option FieldType} {As rest : List Value} {b : Nat}
theorem free_in {H : Heap} {locs : List Loc} (hD : va_D A (Wd σ)) (hS : va_S A s.heap H locs) (hA : ∀ q : Nat, s.heap.size ≤ q → A q) : ∀ q, va_A (Wd σ) H.size q → A q := by
  intro q h
  rcases h with ⟨k, e, h⟩ | h
  · exact hD.2 k (q, e) h
  · exact hA q (Nat.le_trans hS.1 h)
theorem j_callV {post : Int32 → S → Prop} (C : Cx p s m args meth c cc nL own ret D tys A) (hV : VW own index y bytes maxL ret' n) (hM : Ci l y bytes maxL ret' d' D tys Wd (.ref b :: As) σ post) (hr : Rcv σ Wd b y.cls) (hn : As.length = n) (hst : (rest.map fun v => v.category).sum ≤ 8) (hdg : decode cc pc = .ok (.invokevirtual index, 3)) (hd : d' < d)
    (kk : ∀ (r : Int32) (τ : S), post r τ → JJ p l e (rmD d) s m args below meth c Q nL D A Wd τ (pc + 3) L (.int r :: rest)) : JJ p l e (rmD d) s m args below meth c Q nL D A Wd σ pc L (As.reverse ++ .ref b :: rest) := by
  obtain ⟨hx, hb, hml, hown, hts, ⟨hK, hN⟩, hA, hr', hlocks⟩ := C
  obtain ⟨v1, v2, v3, v4, v5, v6, v7⟩ := hV
  obtain ⟨q0, ci, fs, r, r1, r2, r3⟩ := hr
  intro H locs ls hP hD hS hl
  have hFc := free_in hD hS hA
  refine va_calli (va_runV (As := As) (rest := rest) (C := y.cls) ⟨hx, hb, hml, hown, hts⟩ (hM H.size) ⟨callB_of n hts (gC v1) rfl rfl rfl (hts _ v5) (hts _ v2) v6 (rm_ok hd v7), hts _ v3, hts _ v4⟩ ⟨FB D tys σ H.size _, by rw [← r3]; exact va_recv hK hP r2 r1, fun U hU hW => ⟨rfl, by rw [hU], by rw [hU]; exact hP, ⟨va_K.moved hW.alike hK, KN.warm hW hN⟩, hD.weaken (fun _ _ _ _ => trivial)⟩⟩ rfl hn hl.1 rfl (lv_room hst) hdg ⟨Nat.le_refl _, Nat.le_refl _⟩) hS (fun q _ h => hFc q h) hFc (fun r u t H1 locs1 ht hvm hw hB hz1 hk1 hS => ?_)
  obtain ⟨hP1, -, hD1⟩ := hB
  rw [ht] at hP1
  exact kk r u hw H1 locs1 ls hP1 (hD1.weaken (fun _ q _ h => hFc q.1 h)) hS hl
theorem j_callVv {post : S → Prop} (C : Cx p s m args meth c cc nL own ret D tys A) (hV : VW own index y bytes maxL ret' n) (hM : Cv l y bytes maxL ret' d' D tys Wd (.ref b :: As) σ post) (hr : Rcv σ Wd b y.cls) (hn : As.length = n) (hst : (rest.map fun v => v.category).sum ≤ 8) (hdg : decode cc pc = .ok (.invokevirtual index, 3)) (hd : d' < d)
    (kk : ∀ (τ : S), post τ → JJ p l e (rmD d) s m args below meth c Q nL D A Wd τ (pc + 3) L rest) : JJ p l e (rmD d) s m args below meth c Q nL D A Wd σ pc L (As.reverse ++ .ref b :: rest) := by
  obtain ⟨hx, hb, hml, hown, hts, ⟨hK, hN⟩, hA, hr', hlocks⟩ := C
  obtain ⟨v1, v2, v3, v4, v5, v6, v7⟩ := hV
  obtain ⟨q0, ci, fs, r, r1, r2, r3⟩ := hr
  intro H locs ls hP hD hS hl
  have hFc := free_in hD hS hA
  refine va_callv (va_runV (As := As) (rest := rest) (C := y.cls) ⟨hx, hb, hml, hown, hts⟩ (hM H.size) ⟨callB_of n hts (gC v1) rfl rfl rfl (hts _ v5) (hts _ v2) v6 (rm_ok hd v7), hts _ v3, hts _ v4⟩ ⟨FB D tys σ H.size _, by rw [← r3]; exact va_recv hK hP r2 r1, fun U hU hW => ⟨rfl, by rw [hU], by rw [hU]; exact hP, ⟨va_K.moved hW.alike hK, KN.warm hW hN⟩, hD.weaken (fun _ _ _ _ => trivial)⟩⟩ rfl hn hl.1 rfl (lv_room hst) hdg ⟨Nat.le_refl _, Nat.le_refl _⟩) hS (fun q _ h => hFc q h) hFc (fun u t H1 locs1 ht hvm hw hB hz1 hk1 hS => ?_)
  obtain ⟨hP1, -, hD1⟩ := hB
  rw [ht] at hP1
  exact kk u hw H1 locs1 ls hP1 (hD1.weaken (fun _ q _ h => hFc q.1 h)) hS hl
theorem j_callS {post : Int32 → S → Prop} (C : Cx p s m args meth c cc nL own ret D tys A) (hV : SW own index y bytes maxL ret' n) (hM : Ci l y bytes maxL ret' d' D tys Wd As σ post) (hn : As.length = n) (hst : (rest.map fun v => v.category).sum ≤ 8) (hdg : decode cc pc = .ok (.invokestatic index, 3)) (hd : d' < d)
    (kk : ∀ (r : Int32) (τ : S), post r τ → JJ p l e (rmD d) s m args below meth c Q nL D A Wd τ (pc + 3) L (.int r :: rest)) : JJ p l e (rmD d) s m args below meth c Q nL D A Wd σ pc L (As.reverse ++ rest) := by
  obtain ⟨hx, hb, hml, hown, hts, ⟨hK, hN⟩, hA, hr', hlocks⟩ := C
  obtain ⟨v1, v2, v3, v5, v6, v7⟩ := hV
  intro H locs ls hP hD hS hl
  have hFc := free_in hD hS hA
  refine va_calli (va_runS (As := As) (rest := rest) ⟨hx, hb, hml, hown, hts⟩ (hM H.size) ⟨callB_of n hts (gC v1) rfl rfl rfl (hts _ v5) (hts _ v2) v6 (rm_ok hd v7), hts _ v3⟩ ⟨FB D tys σ H.size _, fun U hU hW => ⟨rfl, by rw [hU], by rw [hU]; exact hP, ⟨va_K.moved hW.alike hK, KN.warm hW hN⟩, hD.weaken (fun _ _ _ _ => trivial)⟩⟩ rfl hn hl.1 rfl (lv_room hst) hdg ⟨Nat.le_refl _, Nat.le_refl _⟩) hS (fun q _ h => hFc q h) hFc (fun r u t H1 locs1 ht hvm hw hB hz1 hk1 hS => ?_)
  obtain ⟨hP1, -, hD1⟩ := hB
  rw [ht] at hP1
  exact kk r u hw H1 locs1 ls hP1 (hD1.weaken (fun _ q _ h => hFc q.1 h)) hS hl
end FR

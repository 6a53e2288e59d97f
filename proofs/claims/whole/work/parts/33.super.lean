/-! super.m(..), the method being the superclass's superclass's. -/
section SI
variable {p : Program} {l : Launch} {e : Env} {R : Room} {s : State} {m : MethodId} {args : Array Value} {below : List Frame} {meth : Method} {c : Code}
theorem si_sub {vm : Vm} {ps pq : ClassId} {k : Class} (hk : vm.classes[ps]? = some k) (hs : k.super = some pq) : vm.isSubclass ps pq = true := by
  have hlt : ps < vm.classes.size := (Array.getElem?_eq_some_iff.mp hk).1
  obtain ⟨n, hn⟩ := Nat.exists_eq_succ_of_ne_zero (Nat.pos_iff_ne_zero.mp (Nat.lt_of_le_of_lt (Nat.zero_le _) hlt))
  unfold Vm.isSubclass
  rw [hn]
  simp [Vm.isSubclassAux, hk, hs]
theorem si_call {T : State} {locs : List Loc} {cells slots : Nat} (X : Stand p l e R s m args below meth c T locs cells slots) (hexec : p.tables.exec = Jvm.exec) {own mid : String} {index : Nat} {y : MethodName} {bytes : ByteArray} {maxL : Nat} {ret : Option FieldType}
    (hown : s.vm.findClass own = some m.cls) (hlink : (Cond.methodLink own index ⟨mid, y.name, y.desc⟩).before args s = true) (hsame : (Cond.sameMethod mid y.cls y.name y.desc).before args s = true) (hsup : (Cond.superclass own mid).before args s = true) (hsup2 : (Cond.superclass mid y.cls).before args s = true)
    (hinst : (Cond.instanceMethod y).before args s = true) (hcode : (Cond.code y bytes maxL ret).before args s = true) (hno : y.name ≠ "<init>")
    {W : Nat} {Pre : Pt → Array Value → Prop} {Post : Pt → Array Value → Option Value → Pt → Prop} (hK : Back l R p e below s args y 3 W Pre Post)
    {b : Addr} {cellB : Cell} {kB : Class} (hcell : T.heap[b]? = some cellB) (hobj : cellB.vm.isStatics = false) (hkB : s.vm.classes[cellB.cls]? = some kB)
    {g : JFrame} (hg : g.method = m) (hsize : g.locals.size = c.maxLocals) {argsL rest : List Value} (hlen : ∀ sig, parseMethodDescriptor y.desc = some sig → argsL.length = sig.parameters.length)
    (hstack : g.stack = argsL.reverse ++ .ref b :: rest) (hW : 2 * g.monitorRoom + (rest.map fun v => v.category).sum ≤ W) (hdg : decode c.code g.pc = .ok (.invokespecial index, 3))
    (hpre : ∀ vm₁, s.WarmedH vm₁ → Pre ⟨T.setVm vm₁, locs, cells, slots⟩ (Value.ref b :: argsL).toArray) :
    ∃ (v : Option Value) (vm₁ : Vm) (B : Pt), s.WarmedH vm₁ ∧ Stand p l e R s m args below meth c B.U B.locs B.cells B.slots ∧ Post ⟨T.setVm vm₁, locs, cells, slots⟩ (Value.ref b :: argsL).toArray v B ∧
      ∀ target, Steps p.tables e below (B.U.setTop { g with pc := g.pc + 3, stack := v.toList ++ rest }) target → Steps p.tables e below (T.setTop g) target := by
  obtain ⟨mk, methM, hnamed, hmethM, hstM, habM⟩ := Cond.instanceMethod_spec hinst
  obtain ⟨methM', cM, hmethM', -, -, -, -, -, -, hsigM⟩ := Cond.code_spec hnamed hcode
  cases hmethM.symm.trans hmethM'
  obtain ⟨ps, dk, kp, hps, hdk, hkp, hsuper, -, -, hnid⟩ := Cond.superclass_spec hown hsup
  obtain ⟨pq, dq, kq, hpq, hdq, hkq, hsuper2, -⟩ := Cond.superclass_spec hps hsup2
  have hn : s.methodNamed? ⟨y.cls, y.name, y.desc⟩ = some mk := hnamed
  have hpm : pq = mk.cls := Option.some.inj (hpq.symm.trans (findClass_of_methodNamed hnamed))
  have hsub : s.vm.isSubclass ps mk.cls = true := by rw [← hpm]; exact si_sub hdq hsuper2
  obtain ⟨vm₁, X₁, hstep₁⟩ := X.invokespecialUp (x := ⟨mid, y.name, y.desc⟩) (owner := y.cls) hexec hown hlink hsame hn hmethM hstM habM hno hdk hnid hps hsuper hsub (a := b) (cell := cellB) hcell
    (fun z h => by rw [h] at hobj; cases hobj) hkB (g := g) hg (argsL := argsL) (rest := rest) (hlen _ hsigM) hstack hdg
  obtain ⟨v, B, X', hpost, hsteps⟩ := hK m meth c ⟨T.setVm vm₁, locs, cells, slots⟩ { g with stack := rest } (.invokespecial index) mk (Value.ref b :: argsL).toArray X₁ hg hsize hdg hW (X₁.named hnamed) (hpre vm₁ X₁.warmed)
  exact ⟨v, vm₁, B, X₁.warmed, X', hpost, fun target h => hstep₁ _ (by rw [doInvoke_state]; exact hsteps.trans h)⟩
def SIW (own mid : String) (index : Nat) (y : MethodName) (bytes : ByteArray) (maxL : Nat) (ret : Option FieldType) (n : Nat) : Prop :=
  Cond.code y bytes maxL ret ∈ lw_g ∧ Cond.methodLink own index ⟨mid, y.name, y.desc⟩ ∈ lw_g ∧ Cond.sameMethod mid y.cls y.name y.desc ∈ lw_g ∧ Cond.superclass own mid ∈ lw_g ∧ Cond.superclass mid y.cls ∈ lw_g ∧ Cond.instanceMethod y ∈ lw_g ∧ Cond.initialized y.cls ∈ lw_g ∧ (y.name ≠ "<init>" ∧ (parseMethodDescriptor y.desc).map (fun d => d.parameters.length) = some n) ∧ maxL ≤ 21
variable {Q : State → Prop} {nL d : Nat} {D : va_G} {A : Nat → Prop} {S : Type} {Wd : S → va_W} {σ : S} {pc : Nat} {L : List (Nat × Value)} {rest : List Value} {cc : ByteArray} {own mid : String} {ret : Option FieldType} {tys : List (ClassId × FieldType)} {y : MethodName} {bytes : ByteArray} {maxL index n d' : Nat} {ret' : Option FieldType} {As : List Value} {b : Nat}
theorem j_callSI {post : Int32 → S → Prop} {Cn : String} (C : Cx p s m args meth c cc nL own ret D tys A) (hV : SIW own mid index y bytes maxL ret' n) (hM : Ci l y bytes maxL ret' d' D tys Wd (.ref b :: As) σ post) (hr : Rcv σ Wd b Cn) (hn : As.length = n) (hst : (rest.map fun v => v.category).sum ≤ 8) (hdg : decode cc pc = .ok (.invokespecial index, 3)) (hd : d' < d)
    (kk : ∀ (r : Int32) (τ : S), post r τ → JJ p l e (rmD d) s m args below meth c Q nL D A Wd τ (pc + 3) L (.int r :: rest)) : JJ p l e (rmD d) s m args below meth c Q nL D A Wd σ pc L (As.reverse ++ .ref b :: rest) := by
  obtain ⟨hx, hb, hml, hown, hts, ⟨hK, hN⟩, hA, hr', hlocks⟩ := C
  obtain ⟨v1, v2, v3, v4, v4b, v5, v6, v7, v8⟩ := hV
  obtain ⟨q0, ci, fs, r, r1, r2, r3⟩ := hr
  intro H locs ls hP hD hS hl
  have hFc := free_in hD hS hA
  have hat := (hK.1 ci r r2).2
  have hcB := va_recv hK hP r2 r1
  have hfb := FB (Wd := Wd) D tys σ H.size (Value.ref b :: As)
  have hbk : Back l (rmD d) p e below s args y 3 8 (PreOf (rmD d) 0 0 (PreW D tys Wd σ H.size (Value.ref b :: As))) (PostOf (va_Qi post (Bw D tys Wd (va_A (Wd σ) H.size)) (va_A (Wd σ) H.size)) 0 0 (va_A (Wd σ) H.size)) := back_of (bytes := bytes) (maxL := maxL) (ret := ret') (hM H.size) hfb rfl rfl (rm_ok hd v8).1 (rm_ok hd v8).2 (pay_in hts (gC v1)) List.mem_cons_self (fun a' U hW => word_at hW (Or.inl (by first | rfl | simp [Cond.onTables, Cond.keeps, Cond.steady])) (hts _ v6))
  refine va_calli (rest := rest) (mc := 0) (ms := 0) (a := (Value.ref b :: As).toArray) (A1 := va_A (Wd σ) H.size) (free := va_A (Wd σ) H.size) (post := post) (B := Bw D tys Wd (va_A (Wd σ) H.size)) ?_ hS (fun q _ h => hFc q h) hFc (fun r u t H1 locs1 ht hvm hw hB hz1 hk1 hS => ?_)
  · obtain ⟨cellB, hcB, hoB, hclB⟩ := hcB
    obtain ⟨hfc, kB, hkB, -⟩ := hat
    have hce := Option.some.inj (hfc.symm.trans hclB)
    rw [hce] at hkB
    intro T hT X
    have hlen : ∀ sig, parseMethodDescriptor y.desc = some sig → As.length = sig.parameters.length := fun sig h => by
      have h2 := v7.2
      rw [h] at h2
      exact hn.trans (Option.some.inj h2).symm
    obtain ⟨v, vm₁, ⟨U', l2, c2, s2⟩, hW₁, X', ⟨g', mk, t, L, e1, e2, hq, h1, hL, h2, h3⟩, st⟩ := si_call X hx (bytes := bytes) (maxL := maxL) (ret := ret') hown (hts _ v2) (hts _ v3) (hts _ v4) (hts _ v4b) (hts _ v5) (hts _ v1) v7.1 hbk (by rw [hT]; exact hcB) hoB hkB (g := F0 m pc ls (As.reverse ++ .ref b :: rest)) rfl (hl.1.trans hml.symm) (argsL := As) (rest := rest) hlen rfl (lv_room hst) (by rw [hb]; exact hdg)
      (fun vm₁ hW₁ => ⟨Nat.le_refl _, Nat.le_refl _, rfl, by show T.heap.size = _; rw [hT], by show va_P D vwCl (Wd σ) T.heap; rw [hT]; exact hP, ⟨va_K.moved (U := T.setVm vm₁) hW₁.alike hK, KN.warm (U := T.setVm vm₁) hW₁ hN⟩, hD.weaken (fun _ _ _ _ => trivial)⟩)
    dsimp only [Pt.U, Pt.locs, Pt.cells, Pt.slots] at X' e1 e2 h1 h2 h3 st
    subst h1; subst h2; subst h3
    exact ⟨v, (T.setVm vm₁).calling g' mk (Value.ref b :: As).toArray, t, U', L, hT, X', hL, e1, e2, hq, st⟩
  · obtain ⟨hP1, -, hD1⟩ := hB
    rw [ht] at hP1
    exact kk r u hw H1 locs1 ls hP1 (hD1.weaken (fun _ q _ h => hFc q.1 h)) hS hl
end SI
theorem si6_7 : SIW RX6 RX0 7 yX2_eats cX2_eats 2 (some .int) 1 := ⟨gw 500 (by decide +kernel) rfl, gw 490 (by decide +kernel) rfl, gw 491 (by decide +kernel) rfl, gw 207 (by decide +kernel) rfl, gw 186 (by decide +kernel) rfl, gw 480 (by decide +kernel) rfl, gw 87 (by decide +kernel) rfl, by decide +kernel, by decide⟩
theorem si7_7 : SIW RX7 RX9 7 yX2_eats cX2_eats 2 (some .int) 1 := ⟨gw 500 (by decide +kernel) rfl, gw 496 (by decide +kernel) rfl, gw 497 (by decide +kernel) rfl, gw 214 (by decide +kernel) rfl, gw 193 (by decide +kernel) rfl, gw 480 (by decide +kernel) rfl, gw 87 (by decide +kernel) rfl, by decide +kernel, by decide⟩
theorem si5_17 : SIW RX5 RX10 17 yX2_stands cX2_stands 5 (some .int) 4 := ⟨gw 903 (by decide +kernel) rfl, gw 884 (by decide +kernel) rfl, gw 885 (by decide +kernel) rfl, gw 200 (by decide +kernel) rfl, gw 179 (by decide +kernel) rfl, gw 876 (by decide +kernel) rfl, gw 87 (by decide +kernel) rfl, by decide +kernel, by decide⟩
theorem si7_26 : SIW RX7 RX9 26 yX2_stands cX2_stands 5 (some .int) 4 := ⟨gw 903 (by decide +kernel) rfl, gw 899 (by decide +kernel) rfl, gw 900 (by decide +kernel) rfl, gw 214 (by decide +kernel) rfl, gw 193 (by decide +kernel) rfl, gw 876 (by decide +kernel) rfl, gw 87 (by decide +kernel) rfl, by decide +kernel, by decide⟩

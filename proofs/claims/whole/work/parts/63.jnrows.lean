/-! Rows of JN: as JJ, with counters of the cells and slots that were made. -/
def rmN (d cl sl : Nat) : Room := { frames := d, cells := cl, slots := sl, locals := 40 * d }
def JN (p : Program) (l : Launch) (e : Env) (R : Room) (s : State) (m : MethodId) (args : Array Value) (below : List Frame) (meth : Method) (c : Code) (Q : State → Prop) (nL : Nat) (D : va_G) (A : Nat → Prop) (cl sl : Nat) {S : Type} (Wd : S → va_W) (σ : S) (pc : Nat) (L : List (Nat × Value)) (st : List Value) : Prop :=
  ∀ (H : Heap) (locs : List Loc) (ls : Array Slot), va_P D vwCl (Wd σ) H → va_D A (Wd σ) → va_S A s.heap H locs → lv_has ls nL L → W p l e R s m args below meth c H locs cl sl Q (F0 m pc ls st)
section JNR
variable {p : Program} {l : Launch} {e : Env} {R : Room} {s : State} {m : MethodId} {args : Array Value} {below : List Frame} {meth : Method} {c : Code} {Q : State → Prop} {nL : Nat} {D : va_G} {A : Nat → Prop} {cl sl : Nat} {S : Type} {Wd : S → va_W} {σ : S} {pc : Nat} {L L' : List (Nat × Value)} {rest : List Value}
variable {cc : ByteArray} {own : String} {ret : Option FieldType} {tys : List (ClassId × FieldType)}
theorem n_iconst (C : Cx p s m args meth c cc nL own ret D tys A) {n : Int} {v : Int32} (hdg : decode cc pc = .ok (.iconst n, 1)) (hv : Int32.ofInt n = v) (kk : JN p l e R s m args below meth c Q nL D A cl sl Wd σ (pc + 1) L (.int v :: rest)) : JN p l e R s m args below meth c Q nL D A cl sl Wd σ pc L (rest) := by
  obtain ⟨hx, hb, hml, hown, hts, hK, hA, hr, hlocks⟩ := C
  intro H locs ls hP hD hS hl
  exact lv_iconst hx hb hdg hv (kk H locs ls hP hD hS hl)
theorem n_bipush (C : Cx p s m args meth c cc nL own ret D tys A) {n : Int} {v : Int32} (hdg : decode cc pc = .ok (.bipush n, 2)) (hv : (Int8.ofInt n).toInt32 = v) (kk : JN p l e R s m args below meth c Q nL D A cl sl Wd σ (pc + 2) L (.int v :: rest)) : JN p l e R s m args below meth c Q nL D A cl sl Wd σ pc L (rest) := by
  obtain ⟨hx, hb, hml, hown, hts, hK, hA, hr, hlocks⟩ := C
  intro H locs ls hP hD hS hl
  exact lv_bipush hx hb hdg hv (kk H locs ls hP hD hS hl)
theorem n_sipush (C : Cx p s m args meth c cc nL own ret D tys A) {n : Int} {v : Int32} (hdg : decode cc pc = .ok (.sipush n, 3)) (hv : (Int16.ofInt n).toInt32 = v) (kk : JN p l e R s m args below meth c Q nL D A cl sl Wd σ (pc + 3) L (.int v :: rest)) : JN p l e R s m args below meth c Q nL D A cl sl Wd σ pc L (rest) := by
  obtain ⟨hx, hb, hml, hown, hts, hK, hA, hr, hlocks⟩ := C
  intro H locs ls hP hD hS hl
  exact lv_sipush hx hb hdg hv (kk H locs ls hP hD hS hl)
theorem n_iload_n (C : Cx p s m args meth c cc nL own ret D tys A) {k : Fin 4} {x : Int32} (j : Nat) (hdg : decode cc pc = .ok (.iload_n k, 1)) (hj : L[j]? = some ((k : Nat), .int x)) (kk : JN p l e R s m args below meth c Q nL D A cl sl Wd σ (pc + 1) L (.int x :: rest)) : JN p l e R s m args below meth c Q nL D A cl sl Wd σ pc L (rest) := by
  obtain ⟨hx, hb, hml, hown, hts, hK, hA, hr, hlocks⟩ := C
  intro H locs ls hP hD hS hl
  exact lv_iload_n hx hb hdg rfl (lv_at hl j hj) (kk H locs ls hP hD hS hl)
theorem n_aload_n (C : Cx p s m args meth c cc nL own ret D tys A) {k : Fin 4} {x : Nat} (j : Nat) (hdg : decode cc pc = .ok (.aload_n k, 1)) (hj : L[j]? = some ((k : Nat), .ref x)) (kk : JN p l e R s m args below meth c Q nL D A cl sl Wd σ (pc + 1) L (.ref x :: rest)) : JN p l e R s m args below meth c Q nL D A cl sl Wd σ pc L (rest) := by
  obtain ⟨hx, hb, hml, hown, hts, hK, hA, hr, hlocks⟩ := C
  intro H locs ls hP hD hS hl
  exact lv_aload_n hx hb hdg rfl (lv_at hl j hj) (kk H locs ls hP hD hS hl)
theorem n_iload (C : Cx p s m args meth c cc nL own ret D tys A) {i : Nat} {x : Int32} (j : Nat) (hdg : decode cc pc = .ok (.iload i, 2)) (hj : L[j]? = some (i, .int x)) (kk : JN p l e R s m args below meth c Q nL D A cl sl Wd σ (pc + 2) L (.int x :: rest)) : JN p l e R s m args below meth c Q nL D A cl sl Wd σ pc L (rest) := by
  obtain ⟨hx, hb, hml, hown, hts, hK, hA, hr, hlocks⟩ := C
  intro H locs ls hP hD hS hl
  exact lv_iload hx hb hdg (lv_at hl j hj) (kk H locs ls hP hD hS hl)
theorem n_aload (C : Cx p s m args meth c cc nL own ret D tys A) {i : Nat} {x : Nat} (j : Nat) (hdg : decode cc pc = .ok (.aload i, 2)) (hj : L[j]? = some (i, .ref x)) (kk : JN p l e R s m args below meth c Q nL D A cl sl Wd σ (pc + 2) L (.ref x :: rest)) : JN p l e R s m args below meth c Q nL D A cl sl Wd σ pc L (rest) := by
  obtain ⟨hx, hb, hml, hown, hts, hK, hA, hr, hlocks⟩ := C
  intro H locs ls hP hD hS hl
  exact lv_aload hx hb hdg (lv_at hl j hj) (kk H locs ls hP hD hS hl)
theorem n_istore_n (C : Cx p s m args meth c cc nL own ret D tys A) {k : Fin 4} {x : Int32} (L' : List (Nat × Value)) (hdg : decode cc pc = .ok (.istore_n k, 1)) (hn : (k : Nat) < nL) (hl' : ((k : Nat), Value.int x) :: L.filter (fun q => !(q.1 == (k : Nat)) && !(q.1 + 1 == (k : Nat) && q.2.category == 2)) = L') (kk : JN p l e R s m args below meth c Q nL D A cl sl Wd σ (pc + 1) L' rest) : JN p l e R s m args below meth c Q nL D A cl sl Wd σ pc L (.int x :: rest) := by
  obtain ⟨hx, hb, hml, hown, hts, hK, hA, hr, hlocks⟩ := C
  intro H locs ls hP hD hS hl
  exact lv_istore_n hx hb hdg rfl hl hn hl' (fun ls' hl2 => kk H locs ls' hP hD hS hl2)
theorem n_istore (C : Cx p s m args meth c cc nL own ret D tys A) {i : Nat} {x : Int32} (L' : List (Nat × Value)) (hdg : decode cc pc = .ok (.istore i, 2)) (hn : i < nL) (hl' : (i, Value.int x) :: L.filter (fun q => !(q.1 == i) && !(q.1 + 1 == i && q.2.category == 2)) = L') (kk : JN p l e R s m args below meth c Q nL D A cl sl Wd σ (pc + 2) L' rest) : JN p l e R s m args below meth c Q nL D A cl sl Wd σ pc L (.int x :: rest) := by
  obtain ⟨hx, hb, hml, hown, hts, hK, hA, hr, hlocks⟩ := C
  intro H locs ls hP hD hS hl
  exact lv_istore hx hb hdg hl hn hl' (fun ls' hl2 => kk H locs ls' hP hD hS hl2)
theorem n_astore_n (C : Cx p s m args meth c cc nL own ret D tys A) {k : Fin 4} {x : Nat} (L' : List (Nat × Value)) (hdg : decode cc pc = .ok (.astore_n k, 1)) (hn : (k : Nat) < nL) (hl' : ((k : Nat), Value.ref x) :: L.filter (fun q => !(q.1 == (k : Nat)) && !(q.1 + 1 == (k : Nat) && q.2.category == 2)) = L') (kk : JN p l e R s m args below meth c Q nL D A cl sl Wd σ (pc + 1) L' rest) : JN p l e R s m args below meth c Q nL D A cl sl Wd σ pc L (.ref x :: rest) := by
  obtain ⟨hx, hb, hml, hown, hts, hK, hA, hr, hlocks⟩ := C
  intro H locs ls hP hD hS hl
  exact lv_astore_n hx hb hdg rfl hl hn hl' (fun ls' hl2 => kk H locs ls' hP hD hS hl2)
theorem n_astore (C : Cx p s m args meth c cc nL own ret D tys A) {i : Nat} {x : Nat} (L' : List (Nat × Value)) (hdg : decode cc pc = .ok (.astore i, 2)) (hn : i < nL) (hl' : (i, Value.ref x) :: L.filter (fun q => !(q.1 == i) && !(q.1 + 1 == i && q.2.category == 2)) = L') (kk : JN p l e R s m args below meth c Q nL D A cl sl Wd σ (pc + 2) L' rest) : JN p l e R s m args below meth c Q nL D A cl sl Wd σ pc L (.ref x :: rest) := by
  obtain ⟨hx, hb, hml, hown, hts, hK, hA, hr, hlocks⟩ := C
  intro H locs ls hP hD hS hl
  exact lv_astore hx hb hdg hl hn hl' (fun ls' hl2 => kk H locs ls' hP hD hS hl2)
theorem n_iinc (C : Cx p s m args meth c cc nL own ret D tys A) {i : Nat} {n : Int} {x v : Int32} (j : Nat) (L' : List (Nat × Value)) (hdg : decode cc pc = .ok (.iinc i n, 3)) (hj : L[j]? = some (i, .int x)) (hv : x + Int32.ofInt n = v) (hn : i < nL) (hl' : (i, Value.int v) :: L.filter (fun q => !(q.1 == i) && !(q.1 + 1 == i && q.2.category == 2)) = L') (kk : JN p l e R s m args below meth c Q nL D A cl sl Wd σ (pc + 3) L' rest) : JN p l e R s m args below meth c Q nL D A cl sl Wd σ pc L rest := by
  obtain ⟨hx, hb, hml, hown, hts, hK, hA, hr, hlocks⟩ := C
  intro H locs ls hP hD hS hl
  exact lv_iinc hx hb hdg hl hj hv hn hl' (fun ls' hl2 => kk H locs ls' hP hD hS hl2)
theorem n_iadd (C : Cx p s m args meth c cc nL own ret D tys A) {x y : Int32} (hdg : decode cc pc = .ok (.iadd, 1)) (kk : JN p l e R s m args below meth c Q nL D A cl sl Wd σ (pc + 1) L (.int (x + y) :: rest)) : JN p l e R s m args below meth c Q nL D A cl sl Wd σ pc L (.int y :: .int x :: rest) := by
  obtain ⟨hx, hb, hml, hown, hts, hK, hA, hr, hlocks⟩ := C
  intro H locs ls hP hD hS hl
  exact lv_iadd hx hb hdg (kk H locs ls hP hD hS hl)
theorem n_isub (C : Cx p s m args meth c cc nL own ret D tys A) {x y : Int32} (hdg : decode cc pc = .ok (.isub, 1)) (kk : JN p l e R s m args below meth c Q nL D A cl sl Wd σ (pc + 1) L (.int (x - y) :: rest)) : JN p l e R s m args below meth c Q nL D A cl sl Wd σ pc L (.int y :: .int x :: rest) := by
  obtain ⟨hx, hb, hml, hown, hts, hK, hA, hr, hlocks⟩ := C
  intro H locs ls hP hD hS hl
  exact lv_isub hx hb hdg (kk H locs ls hP hD hS hl)
theorem n_iand (C : Cx p s m args meth c cc nL own ret D tys A) {x y : Int32} (hdg : decode cc pc = .ok (.iand, 1)) (kk : JN p l e R s m args below meth c Q nL D A cl sl Wd σ (pc + 1) L (.int (x &&& y) :: rest)) : JN p l e R s m args below meth c Q nL D A cl sl Wd σ pc L (.int y :: .int x :: rest) := by
  obtain ⟨hx, hb, hml, hown, hts, hK, hA, hr, hlocks⟩ := C
  intro H locs ls hP hD hS hl
  exact lv_iand hx hb hdg (kk H locs ls hP hD hS hl)
theorem n_i2l (C : Cx p s m args meth c cc nL own ret D tys A) {x : Int32} (hdg : decode cc pc = .ok (.i2l, 1)) (kk : JN p l e R s m args below meth c Q nL D A cl sl Wd σ (pc + 1) L (.long x.toInt64 :: rest)) : JN p l e R s m args below meth c Q nL D A cl sl Wd σ pc L (.int x :: rest) := by
  obtain ⟨hx, hb, hml, hown, hts, hK, hA, hr, hlocks⟩ := C
  intro H locs ls hP hD hS hl
  exact lv_i2l hx hb hdg rfl (kk H locs ls hP hD hS hl)
theorem n_land (C : Cx p s m args meth c cc nL own ret D tys A) {x y : Int64} (hdg : decode cc pc = .ok (.land, 1)) (kk : JN p l e R s m args below meth c Q nL D A cl sl Wd σ (pc + 1) L (.long (x &&& y) :: rest)) : JN p l e R s m args below meth c Q nL D A cl sl Wd σ pc L (.long y :: .long x :: rest) := by
  obtain ⟨hx, hb, hml, hown, hts, hK, hA, hr, hlocks⟩ := C
  intro H locs ls hP hD hS hl
  exact lv_land hx hb hdg (kk H locs ls hP hD hS hl)
theorem n_lor (C : Cx p s m args meth c cc nL own ret D tys A) {x y : Int64} (hdg : decode cc pc = .ok (.lor, 1)) (kk : JN p l e R s m args below meth c Q nL D A cl sl Wd σ (pc + 1) L (.long (x ||| y) :: rest)) : JN p l e R s m args below meth c Q nL D A cl sl Wd σ pc L (.long y :: .long x :: rest) := by
  obtain ⟨hx, hb, hml, hown, hts, hK, hA, hr, hlocks⟩ := C
  intro H locs ls hP hD hS hl
  exact lv_lor hx hb hdg (kk H locs ls hP hD hS hl)
theorem n_dup (C : Cx p s m args meth c cc nL own ret D tys A) {va : Value} (hdg : decode cc pc = .ok (.dup, 1)) (h1 : va.category = 1) (kk : JN p l e R s m args below meth c Q nL D A cl sl Wd σ (pc + 1) L (va :: va :: rest)) : JN p l e R s m args below meth c Q nL D A cl sl Wd σ pc L (va :: rest) := by
  obtain ⟨hx, hb, hml, hown, hts, hK, hA, hr, hlocks⟩ := C
  intro H locs ls hP hD hS hl
  exact lv_dup hx hb hdg h1 (kk H locs ls hP hD hS hl)
theorem n_pop (C : Cx p s m args meth c cc nL own ret D tys A) {va : Value} (hdg : decode cc pc = .ok (.pop, 1)) (h1 : va.category = 1) (kk : JN p l e R s m args below meth c Q nL D A cl sl Wd σ (pc + 1) L (rest)) : JN p l e R s m args below meth c Q nL D A cl sl Wd σ pc L (va :: rest) := by
  obtain ⟨hx, hb, hml, hown, hts, hK, hA, hr, hlocks⟩ := C
  intro H locs ls hP hD hS hl
  exact lv_pop hx hb hdg h1 (kk H locs ls hP hD hS hl)
theorem n_goto (C : Cx p s m args meth c cc nL own ret D tys A) {off : Int} (tgt : Nat) (hdg : decode cc pc = .ok (.goto off, 3)) (ht : (pc : Int) + off = (tgt : Int)) (kk : JN p l e R s m args below meth c Q nL D A cl sl Wd σ tgt L rest) : JN p l e R s m args below meth c Q nL D A cl sl Wd σ pc L rest := by
  obtain ⟨hx, hb, hml, hown, hts, hK, hA, hr, hlocks⟩ := C
  intro H locs ls hP hD hS hl
  exact lv_goto hx hb hdg ht (kk H locs ls hP hD hS hl)
theorem n_icmp_eq (C : Cx p s m args meth c cc nL own ret D tys A) {x y : Int32} {off : Int} (tgt : Nat) (hdg : decode cc pc = .ok (.if_icmp .eq off, 3)) (ht : (pc : Int) + off = (tgt : Int)) (kt : x = y → JN p l e R s m args below meth c Q nL D A cl sl Wd σ tgt L rest) (kf : ¬ x = y → JN p l e R s m args below meth c Q nL D A cl sl Wd σ (pc + 3) L rest) : JN p l e R s m args below meth c Q nL D A cl sl Wd σ pc L (.int y :: .int x :: rest) := by
  obtain ⟨hx, hb, hml, hown, hts, hK, hA, hr, hlocks⟩ := C
  intro H locs ls hP hD hS hl
  exact lv_icmp_eq hx hb hdg ht (fun h => kt h H locs ls hP hD hS hl) (fun h => kf h H locs ls hP hD hS hl)
theorem n_icmp_ne (C : Cx p s m args meth c cc nL own ret D tys A) {x y : Int32} {off : Int} (tgt : Nat) (hdg : decode cc pc = .ok (.if_icmp .ne off, 3)) (ht : (pc : Int) + off = (tgt : Int)) (kt : ¬ x = y → JN p l e R s m args below meth c Q nL D A cl sl Wd σ tgt L rest) (kf : x = y → JN p l e R s m args below meth c Q nL D A cl sl Wd σ (pc + 3) L rest) : JN p l e R s m args below meth c Q nL D A cl sl Wd σ pc L (.int y :: .int x :: rest) := by
  obtain ⟨hx, hb, hml, hown, hts, hK, hA, hr, hlocks⟩ := C
  intro H locs ls hP hD hS hl
  exact lv_icmp_ne hx hb hdg ht (fun h => kt h H locs ls hP hD hS hl) (fun h => kf h H locs ls hP hD hS hl)
theorem n_icmp_lt (C : Cx p s m args meth c cc nL own ret D tys A) {x y : Int32} {off : Int} (tgt : Nat) (hdg : decode cc pc = .ok (.if_icmp .lt off, 3)) (ht : (pc : Int) + off = (tgt : Int)) (kt : x < y → JN p l e R s m args below meth c Q nL D A cl sl Wd σ tgt L rest) (kf : ¬ x < y → JN p l e R s m args below meth c Q nL D A cl sl Wd σ (pc + 3) L rest) : JN p l e R s m args below meth c Q nL D A cl sl Wd σ pc L (.int y :: .int x :: rest) := by
  obtain ⟨hx, hb, hml, hown, hts, hK, hA, hr, hlocks⟩ := C
  intro H locs ls hP hD hS hl
  exact lv_icmp_lt hx hb hdg ht (fun h => kt h H locs ls hP hD hS hl) (fun h => kf h H locs ls hP hD hS hl)
theorem n_icmp_ge (C : Cx p s m args meth c cc nL own ret D tys A) {x y : Int32} {off : Int} (tgt : Nat) (hdg : decode cc pc = .ok (.if_icmp .ge off, 3)) (ht : (pc : Int) + off = (tgt : Int)) (kt : y ≤ x → JN p l e R s m args below meth c Q nL D A cl sl Wd σ tgt L rest) (kf : ¬ y ≤ x → JN p l e R s m args below meth c Q nL D A cl sl Wd σ (pc + 3) L rest) : JN p l e R s m args below meth c Q nL D A cl sl Wd σ pc L (.int y :: .int x :: rest) := by
  obtain ⟨hx, hb, hml, hown, hts, hK, hA, hr, hlocks⟩ := C
  intro H locs ls hP hD hS hl
  exact lv_icmp_ge hx hb hdg ht (fun h => kt h H locs ls hP hD hS hl) (fun h => kf h H locs ls hP hD hS hl)
theorem n_icmp_gt (C : Cx p s m args meth c cc nL own ret D tys A) {x y : Int32} {off : Int} (tgt : Nat) (hdg : decode cc pc = .ok (.if_icmp .gt off, 3)) (ht : (pc : Int) + off = (tgt : Int)) (kt : y < x → JN p l e R s m args below meth c Q nL D A cl sl Wd σ tgt L rest) (kf : ¬ y < x → JN p l e R s m args below meth c Q nL D A cl sl Wd σ (pc + 3) L rest) : JN p l e R s m args below meth c Q nL D A cl sl Wd σ pc L (.int y :: .int x :: rest) := by
  obtain ⟨hx, hb, hml, hown, hts, hK, hA, hr, hlocks⟩ := C
  intro H locs ls hP hD hS hl
  exact lv_icmp_gt hx hb hdg ht (fun h => kt h H locs ls hP hD hS hl) (fun h => kf h H locs ls hP hD hS hl)
theorem n_icmp_le (C : Cx p s m args meth c cc nL own ret D tys A) {x y : Int32} {off : Int} (tgt : Nat) (hdg : decode cc pc = .ok (.if_icmp .le off, 3)) (ht : (pc : Int) + off = (tgt : Int)) (kt : x ≤ y → JN p l e R s m args below meth c Q nL D A cl sl Wd σ tgt L rest) (kf : ¬ x ≤ y → JN p l e R s m args below meth c Q nL D A cl sl Wd σ (pc + 3) L rest) : JN p l e R s m args below meth c Q nL D A cl sl Wd σ pc L (.int y :: .int x :: rest) := by
  obtain ⟨hx, hb, hml, hown, hts, hK, hA, hr, hlocks⟩ := C
  intro H locs ls hP hD hS hl
  exact lv_icmp_le hx hb hdg ht (fun h => kt h H locs ls hP hD hS hl) (fun h => kf h H locs ls hP hD hS hl)
theorem n_tblOut (C : Cx p s m args meth c cc nL own ret D tys A) {dflt lo hi : Int} {offs : Array Int} {len : Nat} {x : Int32} (tgt : Nat) (hdg : decode cc pc = .ok (.tableswitch dflt lo hi offs, len)) (h : x.toInt < lo ∨ hi < x.toInt) (ht : (pc : Int) + dflt = (tgt : Int)) (kk : JN p l e R s m args below meth c Q nL D A cl sl Wd σ tgt L rest) : JN p l e R s m args below meth c Q nL D A cl sl Wd σ pc L (.int x :: rest) := by
  obtain ⟨hx, hb, hml, hown, hts, hK, hA, hr, hlocks⟩ := C
  intro H locs ls hP hD hS hl
  exact lv_tableOut hx hb hdg h ht (kk H locs ls hP hD hS hl)
theorem n_tblIn (C : Cx p s m args meth c cc nL own ret D tys A) {dflt lo hi off : Int} {offs : Array Int} {len : Nat} {x : Int32} (tgt : Nat) (hdg : decode cc pc = .ok (.tableswitch dflt lo hi offs, len)) (h1 : ¬ x.toInt < lo) (h2 : ¬ hi < x.toInt) (ho : offs[(x.toInt - lo).toNat]? = some off) (ht : (pc : Int) + off = (tgt : Int)) (kk : JN p l e R s m args below meth c Q nL D A cl sl Wd σ tgt L rest) : JN p l e R s m args below meth c Q nL D A cl sl Wd σ pc L (.int x :: rest) := by
  obtain ⟨hx, hb, hml, hown, hts, hK, hA, hr, hlocks⟩ := C
  intro H locs ls hP hD hS hl
  exact lv_tableIn hx hb hdg h1 h2 ho ht (kk H locs ls hP hD hS hl)
theorem n_v {x : Int32} (y : Int32) (h : x = y) (kk : JN p l e R s m args below meth c Q nL D A cl sl Wd σ pc L (.int y :: rest)) : JN p l e R s m args below meth c Q nL D A cl sl Wd σ pc L (.int x :: rest) := h ▸ kk
theorem n_L (ks : List Nat) (L' : List (Nat × Value)) (h : lv_pick L ks = L') (kk : JN p l e R s m args below meth c Q nL D A cl sl Wd σ pc L' rest) : JN p l e R s m args below meth c Q nL D A cl sl Wd σ pc L rest := fun H locs ls hP hD hS hl => kk H locs ls hP hD hS (lv_sub hl ks h)
theorem n_at {pc' : Nat} (h : pc = pc') (kk : JN p l e R s m args below meth c Q nL D A cl sl Wd σ pc' L rest) : JN p l e R s m args below meth c Q nL D A cl sl Wd σ pc L rest := h ▸ kk
theorem n_st {st : List Value} (h : st = rest) (kk : JN p l e R s m args below meth c Q nL D A cl sl Wd σ pc L rest) : JN p l e R s m args below meth c Q nL D A cl sl Wd σ pc L st := h ▸ kk
theorem n_s {τ : S} (h : σ = τ) (kk : JN p l e R s m args below meth c Q nL D A cl sl Wd τ pc L rest) : JN p l e R s m args below meth c Q nL D A cl sl Wd σ pc L rest := h ▸ kk
theorem n_get (C : Cx p s m args meth c cc nL own ret D tys A) {a ci index N : Nat} {fs : List Value} {v : Value} {Cn : String} {T : u_T} (q0 k : Nat) (he : (Wd σ)[q0]? = some (a, .inr (ci, fs))) (hc : vwCl[ci]? = some (Cn, T, N)) (hin : ∀ w ∈ u_ws Cn T N, w ∈ lw_g) (hk : k < N) (hlink : Cond.fieldLink own index (T k).1 (T k).2.1 (T k).2.2.1 ∈ lw_g) (hv : fs[k]? = some v) (hdg : decode cc pc = .ok (.getfield index, 3)) (kk : JN p l e R s m args below meth c Q nL D A cl sl Wd σ (pc + 3) L (v :: rest)) : JN p l e R s m args below meth c Q nL D A cl sl Wd σ pc L (.ref a :: rest) := by
  obtain ⟨hx, hb, hml, hown, hts, hK, hA, hr, hlocks⟩ := C
  intro H locs ls hP hD hS hl
  exact va_get hx hb hts hin hown hK.1 hP q0 he hc k hk (hts _ hlink) (fun _ h => h) hv hdg (kk H locs ls hP hD hS hl)
theorem n_put (C : Cx p s m args meth c cc nL own ret D tys A) {a ci index N : Nat} {fs : List Value} {v : Value} {Cn : String} {T : u_T} (q0 k : Nat) (he : (Wd σ)[q0]? = some (a, .inr (ci, fs))) (hc : vwCl[ci]? = some (Cn, T, N)) (hin : ∀ w ∈ u_ws Cn T N, w ∈ lw_g) (ty0 : Nat → FieldType) (hty : ∀ k, k < N → parseFieldDescriptor (T k).2.2.1 = some (ty0 k)) (hnm : ∀ a, a < N → ∀ b, b < N → a ≠ b → (T a).2.1 ≠ (T b).2.1) (hk : k < N) (hlink : Cond.fieldLink own index (T k).1 (T k).2.1 (T k).2.2.1 ∈ lw_g) (hfin : (T k).2.2.2 = false) {ty : FieldType} (hd : parseFieldDescriptor (T k).2.2.1 = some ty) (hn : narrow ty v = v) (hfit : fits ty v = true) (hlen : k < fs.length) (hdg : decode cc pc = .ok (.putfield index, 3)) (τ : S) (hτ : (Wd σ).set q0 (a, .inr (ci, fs.set k v)) = Wd τ) (kk : JN p l e R s m args below meth c Q nL D A cl sl Wd τ (pc + 3) L rest) : JN p l e R s m args below meth c Q nL D A cl sl Wd σ pc L (v :: .ref a :: rest) := by
  obtain ⟨hx, hb, hml, hown, hts, hK, hA, hr, hlocks⟩ := C
  intro H locs ls hP hD hS hl
  refine va_put hx hb hts hin ty0 hty hnm hown hK.1 hP hD hS q0 he hc k hk (hts _ hlink) (fun _ h => h) hfin hd hn hfit hlen hdg (fun H1 locs1 hP1 hD1 hS1 => ?_)
  rw [hτ] at hP1 hD1
  exact kk H1 locs1 ls hP1 hD1 hS1 hl
theorem n_iald (C : Cx p s m args meth c cc nL own ret D tys A) {a n : Nat} {cA : ClassId} {f : Nat → Int32} {i : Int32} (q0 t0 : Nat) (ha : (Wd σ)[q0]? = some (a, .inl (cA, n, .inl f))) (ht : tys[t0]? = some (cA, .int)) (hin : vp_in i n) (hdg : decode cc pc = .ok (.iaload, 1)) (kk : JN p l e R s m args below meth c Q nL D A cl sl Wd σ (pc + 1) L (.int (f i.toNatClampNeg) :: rest)) : JN p l e R s m args below meth c Q nL D A cl sl Wd σ pc L (.int i :: .ref a :: rest) := by
  obtain ⟨hx, hb, hml, hown, hts, hK, hA, hr, hlocks⟩ := C
  intro H locs ls hP hD hS hl
  exact va_iald hx hb hK.1 hP q0 t0 ha ht hin hdg (kk H locs ls hP hD hS hl)
theorem n_iast (C : Cx p s m args meth c cc nL own ret D tys A) {a n : Nat} {cA : ClassId} {f : Nat → Int32} {i x : Int32} (q0 t0 : Nat) (ha : (Wd σ)[q0]? = some (a, .inl (cA, n, .inl f))) (ht : tys[t0]? = some (cA, .int)) (hin : vp_in i n) (hdg : decode cc pc = .ok (.iastore, 1)) (τ : S) (hτ : (Wd σ).set q0 (a, .inl (cA, n, .inl (upd f i.toNatClampNeg x))) = Wd τ) (kk : JN p l e R s m args below meth c Q nL D A cl sl Wd τ (pc + 1) L rest) : JN p l e R s m args below meth c Q nL D A cl sl Wd σ pc L (.int x :: .int i :: .ref a :: rest) := by
  obtain ⟨hx, hb, hml, hown, hts, hK, hA, hr, hlocks⟩ := C
  intro H locs ls hP hD hS hl
  refine va_iast hx hb hK.1 hP hD hS q0 t0 ha ht hin hdg (fun H1 locs1 hP1 hD1 hS1 => ?_)
  rw [hτ] at hP1 hD1
  exact kk H1 locs1 ls hP1 hD1 hS1 hl
theorem n_iaddN (C : Cx p s m args meth c cc nL own ret D tys A) {a b : Nat} (hdg : decode cc pc = .ok (.iadd, 1)) (kk : JN p l e R s m args below meth c Q nL D A cl sl Wd σ (pc + 1) L (.int (nI (a + b)) :: rest)) : JN p l e R s m args below meth c Q nL D A cl sl Wd σ pc L (.int (nI b) :: .int (nI a) :: rest) := by
  refine n_iadd C hdg ?_
  rw [nI_add]
  exact kk
theorem n_isubN (C : Cx p s m args meth c cc nL own ret D tys A) {a b : Nat} (h : b ≤ a) (hdg : decode cc pc = .ok (.isub, 1)) (kk : JN p l e R s m args below meth c Q nL D A cl sl Wd σ (pc + 1) L (.int (nI (a - b)) :: rest)) : JN p l e R s m args below meth c Q nL D A cl sl Wd σ pc L (.int (nI b) :: .int (nI a) :: rest) := by
  refine n_isub C hdg ?_
  rw [pk_sub h]
  exact kk
theorem n_loop {X : Type} (I : X → Prop) (μ : X → Nat) (σf : X → S) (Lf : X → List (Nat × Value)) (x0 : X) (h0 : I x0) (hσ : σ = σf x0) (hL : L = Lf x0) (step : ∀ x, I x → (∀ x', I x' → μ x' < μ x → JN p l e R s m args below meth c Q nL D A cl sl Wd (σf x') pc (Lf x') []) → JN p l e R s m args below meth c Q nL D A cl sl Wd (σf x) pc (Lf x) []) : JN p l e R s m args below meth c Q nL D A cl sl Wd σ pc L [] := by
  subst hσ
  subst hL
  have key : ∀ (n : Nat) (x : X), I x → μ x < n → JN p l e R s m args below meth c Q nL D A cl sl Wd (σf x) pc (Lf x) [] := by
    intro n
    induction n with
    | zero => intro x _ h; exact absurd h (Nat.not_lt_zero _)
    | succ n ih => intro x hI hn; exact step x hI (fun x' hI' hlt => ih x' hI' (by omega))
  exact key (μ x0 + 1) x0 h0 (Nat.lt_succ_self _)
theorem n_iastN (C : Cx p s m args meth c cc nL own ret D tys A) {a n : Nat} {cA : ClassId} {f : Nat → Int32} {i x : Int32} (q0 t0 : Nat) (ha : (Wd σ)[q0]? = some (a, .inl (cA, n, .inl f))) (ht : tys[t0]? = some (cA, .int)) (j : Nat) (hi : i = nI j) (hj : j < n) (hn : n < 2 ^ 31) (hdg : decode cc pc = .ok (.iastore, 1)) (τ : S) (hτ : (Wd σ).set q0 (a, .inl (cA, n, .inl (upd f j x))) = Wd τ) (kk : JN p l e R s m args below meth c Q nL D A cl sl Wd τ (pc + 1) L rest) : JN p l e R s m args below meth c Q nL D A cl sl Wd σ pc L (.int x :: .int i :: .ref a :: rest) := by
  subst hi
  refine n_iast C q0 t0 ha ht (vp_in_nI hj hn) hdg τ ?_ kk
  rw [nI_clamp (by omega)]
  exact hτ
theorem va_P.rot {D : va_G} {cs : List vw_C} {ws : va_W} {x : Nat × va_E} {H : Heap} (h : va_P D cs (ws ++ [x]) H) : va_P D cs (x :: ws) H := by
  intro k q hq
  cases k with
  | zero => exact h ws.length q (by rw [List.getElem?_append_right (Nat.le_refl _), Nat.sub_self]; exact hq)
  | succ k =>
    have hq2 : ws[k]? = some q := hq
    exact h k q (by rw [List.getElem?_append_left (List.getElem?_eq_some_iff.mp hq2).1]; exact hq2)
theorem va_D.rot {B : Nat → Prop} {ws : va_W} {x : Nat × va_E} (h : va_D B (ws ++ [x])) : va_D B (x :: ws) := by
  have g : ∀ (k : Nat) (q : Nat × va_E), (x :: ws)[k]? = some q → (ws ++ [x])[if k = 0 then ws.length else k - 1]? = some q := by
    intro k q hq
    cases k with
    | zero => rw [if_pos rfl, List.getElem?_append_right (Nat.le_refl _), Nat.sub_self]; exact hq
    | succ k =>
      have hq2 : ws[k]? = some q := hq
      rw [if_neg (Nat.succ_ne_zero k), Nat.succ_sub_one, List.getElem?_append_left (List.getElem?_eq_some_iff.mp hq2).1]; exact hq2
  refine ⟨fun i j p q hi hj e => ?_, fun k q hq => h.2 _ q (g k q hq)⟩
  have hl : ∀ (k : Nat) (q : Nat × va_E), (x :: ws)[k]? = some q → k ≤ ws.length := fun k q hq => by
    have := (List.getElem?_eq_some_iff.mp hq).1
    simp only [List.length_cons] at this; omega
  have h1 := h.1 _ _ p q (g i p hi) (g j q hj) e
  have h2 := hl i p hi
  have h3 := hl j q hj
  by_cases a : i = 0
  · by_cases b : j = 0
    · omega
    · rw [if_pos a, if_neg b] at h1; omega
  · by_cases b : j = 0
    · rw [if_neg a, if_pos b] at h1; omega
    · rw [if_neg a, if_neg b] at h1; omega
theorem n_new {ws : va_W} (C : Cx p s m args meth c cc nL own ret D tys A) {Cn : String} {T : u_T} {N ci index : Nat} (hin : ∀ w ∈ u_ws Cn T N, w ∈ lw_g) (ty : Nat → FieldType) (hty : ∀ k, k < N → parseFieldDescriptor (T k).2.2.1 = some (ty k)) (hcl : Cond.classLink own index Cn ∈ lw_g) (hinst : Cond.instantiable Cn N ∈ lw_g) (hini : Cond.initialized Cn ∈ lw_g) (hc : vwCl[ci]? = some (Cn, T, N)) (fs : List Value) (hfs : ∀ j, j < N → defaultValue (ty j) = vp_V fs j) (hcells : cl + 1 ≤ R.cells) (hslots : sl + N ≤ R.slots) (hdg : decode cc pc = .ok (.new index, 3)) (kk : ∀ q, JN p l e R s m args below meth c Q nL D A (cl + 1) (sl + N) (fun w : va_W => w) ((q, .inr (ci, fs)) :: ws) (pc + 3) L (.ref q :: rest)) : JN p l e R s m args below meth c Q nL D A cl sl (fun w : va_W => w) ws pc L rest := by
  obtain ⟨hx, hb, hml, hown, hts, hK, hA, hr, hlocks⟩ := C
  intro H locs ls hP hD hS hl
  exact va_new hx hb hts hin ty hty hown (hts _ hcl) (hts _ hinst) (hts _ hini) hK.1 hP hD hS hA hc hfs hcells hslots hdg (fun q H1 hP1 hD1 hS1 => kk q H1 locs ls hP1.rot hD1.rot hS1 hl)
theorem n_newa {ws : va_W} {cI : ClassId} (C : Cx p s m args meth c cc nL own ret D tys A) (ht : tys[0]? = some (cI, .int)) (harr : Cond.arrayClass .int ∈ lw_g) (N : Nat) (hN : N ≤ 1000) (hcells : cl + 1 ≤ R.cells) (hslots : sl + N ≤ R.slots) (hdg : decode cc pc = .ok (.newarray .int, 2)) (kk : ∀ q, JN p l e R s m args below meth c Q nL D A (cl + 1) (sl + N) (fun w : va_W => w) ((q, .inl (cI, N, .inl (fun _ => nI 0))) :: ws) (pc + 2) L (.ref q :: rest)) : JN p l e R s m args below meth c Q nL D A cl sl (fun w : va_W => w) ws pc L (.int (nI N) :: rest) := by
  obtain ⟨hx, hb, hml, hown, hts, hK, hA, hr, hlocks⟩ := C
  intro H locs ls hP hD hS hl
  refine va_newa (atype := .int) (ty := .int) (a0 := (N, .inl (fun _ => nI 0))) hx hb (hts _ harr) rfl hK.1 hP hD hS hA (fun cA => rfl) (nI_pos (by omega)) (nI_clamp (by omega)) (by show N * 4 ≤ _; omega) hcells hslots hdg (fun q cA H1 hK1 hP1 hD1 hS1 => ?_)
  have e1 : s.vm.findClass ("[" ++ FieldType.int.toString) = some cI := (hK.1.2 0 _ ht).2
  have e2 : s.vm.findClass ("[" ++ FieldType.int.toString) = some cA := (hK1.2 tys.length (cA, .int) (by rw [List.getElem?_append_right (Nat.le_refl _), Nat.sub_self]; rfl)).2
  have e3 : cA = cI := Option.some.inj (e2.symm.trans e1)
  subst e3
  exact kk q H1 locs ls hP1.rot hD1.rot hS1 hl
theorem n_anew {ws : va_W} {cA0 : ClassId} {Cn : String} {index : Nat} (C : Cx p s m args meth c cc nL own ret D tys A) (hclink : Cond.classLink own index Cn ∈ lw_g) (hover : va_AO Cn s) (t0 : Nat) (ht : tys[t0]? = some (cA0, .object Cn)) (N : Nat) (hN : N ≤ 1000) (hcells : cl + 1 ≤ R.cells) (hslots : sl + N ≤ R.slots) (hdg : decode cc pc = .ok (.anewarray index, 3)) (kk : ∀ q, JN p l e R s m args below meth c Q nL D A (cl + 1) (sl + N) (fun w : va_W => w) ((q, .inl (cA0, N, .inr (.inr (.inr (.inr (fun _ => none)))))) :: ws) (pc + 3) L (.ref q :: rest)) : JN p l e R s m args below meth c Q nL D A cl sl (fun w : va_W => w) ws pc L (.int (nI N) :: rest) := by
  obtain ⟨hx, hb, hml, hown, hts, hK, hA, hr, hlocks⟩ := C
  intro H locs ls hP hD hS hl
  refine va_newq hx hb hown (hts _ hclink) hover hK.1 hP hD hS hA (nI_pos (by omega)) (nI_clamp (n := N) (by omega)) (by omega) hcells hslots hdg (fun q cA H1 hK1 hP1 hD1 hS1 => ?_)
  obtain ⟨-, -, -, -, -, e1⟩ := (hK.1.2 t0 _ ht).2
  obtain ⟨-, -, -, -, -, e2⟩ := (hK1.2 tys.length (cA, .object Cn) (by rw [List.getElem?_append_right (Nat.le_refl _), Nat.sub_self]; rfl)).2
  have e3 : cA = cA0 := Option.some.inj (e2.symm.trans e1)
  subst e3
  exact kk q H1 locs ls hP1.rot hD1.rot hS1 hl
theorem n_aast (C : Cx p s m args meth c cc nL own ret D tys A) {a n v : Nat} {cA : ClassId} {E Cn : String} {T : u_T} {N ci : Nat} {vs : List Value} {f : Nat → Option Nat} (q0 qk t0 : Nat) (ha : (Wd σ)[q0]? = some (a, .inl (cA, n, .inr (.inr (.inr (.inr f)))))) (ht : tys[t0]? = some (cA, .object E)) (hv : (Wd σ)[qk]? = some (v, .inr (ci, vs))) (hc : vwCl[ci]? = some (Cn, T, N)) (hcast : Cn = E ∨ va_Nw (.castable Cn E) s) (j : Nat) (hj : j < n) (hn : n < 2 ^ 31) (hdg : decode cc pc = .ok (.aastore, 1)) (τ : S) (hτ : (Wd σ).set q0 (a, .inl (cA, n, .inr (.inr (.inr (.inr (va_up f j (some v))))))) = Wd τ) (kk : JN p l e R s m args below meth c Q nL D A cl sl Wd τ (pc + 1) L rest) : JN p l e R s m args below meth c Q nL D A cl sl Wd σ pc L (.ref v :: .int (nI j) :: .ref a :: rest) := by
  obtain ⟨hx, hb, hml, hown, hts, hK, hA, hr, hlocks⟩ := C
  intro H locs ls hP hD hS hl
  refine vb_astq (E := E) (C := Cn) hx hb hK.1 hP hD hS q0 t0 ha ht (va_recv hK.1 hP hc hv) (fun comp c0 h1 h2 => ?_) (vp_in_nI hj hn) hdg (fun H1 locs1 hP1 hD1 hS1 => ?_)
  · rcases hcast with rfl | h
    · exact vb_asgS comp c0 h1 h2
    · exact vb_asgC h comp c0 h1 h2
  · rw [nI_clamp (by omega), hτ] at hP1 hD1
    exact kk H1 locs1 ls hP1 hD1 hS1 hl
theorem n_putF (C : Cx p s m args meth c cc nL own ret D tys A) (hin2 : meth.name = "<init>") {a ci index N : Nat} {fs : List Value} {v : Value} {Cn : String} {T : u_T} (q0 k : Nat) (he : (Wd σ)[q0]? = some (a, .inr (ci, fs))) (hc : vwCl[ci]? = some (Cn, T, N)) (hin : ∀ w ∈ u_ws Cn T N, w ∈ lw_g) (ty0 : Nat → FieldType) (hty : ∀ k, k < N → parseFieldDescriptor (T k).2.2.1 = some (ty0 k)) (hnm : ∀ a, a < N → ∀ b, b < N → a ≠ b → (T a).2.1 ≠ (T b).2.1) (hk : k < N) (hlink : Cond.fieldLink own index (T k).1 (T k).2.1 (T k).2.2.1 ∈ lw_g) (hfin : (T k).2.2.2 = true) (hdecl : (T k).1 = own) {ty : FieldType} (hd : parseFieldDescriptor (T k).2.2.1 = some ty) (hn : narrow ty v = v) (hfit : fits ty v = true) (hlen : k < fs.length) (hdg : decode cc pc = .ok (.putfield index, 3)) (τ : S) (hτ : (Wd σ).set q0 (a, .inr (ci, fs.set k v)) = Wd τ) (kk : JN p l e R s m args below meth c Q nL D A cl sl Wd τ (pc + 3) L rest) : JN p l e R s m args below meth c Q nL D A cl sl Wd σ pc L (v :: .ref a :: rest) := by
  obtain ⟨hx, hb, hml, hown, hts, hK, hA, hr, hlocks⟩ := C
  intro H locs ls hP hD hS hl
  refine va_putF hx hb hts hin ty0 hty hnm hown hK.1 hP hD hS q0 he hc k hk (hts _ hlink) (fun _ h => h) hfin hin2 hdecl hd hn hfit hlen hdg (fun H1 locs1 hP1 hD1 hS1 => ?_)
  rw [hτ] at hP1 hD1
  exact kk H1 locs1 ls hP1 hD1 hS1 hl
theorem n_objI (C : Cx p s m args meth c cc nL own ret D tys A) {idx a : Nat} (hlink : Cond.methodLink own idx Lib.objectInit ∈ lw_g) (hinst : Cond.instanceMethod Lib.objectInit ∈ lw_g) (hcode : Cond.code Lib.objectInit ⟨#[0xb1]⟩ 1 none ∈ lw_g) (hst : (rest.map fun v => v.category).sum ≤ 8) (hR : 1 ≤ R.frames ∧ 20 ≤ R.locals) (hdg : decode cc pc = .ok (.invokespecial idx, 3)) (kk : JN p l e R s m args below meth c Q nL D A cl sl Wd σ (pc + 3) L rest) : JN p l e R s m args below meth c Q nL D A cl sl Wd σ pc L (.ref a :: rest) := by
  obtain ⟨hx, hb, hml, hown, hts, hK, hA, hr, hlocks⟩ := C
  intro H locs ls hP hD hS hl
  have h8 := lv_room (m := m) (pc := pc) (ls := ls) (rest := rest) hst
  exact W.objInit hx hb hown (hts _ hlink) (hts _ hinst) (hts _ hcode) (g := F0 m pc ls (.ref a :: rest)) rfl (hl.1.trans hml.symm) rfl hdg hR.1 (by have : 2 * (F0 m pc ls (.ref a :: rest)).monitorRoom + (rest.map fun v => v.category).sum ≤ 8 := h8; omega) (kk H locs ls hP hD hS hl)
theorem n_ldcS (C : Cx p s m args meth c cc nL own ret D tys A) {tx : String} {index q : Nat} (hZ : vk_R own index tx q s) (hdg : decode cc pc = .ok (.ldc index, 2)) (kk : JN p l e R s m args below meth c Q nL D A cl sl Wd σ (pc + 2) L (.ref q :: rest)) : JN p l e R s m args below meth c Q nL D A cl sl Wd σ pc L rest := by
  obtain ⟨hx, hb, hml, hown, hts, hK, hA, hr, hlocks⟩ := C
  intro H locs ls hP hD hS hl
  exact va_ldcS hx hb hown hZ hdg (kk H locs ls hP hD hS hl)
theorem n_mmax (C : Cx p s m args meth c cc nL own ret D tys A) {index : Nat} {x y : Int32} (hM : MMx own index) (hd : 1 ≤ R.frames ∧ 40 ≤ R.locals) (hst : (rest.map fun v => v.category).sum ≤ 8) (hdg : decode cc pc = .ok (.invokestatic index, 3)) (kk : JN p l e R s m args below meth c Q nL D A cl sl Wd σ (pc + 3) L (.int (if x < y then y else x) :: rest)) (hc : cl ≤ R.cells ∧ sl ≤ R.slots) : JN p l e R s m args below meth c Q nL D A cl sl Wd σ pc L (.int y :: .int x :: rest) := by
  obtain ⟨hx, hb, hml, hown, hts, ⟨hK, hN⟩, hA, hr, hlocks⟩ := C
  intro H locs ls hP hD hS hl
  obtain ⟨m1, m2, m3, m4⟩ := hM
  exact va_mmax hx hb (hml.trans hl.1.symm) hown (hts _ m1) (hts _ m2) (hts _ m3) (hts _ m4) hd.1 (by omega) hc.1 hc.2 hdg (kk H locs ls hP hD hS hl)
end JNR
/-- what the statement says of arrays and casts -/
def OUX (U : State) : Prop := va_AO "GleanedSorry$Row" U ∧ va_AO "GleanedSorry$Gleaner" U ∧ (va_Nw (.castable "GleanedSorry$Sister" "GleanedSorry$Gleaner") U ∧ va_Nw (.castable "GleanedSorry$Curate" "GleanedSorry$Gleaner") U ∧ va_Nw (.castable "GleanedSorry$Sinner" "GleanedSorry$Gleaner") U ∧ va_Nw (.castable "GleanedSorry$Lover" "GleanedSorry$Gleaner") U ∧ va_Nw (.castable "GleanedSorry$Overseer" "GleanedSorry$Gleaner") U ∧ va_Nw (.castable "GleanedSorry$Professional" "GleanedSorry$Gleaner") U)
theorem OUX.warm {s U : State} (h : OUX s) (hW : s.WarmedH U.vm) : OUX U := ⟨h.1.moved hW.alike, h.2.1.moved hW.alike, va_Nw.warmC hW h.2.2.1, va_Nw.warmC hW h.2.2.2.1, va_Nw.warmC hW h.2.2.2.2.1, va_Nw.warmC hW h.2.2.2.2.2.1, va_Nw.warmC hW h.2.2.2.2.2.2.1, va_Nw.warmC hW h.2.2.2.2.2.2.2⟩
theorem OUX.cal {u U : State} (e : u.vm = U.vm) (h : OUX u) : OUX U := by
  have a : u.vm.Alike U.vm := by rw [← e]; exact Vm.Alike.refl u.vm
  exact ⟨h.1.moved a, h.2.1.moved a, va_Nw.same rfl e h.2.2.1, va_Nw.same rfl e h.2.2.2.1, va_Nw.same rfl e h.2.2.2.2.1, va_Nw.same rfl e h.2.2.2.2.2.1, va_Nw.same rfl e h.2.2.2.2.2.2.1, va_Nw.same rfl e h.2.2.2.2.2.2.2⟩
def PreN (O : Ou) (D : va_G) (tys : List (ClassId × FieldType)) (ws : va_W) (sz : Nat) (av : List Value) : Array Value → State → Prop :=
  va_Pc av (fun U => U.heap.size = sz ∧ va_P D vwCl ws U.heap ∧ (va_K D vwCl tys U ∧ KN U) ∧ va_D (fun _ => True) ws ∧ OUT O (va_A ws sz) U U.heap ∧ OUX U)
theorem FBN {O : Ou} (D : va_G) (tys : List (ClassId × FieldType)) (ws : va_W) (sz : Nat) (av : List Value) : FrameBlind (PreN O D tys ws sz av) := fun a U g mk q => by
  obtain ⟨q0, q1, qP, ⟨qK, qN⟩, qD, qO, qX⟩ := q
  exact ⟨q0, q1, qP, ⟨va_K.moved (u := U) (U := U.calling g mk a) (Vm.Alike.refl U.vm) qK, KN.same (u := U) (U := U.calling g mk a) rfl qN⟩, qD, OUT.cal (u := U) (U := U.calling g mk a) rfl qO, OUX.cal (u := U) (U := U.calling g mk a) rfl qX⟩
/-- a constructor's contract over a world that grows at its front -/
def Cn (O : Ou) (l : Launch) (y : MethodName) (cc : ByteArray) (nL d mc ms : Nat) (D : va_G) (tys : List (ClassId × FieldType)) (av : List Value) (ws : va_W) (post : va_W → Prop) : Prop :=
  ∀ sz, Met l y (.code y cc nL none :: lw_g) (rmN d mc ms) (PreN O D tys ws sz av) (va_Qv post (Bw D tys (fun w : va_W => w) (va_A ws sz)) (va_A ws sz)) mc ms (va_A ws sz)
theorem Cn.of {O : Ou} {l : Launch} {y : MethodName} {cc : ByteArray} {nL d mc ms : Nat} {D : va_G} {tys : List (ClassId × FieldType)} {av : List Value} {ws : va_W} {post : va_W → Prop} (hy : plainName y.cls = true) (hlen : (lg_sl av).length ≤ nL)
    (body : ∀ (p : Program) (e : Env) (s : State) (m : MethodId) (below : List Frame) (meth : Method) (c : Code) (A : Nat → Prop), Cx p s m av.toArray meth c cc nL y.cls none D tys A → OUT O A s s.heap → OUX s → meth.name = y.name → JN p l e (rmN d mc ms) s m av.toArray below meth c (MQ below (va_Qv post (Bw D tys (fun w : va_W => w) A) A) av.toArray s mc ms A) nL D A 0 0 (fun w : va_W => w) ws 0 (lv_args 0 av) []) : Cn O l y cc nL d mc ms D tys av ws post := by
  intro sz
  refine Met.ofW (cc := cc) (maxL := nL) (ret := none) hy rfl ?_
  intro p e s m args below meth c s₁ B hml hv
  obtain ⟨rfl, hsz, hP, hK, hD0, hO, hX⟩ := hv
  have hts := atoms_spec (ws := .code y cc nL none :: lw_g) B.pre
  subst hsz
  have hl := lv_entry av (n := nL) hlen
  rw [lg_entry_eq]
  exact body p e s m below meth c (va_A ws s.heap.size) ⟨B.exec, B.bytes, hml, findClass_of_methodNamed B.named, fun w hw => hts w (List.mem_cons_of_mem _ hw), hK, fun q h => Or.inr h, B.returns, B.notSynchronized⟩ hO hX (name_of_methodNamed B.named B.method).1 s.heap [] _ hP hD0.self va_S.rf hl
section JNC
variable {p : Program} {l : Launch} {e : Env} {R : Room} {s : State} {m : MethodId} {args : Array Value} {below : List Frame} {meth : Method} {c : Code} {Q : State → Prop} {nL : Nat} {D : va_G} {A : Nat → Prop} {cl sl : Nat} {ws : va_W} {pc : Nat} {L : List (Nat × Value)} {rest : List Value}
variable {cc : ByteArray} {own : String} {ret : Option FieldType} {tys : List (ClassId × FieldType)} {O : Ou} {y : MethodName} {bytes : ByteArray} {maxL index n d mc ms : Nat} {As : List Value} {b : Nat} {post : va_W → Prop}
theorem n_vret (C : Cx p s m args meth c cc nL own none D tys A) (hdg : decode cc pc = .ok (.return_, 1)) (hp : post ws) : JN p l e R s m args below meth c (MQ below (va_Qv post (Bw D tys (fun w : va_W => w) A) A) args s cl sl A) nL D A cl sl (fun w : va_W => w) ws pc L [] := by
  obtain ⟨hx, hb, hml, hown, hts, hK, hA, hr, hlocks⟩ := C
  intro H locs ls hP hD hS hl
  exact W.vret hx hb hr (fun t ht hW => ⟨⟨ws, rfl, hp, by rw [ht]; exact hP, va_K.moved hW.alike hK.1, hD⟩, hS.F ht⟩) hS.2.2 hdg
theorem free_n {H : Heap} {locs : List Loc} (hD : va_D A ws) (hS : va_S A s.heap H locs) (hA : ∀ q : Nat, s.heap.size ≤ q → A q) : ∀ q, va_A ws H.size q → A q := by
  intro q h
  rcases h with ⟨k, e, h⟩ | h
  · exact hD.2 k (q, e) h
  · exact hA q (Nat.le_trans hS.1 h)
/-- a constructor of a nest mate -/
def IN (own : String) (index : Nat) (y : MethodName) (bytes : ByteArray) (maxL n : Nat) : Prop :=
  ∃ host, Cond.code y bytes maxL none ∈ lw_g ∧ Cond.methodLinkNest own index y host ∈ lw_n ∧ Cond.instanceMethod y ∈ lw_g ∧ Cond.initialized y.cls ∈ lw_g ∧ (y.cls ≠ "java/lang/invoke/MethodHandle" ∧ y.cls ≠ "java/lang/invoke/VarHandle" ∧ (parseMethodDescriptor y.desc).map (fun d => d.parameters.length) = some n) ∧ maxL ≤ 21 ∧ y.name = "<init>"
def IW (own : String) (index : Nat) (y : MethodName) (bytes : ByteArray) (maxL n : Nat) : Prop :=
  Cond.code y bytes maxL none ∈ lw_g ∧ Cond.methodLink own index y ∈ lw_g ∧ Cond.instanceMethod y ∈ lw_g ∧ Cond.initialized y.cls ∈ lw_g ∧ (y.cls ≠ "java/lang/invoke/MethodHandle" ∧ y.cls ≠ "java/lang/invoke/VarHandle" ∧ (parseMethodDescriptor y.desc).map (fun d => d.parameters.length) = some n) ∧ maxL ≤ 21 ∧ y.name = "<init>"
theorem n_callIN (C : Cx p s m args meth c cc nL own ret D tys A) (hO : OUT O A s s.heap) (hX : OUX s) (hV : IN own index y bytes maxL n) (hM : Cn O l y bytes maxL d mc ms D tys (.ref b :: As) ws post) (hn : As.length = n) (hst : (rest.map fun v => v.category).sum ≤ 8) (hdg : decode cc pc = .ok (.invokespecial index, 3)) (hd : d + 1 ≤ R.frames ∧ 8 + (maxL + 11) + 40 * d ≤ R.locals) (hc : cl + mc ≤ R.cells ∧ sl + ms ≤ R.slots)
    (kk : ∀ ws', post ws' → JN p l e R s m args below meth c Q nL D A (cl + mc) (sl + ms) (fun w : va_W => w) ws' (pc + 3) L rest) : JN p l e R s m args below meth c Q nL D A cl sl (fun w : va_W => w) ws pc L (As.reverse ++ .ref b :: rest) := by
  obtain ⟨hx, hb, hml, hown, hts, ⟨hK, hN⟩, hA, hr', hlocks⟩ := C
  obtain ⟨host, v1, v2, v3, v5, v6, v7, v8⟩ := hV
  intro H locs ls hP hD hS hl
  have hFc := free_n hD hS hA
  refine va_callv (va_runIN (As := As) (rest := rest) ⟨hx, hb, hml, hown, hts⟩ (hM H.size) ⟨va_cnB n hts (gC v1) rfl rfl rfl (hN _ v2) (hts _ v5) v6 hd, v8, hts _ v3⟩ ⟨FBN D tys ws H.size _, fun U hU hW => ⟨rfl, by rw [hU], by rw [hU]; exact hP, ⟨va_K.moved hW.alike hK, KN.warm hW hN⟩, hD.weaken (fun _ _ _ _ => trivial), by rw [hU]; exact hO.go hS hW hFc, hX.warm hW⟩⟩ rfl hn hl.1 rfl (lv_room hst) hdg hc) hS (fun q _ h => hFc q h) hFc (fun u t H1 locs1 ht hvm hw hB hz1 hk1 hS => ?_)
  obtain ⟨hP1, -, hD1⟩ := hB
  rw [ht] at hP1
  exact kk u hw H1 locs1 ls hP1 (hD1.weaken (fun _ q _ h => hFc q.1 h)) hS hl
theorem n_callI (C : Cx p s m args meth c cc nL own ret D tys A) (hO : OUT O A s s.heap) (hX : OUX s) (hV : IW own index y bytes maxL n) (hM : Cn O l y bytes maxL d mc ms D tys (.ref b :: As) ws post) (hn : As.length = n) (hst : (rest.map fun v => v.category).sum ≤ 8) (hdg : decode cc pc = .ok (.invokespecial index, 3)) (hd : d + 1 ≤ R.frames ∧ 8 + (maxL + 11) + 40 * d ≤ R.locals) (hc : cl + mc ≤ R.cells ∧ sl + ms ≤ R.slots)
    (kk : ∀ ws', post ws' → JN p l e R s m args below meth c Q nL D A (cl + mc) (sl + ms) (fun w : va_W => w) ws' (pc + 3) L rest) : JN p l e R s m args below meth c Q nL D A cl sl (fun w : va_W => w) ws pc L (As.reverse ++ .ref b :: rest) := by
  obtain ⟨hx, hb, hml, hown, hts, ⟨hK, hN⟩, hA, hr', hlocks⟩ := C
  obtain ⟨v1, v2, v3, v5, v6, v7, v8⟩ := hV
  intro H locs ls hP hD hS hl
  have hFc := free_n hD hS hA
  refine va_callv (va_runI (As := As) (rest := rest) ⟨hx, hb, hml, hown, hts⟩ (hM H.size) ⟨callB_of n hts (gC v1) rfl rfl rfl (hts _ v5) (hts _ v2) v6 hd, v8, hts _ v3⟩ ⟨FBN D tys ws H.size _, fun U hU hW => ⟨rfl, by rw [hU], by rw [hU]; exact hP, ⟨va_K.moved hW.alike hK, KN.warm hW hN⟩, hD.weaken (fun _ _ _ _ => trivial), by rw [hU]; exact hO.go hS hW hFc, hX.warm hW⟩⟩ rfl hn hl.1 rfl (lv_room hst) hdg hc) hS (fun q _ h => hFc q h) hFc (fun u t H1 locs1 ht hvm hw hB hz1 hk1 hS => ?_)
  obtain ⟨hP1, -, hD1⟩ := hB
  rw [ht] at hP1
  exact kk u hw H1 locs1 ls hP1 (hD1.weaken (fun _ q _ h => hFc q.1 h)) hS hl
/-- a method of an object of the world that makes nothing -/
theorem n_callVv {d' : Nat} (C : Cx p s m args meth c cc nL own ret D tys A) {ret' : Option FieldType} {pst : va_W → Prop} (hV : VW own index y bytes maxL ret' n) (hM : Cv l y bytes maxL ret' d' D tys (fun w : va_W => w) (.ref b :: As) ws pst) (hr : Rcv ws (fun w : va_W => w) b y.cls) (hn : As.length = n) (hst : (rest.map fun v => v.category).sum ≤ 8) (hdg : decode cc pc = .ok (.invokevirtual index, 3)) (hd : d' + 1 ≤ R.frames ∧ 8 + (maxL + 11) + 40 * d' ≤ R.locals) (hc : cl ≤ R.cells ∧ sl ≤ R.slots)
    (kk : ∀ ws', pst ws' → JN p l e R s m args below meth c Q nL D A cl sl (fun w : va_W => w) ws' (pc + 3) L rest) : JN p l e R s m args below meth c Q nL D A cl sl (fun w : va_W => w) ws pc L (As.reverse ++ .ref b :: rest) := by
  obtain ⟨hx, hb, hml, hown, hts, ⟨hK, hN⟩, hA, hr', hlocks⟩ := C
  obtain ⟨v1, v2, v3, v4, v5, v6, v7⟩ := hV
  obtain ⟨q0, ci, fs, r, r1, r2, r3⟩ := hr
  intro H locs ls hP hD hS hl
  have hFc := free_n hD hS hA
  refine va_callv (va_runV (As := As) (rest := rest) (C := y.cls) ⟨hx, hb, hml, hown, hts⟩ (hM H.size) ⟨callB_of n hts (gC v1) rfl rfl rfl (hts _ v5) (hts _ v2) v6 hd, hts _ v3, hts _ v4⟩ ⟨FB D tys ws H.size _, by rw [← r3]; exact va_recv hK hP r2 r1, fun U hU hW => ⟨rfl, by rw [hU], by rw [hU]; exact hP, ⟨va_K.moved hW.alike hK, KN.warm hW hN⟩, hD.weaken (fun _ _ _ _ => trivial)⟩⟩ rfl hn hl.1 rfl (lv_room hst) hdg hc) hS (fun q _ h => hFc q h) hFc (fun u t H1 locs1 ht hvm hw hB hz1 hk1 hS => ?_)
  obtain ⟨hP1, -, hD1⟩ := hB
  rw [ht] at hP1
  exact kk u hw H1 locs1 ls hP1 (hD1.weaken (fun _ q _ h => hFc q.1 h)) hS hl
end JNC

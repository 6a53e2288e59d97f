/-! Rows of JJ for the plain instructions. -/
section JR
variable {p : Program} {l : Launch} {e : Env} {R : Room} {s : State} {m : MethodId} {args : Array Value} {below : List Frame} {meth : Method} {c : Code} {Q : State → Prop} {nL : Nat} {D : va_G} {A : Nat → Prop} {S : Type} {Wd : S → va_W} {σ : S} {pc : Nat} {L L' : List (Nat × Value)} {rest : List Value}
variable {cc : ByteArray} {own : String} {ret : Option FieldType} {tys : List (ClassId × FieldType)}
theorem j_iconst (C : Cx p s m args meth c cc nL own ret D tys A) {n : Int} {v : Int32} (hdg : decode cc pc = .ok (.iconst n, 1)) (hv : Int32.ofInt n = v) (kk : JJ p l e R s m args below meth c Q nL D A Wd σ (pc + 1) L (.int v :: rest)) : JJ p l e R s m args below meth c Q nL D A Wd σ pc L (rest) := by
  obtain ⟨hx, hb, hml, hown, hts, hK, hA, hr, hlocks⟩ := C
  intro H locs ls hP hD hS hl
  exact lv_iconst hx hb hdg hv (kk H locs ls hP hD hS hl)
theorem j_bipush (C : Cx p s m args meth c cc nL own ret D tys A) {n : Int} {v : Int32} (hdg : decode cc pc = .ok (.bipush n, 2)) (hv : (Int8.ofInt n).toInt32 = v) (kk : JJ p l e R s m args below meth c Q nL D A Wd σ (pc + 2) L (.int v :: rest)) : JJ p l e R s m args below meth c Q nL D A Wd σ pc L (rest) := by
  obtain ⟨hx, hb, hml, hown, hts, hK, hA, hr, hlocks⟩ := C
  intro H locs ls hP hD hS hl
  exact lv_bipush hx hb hdg hv (kk H locs ls hP hD hS hl)
theorem j_sipush (C : Cx p s m args meth c cc nL own ret D tys A) {n : Int} {v : Int32} (hdg : decode cc pc = .ok (.sipush n, 3)) (hv : (Int16.ofInt n).toInt32 = v) (kk : JJ p l e R s m args below meth c Q nL D A Wd σ (pc + 3) L (.int v :: rest)) : JJ p l e R s m args below meth c Q nL D A Wd σ pc L (rest) := by
  obtain ⟨hx, hb, hml, hown, hts, hK, hA, hr, hlocks⟩ := C
  intro H locs ls hP hD hS hl
  exact lv_sipush hx hb hdg hv (kk H locs ls hP hD hS hl)
theorem j_ldc (C : Cx p s m args meth c cc nL own ret D tys A) {index : Nat} (v : Int32) (hdg : decode cc pc = .ok (.ldc index, 2)) (hc : Cond.constant own index v ∈ lw_g) (kk : JJ p l e R s m args below meth c Q nL D A Wd σ (pc + 2) L (.int v :: rest)) : JJ p l e R s m args below meth c Q nL D A Wd σ pc L (rest) := by
  obtain ⟨hx, hb, hml, hown, hts, hK, hA, hr, hlocks⟩ := C
  intro H locs ls hP hD hS hl
  exact lv_ldc hx hb hown (hts _ hc) hdg (kk H locs ls hP hD hS hl)
theorem j_iload_n (C : Cx p s m args meth c cc nL own ret D tys A) {k : Fin 4} {x : Int32} (j : Nat) (hdg : decode cc pc = .ok (.iload_n k, 1)) (hj : L[j]? = some ((k : Nat), .int x)) (kk : JJ p l e R s m args below meth c Q nL D A Wd σ (pc + 1) L (.int x :: rest)) : JJ p l e R s m args below meth c Q nL D A Wd σ pc L (rest) := by
  obtain ⟨hx, hb, hml, hown, hts, hK, hA, hr, hlocks⟩ := C
  intro H locs ls hP hD hS hl
  exact lv_iload_n hx hb hdg rfl (lv_at hl j hj) (kk H locs ls hP hD hS hl)
theorem j_aload_n (C : Cx p s m args meth c cc nL own ret D tys A) {k : Fin 4} {x : Nat} (j : Nat) (hdg : decode cc pc = .ok (.aload_n k, 1)) (hj : L[j]? = some ((k : Nat), .ref x)) (kk : JJ p l e R s m args below meth c Q nL D A Wd σ (pc + 1) L (.ref x :: rest)) : JJ p l e R s m args below meth c Q nL D A Wd σ pc L (rest) := by
  obtain ⟨hx, hb, hml, hown, hts, hK, hA, hr, hlocks⟩ := C
  intro H locs ls hP hD hS hl
  exact lv_aload_n hx hb hdg rfl (lv_at hl j hj) (kk H locs ls hP hD hS hl)
theorem j_lload_n (C : Cx p s m args meth c cc nL own ret D tys A) {k : Fin 4} {x : Int64} (j : Nat) (hdg : decode cc pc = .ok (.lload_n k, 1)) (hj : L[j]? = some ((k : Nat), .long x)) (kk : JJ p l e R s m args below meth c Q nL D A Wd σ (pc + 1) L (.long x :: rest)) : JJ p l e R s m args below meth c Q nL D A Wd σ pc L (rest) := by
  obtain ⟨hx, hb, hml, hown, hts, hK, hA, hr, hlocks⟩ := C
  intro H locs ls hP hD hS hl
  exact lv_lload_n hx hb hdg rfl (lv_at hl j hj) (kk H locs ls hP hD hS hl)
theorem j_iload (C : Cx p s m args meth c cc nL own ret D tys A) {i : Nat} {x : Int32} (j : Nat) (hdg : decode cc pc = .ok (.iload i, 2)) (hj : L[j]? = some (i, .int x)) (kk : JJ p l e R s m args below meth c Q nL D A Wd σ (pc + 2) L (.int x :: rest)) : JJ p l e R s m args below meth c Q nL D A Wd σ pc L (rest) := by
  obtain ⟨hx, hb, hml, hown, hts, hK, hA, hr, hlocks⟩ := C
  intro H locs ls hP hD hS hl
  exact lv_iload hx hb hdg (lv_at hl j hj) (kk H locs ls hP hD hS hl)
theorem j_aload (C : Cx p s m args meth c cc nL own ret D tys A) {i : Nat} {x : Nat} (j : Nat) (hdg : decode cc pc = .ok (.aload i, 2)) (hj : L[j]? = some (i, .ref x)) (kk : JJ p l e R s m args below meth c Q nL D A Wd σ (pc + 2) L (.ref x :: rest)) : JJ p l e R s m args below meth c Q nL D A Wd σ pc L (rest) := by
  obtain ⟨hx, hb, hml, hown, hts, hK, hA, hr, hlocks⟩ := C
  intro H locs ls hP hD hS hl
  exact lv_aload hx hb hdg (lv_at hl j hj) (kk H locs ls hP hD hS hl)
theorem j_istore_n (C : Cx p s m args meth c cc nL own ret D tys A) {k : Fin 4} {x : Int32} (L' : List (Nat × Value)) (hdg : decode cc pc = .ok (.istore_n k, 1)) (hn : (k : Nat) < nL) (hl' : ((k : Nat), Value.int x) :: L.filter (fun q => !(q.1 == (k : Nat)) && !(q.1 + 1 == (k : Nat) && q.2.category == 2)) = L') (kk : JJ p l e R s m args below meth c Q nL D A Wd σ (pc + 1) L' rest) : JJ p l e R s m args below meth c Q nL D A Wd σ pc L (.int x :: rest) := by
  obtain ⟨hx, hb, hml, hown, hts, hK, hA, hr, hlocks⟩ := C
  intro H locs ls hP hD hS hl
  exact lv_istore_n hx hb hdg rfl hl hn hl' (fun ls' hl2 => kk H locs ls' hP hD hS hl2)
theorem j_istore (C : Cx p s m args meth c cc nL own ret D tys A) {i : Nat} {x : Int32} (L' : List (Nat × Value)) (hdg : decode cc pc = .ok (.istore i, 2)) (hn : i < nL) (hl' : (i, Value.int x) :: L.filter (fun q => !(q.1 == i) && !(q.1 + 1 == i && q.2.category == 2)) = L') (kk : JJ p l e R s m args below meth c Q nL D A Wd σ (pc + 2) L' rest) : JJ p l e R s m args below meth c Q nL D A Wd σ pc L (.int x :: rest) := by
  obtain ⟨hx, hb, hml, hown, hts, hK, hA, hr, hlocks⟩ := C
  intro H locs ls hP hD hS hl
  exact lv_istore hx hb hdg hl hn hl' (fun ls' hl2 => kk H locs ls' hP hD hS hl2)
theorem j_astore_n (C : Cx p s m args meth c cc nL own ret D tys A) {k : Fin 4} {x : Nat} (L' : List (Nat × Value)) (hdg : decode cc pc = .ok (.astore_n k, 1)) (hn : (k : Nat) < nL) (hl' : ((k : Nat), Value.ref x) :: L.filter (fun q => !(q.1 == (k : Nat)) && !(q.1 + 1 == (k : Nat) && q.2.category == 2)) = L') (kk : JJ p l e R s m args below meth c Q nL D A Wd σ (pc + 1) L' rest) : JJ p l e R s m args below meth c Q nL D A Wd σ pc L (.ref x :: rest) := by
  obtain ⟨hx, hb, hml, hown, hts, hK, hA, hr, hlocks⟩ := C
  intro H locs ls hP hD hS hl
  exact lv_astore_n hx hb hdg rfl hl hn hl' (fun ls' hl2 => kk H locs ls' hP hD hS hl2)
theorem j_astore (C : Cx p s m args meth c cc nL own ret D tys A) {i : Nat} {x : Nat} (L' : List (Nat × Value)) (hdg : decode cc pc = .ok (.astore i, 2)) (hn : i < nL) (hl' : (i, Value.ref x) :: L.filter (fun q => !(q.1 == i) && !(q.1 + 1 == i && q.2.category == 2)) = L') (kk : JJ p l e R s m args below meth c Q nL D A Wd σ (pc + 2) L' rest) : JJ p l e R s m args below meth c Q nL D A Wd σ pc L (.ref x :: rest) := by
  obtain ⟨hx, hb, hml, hown, hts, hK, hA, hr, hlocks⟩ := C
  intro H locs ls hP hD hS hl
  exact lv_astore hx hb hdg hl hn hl' (fun ls' hl2 => kk H locs ls' hP hD hS hl2)
theorem j_iinc (C : Cx p s m args meth c cc nL own ret D tys A) {i : Nat} {n : Int} {x v : Int32} (j : Nat) (L' : List (Nat × Value)) (hdg : decode cc pc = .ok (.iinc i n, 3)) (hj : L[j]? = some (i, .int x)) (hv : x + Int32.ofInt n = v) (hn : i < nL) (hl' : (i, Value.int v) :: L.filter (fun q => !(q.1 == i) && !(q.1 + 1 == i && q.2.category == 2)) = L') (kk : JJ p l e R s m args below meth c Q nL D A Wd σ (pc + 3) L' rest) : JJ p l e R s m args below meth c Q nL D A Wd σ pc L rest := by
  obtain ⟨hx, hb, hml, hown, hts, hK, hA, hr, hlocks⟩ := C
  intro H locs ls hP hD hS hl
  exact lv_iinc hx hb hdg hl hj hv hn hl' (fun ls' hl2 => kk H locs ls' hP hD hS hl2)
theorem j_iadd (C : Cx p s m args meth c cc nL own ret D tys A) {x y : Int32} (hdg : decode cc pc = .ok (.iadd, 1)) (kk : JJ p l e R s m args below meth c Q nL D A Wd σ (pc + 1) L (.int (x + y) :: rest)) : JJ p l e R s m args below meth c Q nL D A Wd σ pc L (.int y :: .int x :: rest) := by
  obtain ⟨hx, hb, hml, hown, hts, hK, hA, hr, hlocks⟩ := C
  intro H locs ls hP hD hS hl
  exact lv_iadd hx hb hdg (kk H locs ls hP hD hS hl)
theorem j_isub (C : Cx p s m args meth c cc nL own ret D tys A) {x y : Int32} (hdg : decode cc pc = .ok (.isub, 1)) (kk : JJ p l e R s m args below meth c Q nL D A Wd σ (pc + 1) L (.int (x - y) :: rest)) : JJ p l e R s m args below meth c Q nL D A Wd σ pc L (.int y :: .int x :: rest) := by
  obtain ⟨hx, hb, hml, hown, hts, hK, hA, hr, hlocks⟩ := C
  intro H locs ls hP hD hS hl
  exact lv_isub hx hb hdg (kk H locs ls hP hD hS hl)
theorem j_imul (C : Cx p s m args meth c cc nL own ret D tys A) {x y : Int32} (hdg : decode cc pc = .ok (.imul, 1)) (kk : JJ p l e R s m args below meth c Q nL D A Wd σ (pc + 1) L (.int (x * y) :: rest)) : JJ p l e R s m args below meth c Q nL D A Wd σ pc L (.int y :: .int x :: rest) := by
  obtain ⟨hx, hb, hml, hown, hts, hK, hA, hr, hlocks⟩ := C
  intro H locs ls hP hD hS hl
  exact lv_imul hx hb hdg (kk H locs ls hP hD hS hl)
theorem j_iand (C : Cx p s m args meth c cc nL own ret D tys A) {x y : Int32} (hdg : decode cc pc = .ok (.iand, 1)) (kk : JJ p l e R s m args below meth c Q nL D A Wd σ (pc + 1) L (.int (x &&& y) :: rest)) : JJ p l e R s m args below meth c Q nL D A Wd σ pc L (.int y :: .int x :: rest) := by
  obtain ⟨hx, hb, hml, hown, hts, hK, hA, hr, hlocks⟩ := C
  intro H locs ls hP hD hS hl
  exact lv_iand hx hb hdg (kk H locs ls hP hD hS hl)
theorem j_ior (C : Cx p s m args meth c cc nL own ret D tys A) {x y : Int32} (hdg : decode cc pc = .ok (.ior, 1)) (kk : JJ p l e R s m args below meth c Q nL D A Wd σ (pc + 1) L (.int (x ||| y) :: rest)) : JJ p l e R s m args below meth c Q nL D A Wd σ pc L (.int y :: .int x :: rest) := by
  obtain ⟨hx, hb, hml, hown, hts, hK, hA, hr, hlocks⟩ := C
  intro H locs ls hP hD hS hl
  exact lv_ior hx hb hdg (kk H locs ls hP hD hS hl)
theorem j_ixor (C : Cx p s m args meth c cc nL own ret D tys A) {x y : Int32} (hdg : decode cc pc = .ok (.ixor, 1)) (kk : JJ p l e R s m args below meth c Q nL D A Wd σ (pc + 1) L (.int (x ^^^ y) :: rest)) : JJ p l e R s m args below meth c Q nL D A Wd σ pc L (.int y :: .int x :: rest) := by
  obtain ⟨hx, hb, hml, hown, hts, hK, hA, hr, hlocks⟩ := C
  intro H locs ls hP hD hS hl
  exact lv_ixor hx hb hdg (kk H locs ls hP hD hS hl)
theorem j_ishl (C : Cx p s m args meth c cc nL own ret D tys A) {x y : Int32} (hdg : decode cc pc = .ok (.ishl, 1)) (kk : JJ p l e R s m args below meth c Q nL D A Wd σ (pc + 1) L (.int (x <<< (y &&& 31)) :: rest)) : JJ p l e R s m args below meth c Q nL D A Wd σ pc L (.int y :: .int x :: rest) := by
  obtain ⟨hx, hb, hml, hown, hts, hK, hA, hr, hlocks⟩ := C
  intro H locs ls hP hD hS hl
  exact lv_ishl hx hb hdg (kk H locs ls hP hD hS hl)
theorem j_ishr (C : Cx p s m args meth c cc nL own ret D tys A) {x y : Int32} (hdg : decode cc pc = .ok (.ishr, 1)) (kk : JJ p l e R s m args below meth c Q nL D A Wd σ (pc + 1) L (.int (x >>> (y &&& 31)) :: rest)) : JJ p l e R s m args below meth c Q nL D A Wd σ pc L (.int y :: .int x :: rest) := by
  obtain ⟨hx, hb, hml, hown, hts, hK, hA, hr, hlocks⟩ := C
  intro H locs ls hP hD hS hl
  exact lv_ishr hx hb hdg (kk H locs ls hP hD hS hl)
theorem j_idiv (C : Cx p s m args meth c cc nL own ret D tys A) {x y : Int32} (hdg : decode cc pc = .ok (.idiv, 1)) (hne : ¬ y = 0) (kk : JJ p l e R s m args below meth c Q nL D A Wd σ (pc + 1) L (.int (x / y) :: rest)) : JJ p l e R s m args below meth c Q nL D A Wd σ pc L (.int y :: .int x :: rest) := by
  obtain ⟨hx, hb, hml, hown, hts, hK, hA, hr, hlocks⟩ := C
  intro H locs ls hP hD hS hl
  exact lv_idiv hx hb hdg hne (kk H locs ls hP hD hS hl)
theorem j_irem (C : Cx p s m args meth c cc nL own ret D tys A) {x y : Int32} (hdg : decode cc pc = .ok (.irem, 1)) (hne : ¬ y = 0) (kk : JJ p l e R s m args below meth c Q nL D A Wd σ (pc + 1) L (.int (x - x / y * y) :: rest)) : JJ p l e R s m args below meth c Q nL D A Wd σ pc L (.int y :: .int x :: rest) := by
  obtain ⟨hx, hb, hml, hown, hts, hK, hA, hr, hlocks⟩ := C
  intro H locs ls hP hD hS hl
  exact lv_irem hx hb hdg hne (kk H locs ls hP hD hS hl)
theorem j_ineg (C : Cx p s m args meth c cc nL own ret D tys A) {x : Int32} (hdg : decode cc pc = .ok (.ineg, 1)) (kk : JJ p l e R s m args below meth c Q nL D A Wd σ (pc + 1) L (.int (-x) :: rest)) : JJ p l e R s m args below meth c Q nL D A Wd σ pc L (.int x :: rest) := by
  obtain ⟨hx, hb, hml, hown, hts, hK, hA, hr, hlocks⟩ := C
  intro H locs ls hP hD hS hl
  exact lv_ineg hx hb hdg (kk H locs ls hP hD hS hl)
theorem j_iushr (C : Cx p s m args meth c cc nL own ret D tys A) {x y : Int32} (hdg : decode cc pc = .ok (.iushr, 1)) (kk : JJ p l e R s m args below meth c Q nL D A Wd σ (pc + 1) L (.int (x.toUInt32 >>> (y.toUInt32 &&& Int32.toUInt32 31)).toInt32 :: rest)) : JJ p l e R s m args below meth c Q nL D A Wd σ pc L (.int y :: .int x :: rest) := by
  obtain ⟨hx, hb, hml, hown, hts, hK, hA, hr, hlocks⟩ := C
  intro H locs ls hP hD hS hl
  exact lv_iushr hx hb hdg rfl (kk H locs ls hP hD hS hl)
theorem j_i2b (C : Cx p s m args meth c cc nL own ret D tys A) {x : Int32} (hdg : decode cc pc = .ok (.i2b, 1)) (kk : JJ p l e R s m args below meth c Q nL D A Wd σ (pc + 1) L (.int x.toInt8.toInt32 :: rest)) : JJ p l e R s m args below meth c Q nL D A Wd σ pc L (.int x :: rest) := by
  obtain ⟨hx, hb, hml, hown, hts, hK, hA, hr, hlocks⟩ := C
  intro H locs ls hP hD hS hl
  exact lv_i2b hx hb hdg rfl (kk H locs ls hP hD hS hl)
theorem j_i2s (C : Cx p s m args meth c cc nL own ret D tys A) {x : Int32} (hdg : decode cc pc = .ok (.i2s, 1)) (kk : JJ p l e R s m args below meth c Q nL D A Wd σ (pc + 1) L (.int x.toInt16.toInt32 :: rest)) : JJ p l e R s m args below meth c Q nL D A Wd σ pc L (.int x :: rest) := by
  obtain ⟨hx, hb, hml, hown, hts, hK, hA, hr, hlocks⟩ := C
  intro H locs ls hP hD hS hl
  exact lv_i2s hx hb hdg rfl (kk H locs ls hP hD hS hl)
theorem j_i2l (C : Cx p s m args meth c cc nL own ret D tys A) {x : Int32} (hdg : decode cc pc = .ok (.i2l, 1)) (kk : JJ p l e R s m args below meth c Q nL D A Wd σ (pc + 1) L (.long x.toInt64 :: rest)) : JJ p l e R s m args below meth c Q nL D A Wd σ pc L (.int x :: rest) := by
  obtain ⟨hx, hb, hml, hown, hts, hK, hA, hr, hlocks⟩ := C
  intro H locs ls hP hD hS hl
  exact lv_i2l hx hb hdg rfl (kk H locs ls hP hD hS hl)
theorem j_l2i (C : Cx p s m args meth c cc nL own ret D tys A) {x : Int64} (hdg : decode cc pc = .ok (.l2i, 1)) (kk : JJ p l e R s m args below meth c Q nL D A Wd σ (pc + 1) L (.int x.toInt32 :: rest)) : JJ p l e R s m args below meth c Q nL D A Wd σ pc L (.long x :: rest) := by
  obtain ⟨hx, hb, hml, hown, hts, hK, hA, hr, hlocks⟩ := C
  intro H locs ls hP hD hS hl
  exact lv_l2i hx hb hdg rfl (kk H locs ls hP hD hS hl)
theorem j_lshr (C : Cx p s m args meth c cc nL own ret D tys A) {x : Int64} {y : Int32} (hdg : decode cc pc = .ok (.lshr, 1)) (kk : JJ p l e R s m args below meth c Q nL D A Wd σ (pc + 1) L (.long (x >>> (y.toInt64 &&& 63)) :: rest)) : JJ p l e R s m args below meth c Q nL D A Wd σ pc L (.int y :: .long x :: rest) := by
  obtain ⟨hx, hb, hml, hown, hts, hK, hA, hr, hlocks⟩ := C
  intro H locs ls hP hD hS hl
  exact lv_lshr hx hb hdg rfl (kk H locs ls hP hD hS hl)
theorem j_land (C : Cx p s m args meth c cc nL own ret D tys A) {x y : Int64} (hdg : decode cc pc = .ok (.land, 1)) (kk : JJ p l e R s m args below meth c Q nL D A Wd σ (pc + 1) L (.long (x &&& y) :: rest)) : JJ p l e R s m args below meth c Q nL D A Wd σ pc L (.long y :: .long x :: rest) := by
  obtain ⟨hx, hb, hml, hown, hts, hK, hA, hr, hlocks⟩ := C
  intro H locs ls hP hD hS hl
  exact lv_land hx hb hdg (kk H locs ls hP hD hS hl)
theorem j_lor (C : Cx p s m args meth c cc nL own ret D tys A) {x y : Int64} (hdg : decode cc pc = .ok (.lor, 1)) (kk : JJ p l e R s m args below meth c Q nL D A Wd σ (pc + 1) L (.long (x ||| y) :: rest)) : JJ p l e R s m args below meth c Q nL D A Wd σ pc L (.long y :: .long x :: rest) := by
  obtain ⟨hx, hb, hml, hown, hts, hK, hA, hr, hlocks⟩ := C
  intro H locs ls hP hD hS hl
  exact lv_lor hx hb hdg (kk H locs ls hP hD hS hl)
theorem j_dup (C : Cx p s m args meth c cc nL own ret D tys A) {va : Value} (hdg : decode cc pc = .ok (.dup, 1)) (h1 : va.category = 1) (kk : JJ p l e R s m args below meth c Q nL D A Wd σ (pc + 1) L (va :: va :: rest)) : JJ p l e R s m args below meth c Q nL D A Wd σ pc L (va :: rest) := by
  obtain ⟨hx, hb, hml, hown, hts, hK, hA, hr, hlocks⟩ := C
  intro H locs ls hP hD hS hl
  exact lv_dup hx hb hdg h1 (kk H locs ls hP hD hS hl)
theorem j_pop (C : Cx p s m args meth c cc nL own ret D tys A) {va : Value} (hdg : decode cc pc = .ok (.pop, 1)) (h1 : va.category = 1) (kk : JJ p l e R s m args below meth c Q nL D A Wd σ (pc + 1) L (rest)) : JJ p l e R s m args below meth c Q nL D A Wd σ pc L (va :: rest) := by
  obtain ⟨hx, hb, hml, hown, hts, hK, hA, hr, hlocks⟩ := C
  intro H locs ls hP hD hS hl
  exact lv_pop hx hb hdg h1 (kk H locs ls hP hD hS hl)
theorem j_dup2 (C : Cx p s m args meth c cc nL own ret D tys A) {va vb : Value} (hdg : decode cc pc = .ok (.dup2, 1)) (h1 : va.category = 1) (h2 : vb.category = 1) (kk : JJ p l e R s m args below meth c Q nL D A Wd σ (pc + 1) L (va :: vb :: va :: vb :: rest)) : JJ p l e R s m args below meth c Q nL D A Wd σ pc L (va :: vb :: rest) := by
  obtain ⟨hx, hb, hml, hown, hts, hK, hA, hr, hlocks⟩ := C
  intro H locs ls hP hD hS hl
  exact lv_dup2_11 hx hb hdg h1 h2 (kk H locs ls hP hD hS hl)
theorem j_goto (C : Cx p s m args meth c cc nL own ret D tys A) {off : Int} (tgt : Nat) (hdg : decode cc pc = .ok (.goto off, 3)) (ht : (pc : Int) + off = (tgt : Int)) (kk : JJ p l e R s m args below meth c Q nL D A Wd σ tgt L rest) : JJ p l e R s m args below meth c Q nL D A Wd σ pc L rest := by
  obtain ⟨hx, hb, hml, hown, hts, hK, hA, hr, hlocks⟩ := C
  intro H locs ls hP hD hS hl
  exact lv_goto hx hb hdg ht (kk H locs ls hP hD hS hl)
theorem j_if_eq (C : Cx p s m args meth c cc nL own ret D tys A) {x : Int32} {off : Int} (tgt : Nat) (hdg : decode cc pc = .ok (.ifCond .eq off, 3)) (ht : (pc : Int) + off = (tgt : Int)) (kt : x = 0 → JJ p l e R s m args below meth c Q nL D A Wd σ tgt L rest) (kf : ¬ x = 0 → JJ p l e R s m args below meth c Q nL D A Wd σ (pc + 3) L rest) : JJ p l e R s m args below meth c Q nL D A Wd σ pc L (.int x :: rest) := by
  obtain ⟨hx, hb, hml, hown, hts, hK, hA, hr, hlocks⟩ := C
  intro H locs ls hP hD hS hl
  exact lv_if_eq hx hb hdg ht (fun h => kt h H locs ls hP hD hS hl) (fun h => kf h H locs ls hP hD hS hl)
theorem j_if_ne (C : Cx p s m args meth c cc nL own ret D tys A) {x : Int32} {off : Int} (tgt : Nat) (hdg : decode cc pc = .ok (.ifCond .ne off, 3)) (ht : (pc : Int) + off = (tgt : Int)) (kt : ¬ x = 0 → JJ p l e R s m args below meth c Q nL D A Wd σ tgt L rest) (kf : x = 0 → JJ p l e R s m args below meth c Q nL D A Wd σ (pc + 3) L rest) : JJ p l e R s m args below meth c Q nL D A Wd σ pc L (.int x :: rest) := by
  obtain ⟨hx, hb, hml, hown, hts, hK, hA, hr, hlocks⟩ := C
  intro H locs ls hP hD hS hl
  exact lv_if_ne hx hb hdg ht (fun h => kt h H locs ls hP hD hS hl) (fun h => kf h H locs ls hP hD hS hl)
theorem j_if_lt (C : Cx p s m args meth c cc nL own ret D tys A) {x : Int32} {off : Int} (tgt : Nat) (hdg : decode cc pc = .ok (.ifCond .lt off, 3)) (ht : (pc : Int) + off = (tgt : Int)) (kt : x < 0 → JJ p l e R s m args below meth c Q nL D A Wd σ tgt L rest) (kf : ¬ x < 0 → JJ p l e R s m args below meth c Q nL D A Wd σ (pc + 3) L rest) : JJ p l e R s m args below meth c Q nL D A Wd σ pc L (.int x :: rest) := by
  obtain ⟨hx, hb, hml, hown, hts, hK, hA, hr, hlocks⟩ := C
  intro H locs ls hP hD hS hl
  exact lv_if_lt hx hb hdg ht (fun h => kt h H locs ls hP hD hS hl) (fun h => kf h H locs ls hP hD hS hl)
theorem j_if_ge (C : Cx p s m args meth c cc nL own ret D tys A) {x : Int32} {off : Int} (tgt : Nat) (hdg : decode cc pc = .ok (.ifCond .ge off, 3)) (ht : (pc : Int) + off = (tgt : Int)) (kt : 0 ≤ x → JJ p l e R s m args below meth c Q nL D A Wd σ tgt L rest) (kf : ¬ 0 ≤ x → JJ p l e R s m args below meth c Q nL D A Wd σ (pc + 3) L rest) : JJ p l e R s m args below meth c Q nL D A Wd σ pc L (.int x :: rest) := by
  obtain ⟨hx, hb, hml, hown, hts, hK, hA, hr, hlocks⟩ := C
  intro H locs ls hP hD hS hl
  exact lv_if_ge hx hb hdg ht (fun h => kt h H locs ls hP hD hS hl) (fun h => kf h H locs ls hP hD hS hl)
theorem j_if_gt (C : Cx p s m args meth c cc nL own ret D tys A) {x : Int32} {off : Int} (tgt : Nat) (hdg : decode cc pc = .ok (.ifCond .gt off, 3)) (ht : (pc : Int) + off = (tgt : Int)) (kt : 0 < x → JJ p l e R s m args below meth c Q nL D A Wd σ tgt L rest) (kf : ¬ 0 < x → JJ p l e R s m args below meth c Q nL D A Wd σ (pc + 3) L rest) : JJ p l e R s m args below meth c Q nL D A Wd σ pc L (.int x :: rest) := by
  obtain ⟨hx, hb, hml, hown, hts, hK, hA, hr, hlocks⟩ := C
  intro H locs ls hP hD hS hl
  exact lv_if_gt hx hb hdg ht (fun h => kt h H locs ls hP hD hS hl) (fun h => kf h H locs ls hP hD hS hl)
theorem j_if_le (C : Cx p s m args meth c cc nL own ret D tys A) {x : Int32} {off : Int} (tgt : Nat) (hdg : decode cc pc = .ok (.ifCond .le off, 3)) (ht : (pc : Int) + off = (tgt : Int)) (kt : x ≤ 0 → JJ p l e R s m args below meth c Q nL D A Wd σ tgt L rest) (kf : ¬ x ≤ 0 → JJ p l e R s m args below meth c Q nL D A Wd σ (pc + 3) L rest) : JJ p l e R s m args below meth c Q nL D A Wd σ pc L (.int x :: rest) := by
  obtain ⟨hx, hb, hml, hown, hts, hK, hA, hr, hlocks⟩ := C
  intro H locs ls hP hD hS hl
  exact lv_if_le hx hb hdg ht (fun h => kt h H locs ls hP hD hS hl) (fun h => kf h H locs ls hP hD hS hl)
theorem j_icmp_eq (C : Cx p s m args meth c cc nL own ret D tys A) {x y : Int32} {off : Int} (tgt : Nat) (hdg : decode cc pc = .ok (.if_icmp .eq off, 3)) (ht : (pc : Int) + off = (tgt : Int)) (kt : x = y → JJ p l e R s m args below meth c Q nL D A Wd σ tgt L rest) (kf : ¬ x = y → JJ p l e R s m args below meth c Q nL D A Wd σ (pc + 3) L rest) : JJ p l e R s m args below meth c Q nL D A Wd σ pc L (.int y :: .int x :: rest) := by
  obtain ⟨hx, hb, hml, hown, hts, hK, hA, hr, hlocks⟩ := C
  intro H locs ls hP hD hS hl
  exact lv_icmp_eq hx hb hdg ht (fun h => kt h H locs ls hP hD hS hl) (fun h => kf h H locs ls hP hD hS hl)
theorem j_icmp_ne (C : Cx p s m args meth c cc nL own ret D tys A) {x y : Int32} {off : Int} (tgt : Nat) (hdg : decode cc pc = .ok (.if_icmp .ne off, 3)) (ht : (pc : Int) + off = (tgt : Int)) (kt : ¬ x = y → JJ p l e R s m args below meth c Q nL D A Wd σ tgt L rest) (kf : x = y → JJ p l e R s m args below meth c Q nL D A Wd σ (pc + 3) L rest) : JJ p l e R s m args below meth c Q nL D A Wd σ pc L (.int y :: .int x :: rest) := by
  obtain ⟨hx, hb, hml, hown, hts, hK, hA, hr, hlocks⟩ := C
  intro H locs ls hP hD hS hl
  exact lv_icmp_ne hx hb hdg ht (fun h => kt h H locs ls hP hD hS hl) (fun h => kf h H locs ls hP hD hS hl)
theorem j_icmp_lt (C : Cx p s m args meth c cc nL own ret D tys A) {x y : Int32} {off : Int} (tgt : Nat) (hdg : decode cc pc = .ok (.if_icmp .lt off, 3)) (ht : (pc : Int) + off = (tgt : Int)) (kt : x < y → JJ p l e R s m args below meth c Q nL D A Wd σ tgt L rest) (kf : ¬ x < y → JJ p l e R s m args below meth c Q nL D A Wd σ (pc + 3) L rest) : JJ p l e R s m args below meth c Q nL D A Wd σ pc L (.int y :: .int x :: rest) := by
  obtain ⟨hx, hb, hml, hown, hts, hK, hA, hr, hlocks⟩ := C
  intro H locs ls hP hD hS hl
  exact lv_icmp_lt hx hb hdg ht (fun h => kt h H locs ls hP hD hS hl) (fun h => kf h H locs ls hP hD hS hl)
theorem j_icmp_ge (C : Cx p s m args meth c cc nL own ret D tys A) {x y : Int32} {off : Int} (tgt : Nat) (hdg : decode cc pc = .ok (.if_icmp .ge off, 3)) (ht : (pc : Int) + off = (tgt : Int)) (kt : y ≤ x → JJ p l e R s m args below meth c Q nL D A Wd σ tgt L rest) (kf : ¬ y ≤ x → JJ p l e R s m args below meth c Q nL D A Wd σ (pc + 3) L rest) : JJ p l e R s m args below meth c Q nL D A Wd σ pc L (.int y :: .int x :: rest) := by
  obtain ⟨hx, hb, hml, hown, hts, hK, hA, hr, hlocks⟩ := C
  intro H locs ls hP hD hS hl
  exact lv_icmp_ge hx hb hdg ht (fun h => kt h H locs ls hP hD hS hl) (fun h => kf h H locs ls hP hD hS hl)
theorem j_icmp_gt (C : Cx p s m args meth c cc nL own ret D tys A) {x y : Int32} {off : Int} (tgt : Nat) (hdg : decode cc pc = .ok (.if_icmp .gt off, 3)) (ht : (pc : Int) + off = (tgt : Int)) (kt : y < x → JJ p l e R s m args below meth c Q nL D A Wd σ tgt L rest) (kf : ¬ y < x → JJ p l e R s m args below meth c Q nL D A Wd σ (pc + 3) L rest) : JJ p l e R s m args below meth c Q nL D A Wd σ pc L (.int y :: .int x :: rest) := by
  obtain ⟨hx, hb, hml, hown, hts, hK, hA, hr, hlocks⟩ := C
  intro H locs ls hP hD hS hl
  exact lv_icmp_gt hx hb hdg ht (fun h => kt h H locs ls hP hD hS hl) (fun h => kf h H locs ls hP hD hS hl)
theorem j_icmp_le (C : Cx p s m args meth c cc nL own ret D tys A) {x y : Int32} {off : Int} (tgt : Nat) (hdg : decode cc pc = .ok (.if_icmp .le off, 3)) (ht : (pc : Int) + off = (tgt : Int)) (kt : x ≤ y → JJ p l e R s m args below meth c Q nL D A Wd σ tgt L rest) (kf : ¬ x ≤ y → JJ p l e R s m args below meth c Q nL D A Wd σ (pc + 3) L rest) : JJ p l e R s m args below meth c Q nL D A Wd σ pc L (.int y :: .int x :: rest) := by
  obtain ⟨hx, hb, hml, hown, hts, hK, hA, hr, hlocks⟩ := C
  intro H locs ls hP hD hS hl
  exact lv_icmp_le hx hb hdg ht (fun h => kt h H locs ls hP hD hS hl) (fun h => kf h H locs ls hP hD hS hl)
theorem j_tblOut (C : Cx p s m args meth c cc nL own ret D tys A) {dflt lo hi : Int} {offs : Array Int} {len : Nat} {x : Int32} (tgt : Nat) (hdg : decode cc pc = .ok (.tableswitch dflt lo hi offs, len)) (h : x.toInt < lo ∨ hi < x.toInt) (ht : (pc : Int) + dflt = (tgt : Int)) (kk : JJ p l e R s m args below meth c Q nL D A Wd σ tgt L rest) : JJ p l e R s m args below meth c Q nL D A Wd σ pc L (.int x :: rest) := by
  obtain ⟨hx, hb, hml, hown, hts, hK, hA, hr, hlocks⟩ := C
  intro H locs ls hP hD hS hl
  exact lv_tableOut hx hb hdg h ht (kk H locs ls hP hD hS hl)
theorem j_tblIn (C : Cx p s m args meth c cc nL own ret D tys A) {dflt lo hi off : Int} {offs : Array Int} {len : Nat} {x : Int32} (tgt : Nat) (hdg : decode cc pc = .ok (.tableswitch dflt lo hi offs, len)) (h1 : ¬ x.toInt < lo) (h2 : ¬ hi < x.toInt) (ho : offs[(x.toInt - lo).toNat]? = some off) (ht : (pc : Int) + off = (tgt : Int)) (kk : JJ p l e R s m args below meth c Q nL D A Wd σ tgt L rest) : JJ p l e R s m args below meth c Q nL D A Wd σ pc L (.int x :: rest) := by
  obtain ⟨hx, hb, hml, hown, hts, hK, hA, hr, hlocks⟩ := C
  intro H locs ls hP hD hS hl
  exact lv_tableIn hx hb hdg h1 h2 ho ht (kk H locs ls hP hD hS hl)
theorem j_lookup (C : Cx p s m args meth c cc nL own ret D tys A) {dflt off : Int} {ps : Array (Int × Int)} {len : Nat} {x : Int32} (tgt : Nat) (hdg : decode cc pc = .ok (.lookupswitch dflt ps, len)) (hp : (ps.toList.zip (ps.toList.drop 1)).all (fun (a, next) => a.1 < next.1) = true) (ho : Op.lookupswitch.offset ps.toList dflt x.toInt = off) (ht : (pc : Int) + off = (tgt : Int)) (kk : JJ p l e R s m args below meth c Q nL D A Wd σ tgt L rest) : JJ p l e R s m args below meth c Q nL D A Wd σ pc L (.int x :: rest) := by
  obtain ⟨hx, hb, hml, hown, hts, hK, hA, hr, hlocks⟩ := C
  intro H locs ls hP hD hS hl
  exact lv_lookup hx hb hdg hp ho ht (kk H locs ls hP hD hS hl)
theorem j_top {x : Int32} (kk : ∀ y : Int32, y = x → JJ p l e R s m args below meth c Q nL D A Wd σ pc L (.int y :: rest)) : JJ p l e R s m args below meth c Q nL D A Wd σ pc L (.int x :: rest) := kk x rfl
theorem j_v {x : Int32} (y : Int32) (h : x = y) (kk : JJ p l e R s m args below meth c Q nL D A Wd σ pc L (.int y :: rest)) : JJ p l e R s m args below meth c Q nL D A Wd σ pc L (.int x :: rest) := h ▸ kk
theorem j_L (ks : List Nat) (L' : List (Nat × Value)) (h : lv_pick L ks = L') (kk : JJ p l e R s m args below meth c Q nL D A Wd σ pc L' rest) : JJ p l e R s m args below meth c Q nL D A Wd σ pc L rest := fun H locs ls hP hD hS hl => kk H locs ls hP hD hS (lv_sub hl ks h)
theorem j_at {pc' : Nat} (h : pc = pc') (kk : JJ p l e R s m args below meth c Q nL D A Wd σ pc' L rest) : JJ p l e R s m args below meth c Q nL D A Wd σ pc L rest := h ▸ kk
theorem j_st {st : List Value} (h : st = rest) (kk : JJ p l e R s m args below meth c Q nL D A Wd σ pc L rest) : JJ p l e R s m args below meth c Q nL D A Wd σ pc L st := h ▸ kk
theorem j_s {τ : S} (h : σ = τ) (kk : JJ p l e R s m args below meth c Q nL D A Wd τ pc L rest) : JJ p l e R s m args below meth c Q nL D A Wd σ pc L rest := h ▸ kk
theorem j_get (C : Cx p s m args meth c cc nL own ret D tys A) {a ci index N : Nat} {fs : List Value} {v : Value} {Cn : String} {T : u_T} (q0 k : Nat) (he : (Wd σ)[q0]? = some (a, .inr (ci, fs))) (hc : vwCl[ci]? = some (Cn, T, N)) (hin : ∀ w ∈ u_ws Cn T N, w ∈ lw_g) (hk : k < N) (hlink : Cond.fieldLink own index (T k).1 (T k).2.1 (T k).2.2.1 ∈ lw_g) (hv : fs[k]? = some v) (hdg : decode cc pc = .ok (.getfield index, 3)) (kk : JJ p l e R s m args below meth c Q nL D A Wd σ (pc + 3) L (v :: rest)) : JJ p l e R s m args below meth c Q nL D A Wd σ pc L (.ref a :: rest) := by
  obtain ⟨hx, hb, hml, hown, hts, hK, hA, hr, hlocks⟩ := C
  intro H locs ls hP hD hS hl
  exact va_get hx hb hts hin hown hK.1 hP q0 he hc k hk (hts _ hlink) (fun _ h => h) hv hdg (kk H locs ls hP hD hS hl)
theorem j_getN (C : Cx p s m args meth c cc nL own ret D tys A) {a ci index N : Nat} {fs : List Value} {v : Value} {Cn host : String} {T : u_T} (q0 k : Nat) (he : (Wd σ)[q0]? = some (a, .inr (ci, fs))) (hc : vwCl[ci]? = some (Cn, T, N)) (hin : ∀ w ∈ u_ws Cn T N, w ∈ lw_g) (hk : k < N) (hlink : Cond.fieldLinkNest own index (T k).1 (T k).2.1 (T k).2.2.1 host ∈ lw_n) (hv : fs[k]? = some v) (hdg : decode cc pc = .ok (.getfield index, 3)) (kk : JJ p l e R s m args below meth c Q nL D A Wd σ (pc + 3) L (v :: rest)) : JJ p l e R s m args below meth c Q nL D A Wd σ pc L (.ref a :: rest) := by
  obtain ⟨hx, hb, hml, hown, hts, hK, hA, hr, hlocks⟩ := C
  intro H locs ls hP hD hS hl
  exact va_getN hx hb hts hin hown hK.1 hP q0 he hc k hk (va_Nw.use rfl (hK.2 _ hlink)) (fun _ h => h) hv hdg (kk H locs ls hP hD hS hl)
theorem j_put (C : Cx p s m args meth c cc nL own ret D tys A) {a ci index N : Nat} {fs : List Value} {v : Value} {Cn : String} {T : u_T} (q0 k : Nat) (he : (Wd σ)[q0]? = some (a, .inr (ci, fs))) (hc : vwCl[ci]? = some (Cn, T, N)) (hin : ∀ w ∈ u_ws Cn T N, w ∈ lw_g) (ty0 : Nat → FieldType) (hty : ∀ k, k < N → parseFieldDescriptor (T k).2.2.1 = some (ty0 k)) (hnm : ∀ a, a < N → ∀ b, b < N → a ≠ b → (T a).2.1 ≠ (T b).2.1) (hk : k < N) (hlink : Cond.fieldLink own index (T k).1 (T k).2.1 (T k).2.2.1 ∈ lw_g) (hfin : (T k).2.2.2 = false) {ty : FieldType} (hd : parseFieldDescriptor (T k).2.2.1 = some ty) (hn : narrow ty v = v) (hfit : fits ty v = true) (hlen : k < fs.length) (hdg : decode cc pc = .ok (.putfield index, 3)) (τ : S) (hτ : (Wd σ).set q0 (a, .inr (ci, fs.set k v)) = Wd τ) (kk : JJ p l e R s m args below meth c Q nL D A Wd τ (pc + 3) L rest) : JJ p l e R s m args below meth c Q nL D A Wd σ pc L (v :: .ref a :: rest) := by
  obtain ⟨hx, hb, hml, hown, hts, hK, hA, hr, hlocks⟩ := C
  intro H locs ls hP hD hS hl
  refine va_put hx hb hts hin ty0 hty hnm hown hK.1 hP hD hS q0 he hc k hk (hts _ hlink) (fun _ h => h) hfin hd hn hfit hlen hdg (fun H1 locs1 hP1 hD1 hS1 => ?_)
  rw [hτ] at hP1 hD1
  exact kk H1 locs1 ls hP1 hD1 hS1 hl
theorem j_putN (C : Cx p s m args meth c cc nL own ret D tys A) {a ci index N : Nat} {fs : List Value} {v : Value} {Cn host : String} {T : u_T} (q0 k : Nat) (he : (Wd σ)[q0]? = some (a, .inr (ci, fs))) (hc : vwCl[ci]? = some (Cn, T, N)) (hin : ∀ w ∈ u_ws Cn T N, w ∈ lw_g) (ty0 : Nat → FieldType) (hty : ∀ k, k < N → parseFieldDescriptor (T k).2.2.1 = some (ty0 k)) (hnm : ∀ a, a < N → ∀ b, b < N → a ≠ b → (T a).2.1 ≠ (T b).2.1) (hk : k < N) (hlink : Cond.fieldLinkNest own index (T k).1 (T k).2.1 (T k).2.2.1 host ∈ lw_n) (hfin : (T k).2.2.2 = false) {ty : FieldType} (hd : parseFieldDescriptor (T k).2.2.1 = some ty) (hn : narrow ty v = v) (hfit : fits ty v = true) (hlen : k < fs.length) (hdg : decode cc pc = .ok (.putfield index, 3)) (τ : S) (hτ : (Wd σ).set q0 (a, .inr (ci, fs.set k v)) = Wd τ) (kk : JJ p l e R s m args below meth c Q nL D A Wd τ (pc + 3) L rest) : JJ p l e R s m args below meth c Q nL D A Wd σ pc L (v :: .ref a :: rest) := by
  obtain ⟨hx, hb, hml, hown, hts, hK, hA, hr, hlocks⟩ := C
  intro H locs ls hP hD hS hl
  refine va_putN hx hb hts hin ty0 hty hnm hown hK.1 hP hD hS q0 he hc k hk (va_Nw.use rfl (hK.2 _ hlink)) (fun _ h => h) hfin hd hn hfit hlen hdg (fun H1 locs1 hP1 hD1 hS1 => ?_)
  rw [hτ] at hP1 hD1
  exact kk H1 locs1 ls hP1 hD1 hS1 hl
theorem j_iald (C : Cx p s m args meth c cc nL own ret D tys A) {a n : Nat} {cA : ClassId} {f : Nat → Int32} {i : Int32} (q0 t0 : Nat) (ha : (Wd σ)[q0]? = some (a, .inl (cA, n, .inl f))) (ht : tys[t0]? = some (cA, .int)) (hin : vp_in i n) (hdg : decode cc pc = .ok (.iaload, 1)) (kk : JJ p l e R s m args below meth c Q nL D A Wd σ (pc + 1) L (.int (f i.toNatClampNeg) :: rest)) : JJ p l e R s m args below meth c Q nL D A Wd σ pc L (.int i :: .ref a :: rest) := by
  obtain ⟨hx, hb, hml, hown, hts, hK, hA, hr, hlocks⟩ := C
  intro H locs ls hP hD hS hl
  exact va_iald hx hb hK.1 hP q0 t0 ha ht hin hdg (kk H locs ls hP hD hS hl)
theorem j_iast (C : Cx p s m args meth c cc nL own ret D tys A) {a n : Nat} {cA : ClassId} {f : Nat → Int32} {i x : Int32} (q0 t0 : Nat) (ha : (Wd σ)[q0]? = some (a, .inl (cA, n, .inl f))) (ht : tys[t0]? = some (cA, .int)) (hin : vp_in i n) (hdg : decode cc pc = .ok (.iastore, 1)) (τ : S) (hτ : (Wd σ).set q0 (a, .inl (cA, n, .inl (upd f i.toNatClampNeg x))) = Wd τ) (kk : JJ p l e R s m args below meth c Q nL D A Wd τ (pc + 1) L rest) : JJ p l e R s m args below meth c Q nL D A Wd σ pc L (.int x :: .int i :: .ref a :: rest) := by
  obtain ⟨hx, hb, hml, hown, hts, hK, hA, hr, hlocks⟩ := C
  intro H locs ls hP hD hS hl
  refine va_iast hx hb hK.1 hP hD hS q0 t0 ha ht hin hdg (fun H1 locs1 hP1 hD1 hS1 => ?_)
  rw [hτ] at hP1 hD1
  exact kk H1 locs1 ls hP1 hD1 hS1 hl
theorem j_alen (C : Cx p s m args meth c cc nL own ret D tys A) {a : Nat} {cA : ClassId} {x : vp_A} {ty : FieldType} (q0 t0 : Nat) (v : Int32) (ha : (Wd σ)[q0]? = some (a, .inl (cA, x))) (ht : tys[t0]? = some (cA, ty)) (hv : Int32.ofNat x.1 = v) (hdg : decode cc pc = .ok (.arraylength, 1)) (kk : JJ p l e R s m args below meth c Q nL D A Wd σ (pc + 1) L (.int v :: rest)) : JJ p l e R s m args below meth c Q nL D A Wd σ pc L (.ref a :: rest) := by
  obtain ⟨hx, hb, hml, hown, hts, hK, hA, hr, hlocks⟩ := C
  intro H locs ls hP hD hS hl
  exact va_alen hx hb hK.1 hP q0 t0 ha ht hv hdg (kk H locs ls hP hD hS hl)
end JR

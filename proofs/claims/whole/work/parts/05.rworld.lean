/-! The reference's world: the object at o, its rows at q; V its numbers by the places of the fields. -/
abbrev tyL (cI cG cW : ClassId) : List (ClassId × FieldType) := [(cI, .int), (cG, .object "GleanedSorry$Gleaner"), (cW, .object "GleanedSorry$Row")]
abbrev RS : Type := (Nat → Int32) × (Nat → Int32) × (Nat → Int32) × (Nat → Int32) × (Nat → Int32) × (Nat → Int32) × (Nat → Int32) × (Nat → Int32) × (Nat → Int32) × (Nat → Int32) × (Nat → Int32) × (Nat → Int32)
def fsR (q : Nat → Nat) (V : Nat → Int32) : List Value := [.ref (q 0), .ref (q 1), .ref (q 2), .ref (q 3), .int (V 4), .int (V 5), .ref (q 6), .int (V 7), .int (V 8), .int (V 9), .int (V 10), .int (V 11), .int (V 12), .int (V 13), .int (V 14), .int (V 15), .int (V 16), .int (V 17), .int (V 18), .int (V 19), .ref (q 20), .ref (q 21), .ref (q 22), .ref (q 23), .ref (q 24), .ref (q 25), .int (V 26), .int (V 27), .int (V 28), .int (V 29)]
abbrev sR (V row kept tried bf fd pk bo so sh mv tr : Nat → Int32) : RS := (V, row, kept, tried, bf, fd, pk, bo, so, sh, mv, tr)
def wR (cI : ClassId) (o : Nat) (q : Nat → Nat) (σ : RS) : va_W := [(o, .inr (12, fsR q σ.1)), (q 0, .inl (cI, 260, .inl σ.2.1)), (q 1, .inl (cI, 260, .inl σ.2.2.1)), (q 2, .inl (cI, 260, .inl σ.2.2.2.1)), (q 3, .inl (cI, 260, .inl σ.2.2.2.2.1)), (q 6, .inl (cI, 6, .inl σ.2.2.2.2.2.1)), (q 20, .inl (cI, 6, .inl σ.2.2.2.2.2.2.1)), (q 21, .inl (cI, 4, .inl σ.2.2.2.2.2.2.2.1)), (q 22, .inl (cI, 4, .inl σ.2.2.2.2.2.2.2.2.1)), (q 23, .inl (cI, 160, .inl σ.2.2.2.2.2.2.2.2.2.1)), (q 24, .inl (cI, 40, .inl σ.2.2.2.2.2.2.2.2.2.2.1)), (q 25, .inl (cI, 40, .inl σ.2.2.2.2.2.2.2.2.2.2.2))]
theorem inlR : ∀ w ∈ u_ws RX12 TX12 30, w ∈ lw_g := by decide +kernel
section RW
variable {p : Program} {l : Launch} {e : Env} {R : Room} {s : State} {m : MethodId} {args : Array Value} {below : List Frame} {meth : Method} {c : Code} {Q : State → Prop} {nL : Nat} {D : va_G} {A : Nat → Prop} {pc : Nat} {L L' : List (Nat × Value)} {rest : List Value}
variable {cc : ByteArray} {ret : Option FieldType} {cI cG cW : ClassId} {o : Nat} {q : Nat → Nat} {V row kept tried bf fd pk bo so sh mv tr : Nat → Int32} {σ : RS}
theorem rRcv : Rcv σ (wR cI o q) o RX12 := ⟨0, 12, _, _, rfl, rfl, rfl⟩
theorem rg (C : Cx p s m args meth c cc nL RX12 ret D (tyL cI cG cW) A) {index : Nat} {v : Value} (k : Nat) (hk : k < 30) (hlink : Cond.fieldLink RX12 index (TX12 k).1 (TX12 k).2.1 (TX12 k).2.2.1 ∈ lw_g) (hv : (fsR q V)[k]? = some v) (hdg : decode cc pc = .ok (.getfield index, 3)) (kk : JJ p l e R s m args below meth c Q nL D A (wR cI o q) (sR V row kept tried bf fd pk bo so sh mv tr) (pc + 3) L (v :: rest)) : JJ p l e R s m args below meth c Q nL D A (wR cI o q) (sR V row kept tried bf fd pk bo so sh mv tr) pc L (.ref o :: rest) := j_get C 0 k rfl rfl inlR hk hlink hv hdg kk
theorem rp_4 (C : Cx p s m args meth c cc nL RX12 ret D (tyL cI cG cW) A) {index : Nat} {x : Int32} (hx : x = 0 ∨ x = 1) (hlink : Cond.fieldLink RX12 index (TX12 4).1 (TX12 4).2.1 (TX12 4).2.2.1 ∈ lw_g) (hdg : decode cc pc = .ok (.putfield index, 3)) (kk : JJ p l e R s m args below meth c Q nL D A (wR cI o q) (sR (upd V 4 x) row kept tried bf fd pk bo so sh mv tr) (pc + 3) L rest) : JJ p l e R s m args below meth c Q nL D A (wR cI o q) (sR V row kept tried bf fd pk bo so sh mv tr) pc L (.int x :: .ref o :: rest) := j_put C 0 4 rfl rfl inlR tyX12 tyX12_ok nmX12 (by decide) hlink rfl (ty := .boolean) (by decide +kernel) (by rcases hx with rfl | rfl <;> rfl) (by rcases hx with rfl | rfl <;> rfl) (Nat.le_of_ble_eq_true rfl) hdg (sR (upd V 4 x) row kept tried bf fd pk bo so sh mv tr) rfl kk
theorem rp_5 (C : Cx p s m args meth c cc nL RX12 ret D (tyL cI cG cW) A) {index : Nat} {x : Int32} (hlink : Cond.fieldLink RX12 index (TX12 5).1 (TX12 5).2.1 (TX12 5).2.2.1 ∈ lw_g) (hdg : decode cc pc = .ok (.putfield index, 3)) (kk : JJ p l e R s m args below meth c Q nL D A (wR cI o q) (sR (upd V 5 x) row kept tried bf fd pk bo so sh mv tr) (pc + 3) L rest) : JJ p l e R s m args below meth c Q nL D A (wR cI o q) (sR V row kept tried bf fd pk bo so sh mv tr) pc L (.int x :: .ref o :: rest) := j_put C 0 5 rfl rfl inlR tyX12 tyX12_ok nmX12 (by decide) hlink rfl (ty := .int) (by decide +kernel) rfl rfl (Nat.le_of_ble_eq_true rfl) hdg (sR (upd V 5 x) row kept tried bf fd pk bo so sh mv tr) rfl kk
theorem rp_7 (C : Cx p s m args meth c cc nL RX12 ret D (tyL cI cG cW) A) {index : Nat} {x : Int32} (hlink : Cond.fieldLink RX12 index (TX12 7).1 (TX12 7).2.1 (TX12 7).2.2.1 ∈ lw_g) (hdg : decode cc pc = .ok (.putfield index, 3)) (kk : JJ p l e R s m args below meth c Q nL D A (wR cI o q) (sR (upd V 7 x) row kept tried bf fd pk bo so sh mv tr) (pc + 3) L rest) : JJ p l e R s m args below meth c Q nL D A (wR cI o q) (sR V row kept tried bf fd pk bo so sh mv tr) pc L (.int x :: .ref o :: rest) := j_put C 0 7 rfl rfl inlR tyX12 tyX12_ok nmX12 (by decide) hlink rfl (ty := .int) (by decide +kernel) rfl rfl (Nat.le_of_ble_eq_true rfl) hdg (sR (upd V 7 x) row kept tried bf fd pk bo so sh mv tr) rfl kk
theorem rp_8 (C : Cx p s m args meth c cc nL RX12 ret D (tyL cI cG cW) A) {index : Nat} {x : Int32} (hlink : Cond.fieldLink RX12 index (TX12 8).1 (TX12 8).2.1 (TX12 8).2.2.1 ∈ lw_g) (hdg : decode cc pc = .ok (.putfield index, 3)) (kk : JJ p l e R s m args below meth c Q nL D A (wR cI o q) (sR (upd V 8 x) row kept tried bf fd pk bo so sh mv tr) (pc + 3) L rest) : JJ p l e R s m args below meth c Q nL D A (wR cI o q) (sR V row kept tried bf fd pk bo so sh mv tr) pc L (.int x :: .ref o :: rest) := j_put C 0 8 rfl rfl inlR tyX12 tyX12_ok nmX12 (by decide) hlink rfl (ty := .int) (by decide +kernel) rfl rfl (Nat.le_of_ble_eq_true rfl) hdg (sR (upd V 8 x) row kept tried bf fd pk bo so sh mv tr) rfl kk
theorem rp_9 (C : Cx p s m args meth c cc nL RX12 ret D (tyL cI cG cW) A) {index : Nat} {x : Int32} (hlink : Cond.fieldLink RX12 index (TX12 9).1 (TX12 9).2.1 (TX12 9).2.2.1 ∈ lw_g) (hdg : decode cc pc = .ok (.putfield index, 3)) (kk : JJ p l e R s m args below meth c Q nL D A (wR cI o q) (sR (upd V 9 x) row kept tried bf fd pk bo so sh mv tr) (pc + 3) L rest) : JJ p l e R s m args below meth c Q nL D A (wR cI o q) (sR V row kept tried bf fd pk bo so sh mv tr) pc L (.int x :: .ref o :: rest) := j_put C 0 9 rfl rfl inlR tyX12 tyX12_ok nmX12 (by decide) hlink rfl (ty := .int) (by decide +kernel) rfl rfl (Nat.le_of_ble_eq_true rfl) hdg (sR (upd V 9 x) row kept tried bf fd pk bo so sh mv tr) rfl kk
theorem rp_10 (C : Cx p s m args meth c cc nL RX12 ret D (tyL cI cG cW) A) {index : Nat} {x : Int32} (hlink : Cond.fieldLink RX12 index (TX12 10).1 (TX12 10).2.1 (TX12 10).2.2.1 ∈ lw_g) (hdg : decode cc pc = .ok (.putfield index, 3)) (kk : JJ p l e R s m args below meth c Q nL D A (wR cI o q) (sR (upd V 10 x) row kept tried bf fd pk bo so sh mv tr) (pc + 3) L rest) : JJ p l e R s m args below meth c Q nL D A (wR cI o q) (sR V row kept tried bf fd pk bo so sh mv tr) pc L (.int x :: .ref o :: rest) := j_put C 0 10 rfl rfl inlR tyX12 tyX12_ok nmX12 (by decide) hlink rfl (ty := .int) (by decide +kernel) rfl rfl (Nat.le_of_ble_eq_true rfl) hdg (sR (upd V 10 x) row kept tried bf fd pk bo so sh mv tr) rfl kk
theorem rp_11 (C : Cx p s m args meth c cc nL RX12 ret D (tyL cI cG cW) A) {index : Nat} {x : Int32} (hlink : Cond.fieldLink RX12 index (TX12 11).1 (TX12 11).2.1 (TX12 11).2.2.1 ∈ lw_g) (hdg : decode cc pc = .ok (.putfield index, 3)) (kk : JJ p l e R s m args below meth c Q nL D A (wR cI o q) (sR (upd V 11 x) row kept tried bf fd pk bo so sh mv tr) (pc + 3) L rest) : JJ p l e R s m args below meth c Q nL D A (wR cI o q) (sR V row kept tried bf fd pk bo so sh mv tr) pc L (.int x :: .ref o :: rest) := j_put C 0 11 rfl rfl inlR tyX12 tyX12_ok nmX12 (by decide) hlink rfl (ty := .int) (by decide +kernel) rfl rfl (Nat.le_of_ble_eq_true rfl) hdg (sR (upd V 11 x) row kept tried bf fd pk bo so sh mv tr) rfl kk
theorem rp_12 (C : Cx p s m args meth c cc nL RX12 ret D (tyL cI cG cW) A) {index : Nat} {x : Int32} (hlink : Cond.fieldLink RX12 index (TX12 12).1 (TX12 12).2.1 (TX12 12).2.2.1 ∈ lw_g) (hdg : decode cc pc = .ok (.putfield index, 3)) (kk : JJ p l e R s m args below meth c Q nL D A (wR cI o q) (sR (upd V 12 x) row kept tried bf fd pk bo so sh mv tr) (pc + 3) L rest) : JJ p l e R s m args below meth c Q nL D A (wR cI o q) (sR V row kept tried bf fd pk bo so sh mv tr) pc L (.int x :: .ref o :: rest) := j_put C 0 12 rfl rfl inlR tyX12 tyX12_ok nmX12 (by decide) hlink rfl (ty := .int) (by decide +kernel) rfl rfl (Nat.le_of_ble_eq_true rfl) hdg (sR (upd V 12 x) row kept tried bf fd pk bo so sh mv tr) rfl kk
theorem rp_13 (C : Cx p s m args meth c cc nL RX12 ret D (tyL cI cG cW) A) {index : Nat} {x : Int32} (hlink : Cond.fieldLink RX12 index (TX12 13).1 (TX12 13).2.1 (TX12 13).2.2.1 ∈ lw_g) (hdg : decode cc pc = .ok (.putfield index, 3)) (kk : JJ p l e R s m args below meth c Q nL D A (wR cI o q) (sR (upd V 13 x) row kept tried bf fd pk bo so sh mv tr) (pc + 3) L rest) : JJ p l e R s m args below meth c Q nL D A (wR cI o q) (sR V row kept tried bf fd pk bo so sh mv tr) pc L (.int x :: .ref o :: rest) := j_put C 0 13 rfl rfl inlR tyX12 tyX12_ok nmX12 (by decide) hlink rfl (ty := .int) (by decide +kernel) rfl rfl (Nat.le_of_ble_eq_true rfl) hdg (sR (upd V 13 x) row kept tried bf fd pk bo so sh mv tr) rfl kk
theorem rp_14 (C : Cx p s m args meth c cc nL RX12 ret D (tyL cI cG cW) A) {index : Nat} {x : Int32} (hx : x = 0 ∨ x = 1) (hlink : Cond.fieldLink RX12 index (TX12 14).1 (TX12 14).2.1 (TX12 14).2.2.1 ∈ lw_g) (hdg : decode cc pc = .ok (.putfield index, 3)) (kk : JJ p l e R s m args below meth c Q nL D A (wR cI o q) (sR (upd V 14 x) row kept tried bf fd pk bo so sh mv tr) (pc + 3) L rest) : JJ p l e R s m args below meth c Q nL D A (wR cI o q) (sR V row kept tried bf fd pk bo so sh mv tr) pc L (.int x :: .ref o :: rest) := j_put C 0 14 rfl rfl inlR tyX12 tyX12_ok nmX12 (by decide) hlink rfl (ty := .boolean) (by decide +kernel) (by rcases hx with rfl | rfl <;> rfl) (by rcases hx with rfl | rfl <;> rfl) (Nat.le_of_ble_eq_true rfl) hdg (sR (upd V 14 x) row kept tried bf fd pk bo so sh mv tr) rfl kk
theorem rp_15 (C : Cx p s m args meth c cc nL RX12 ret D (tyL cI cG cW) A) {index : Nat} {x : Int32} (hlink : Cond.fieldLink RX12 index (TX12 15).1 (TX12 15).2.1 (TX12 15).2.2.1 ∈ lw_g) (hdg : decode cc pc = .ok (.putfield index, 3)) (kk : JJ p l e R s m args below meth c Q nL D A (wR cI o q) (sR (upd V 15 x) row kept tried bf fd pk bo so sh mv tr) (pc + 3) L rest) : JJ p l e R s m args below meth c Q nL D A (wR cI o q) (sR V row kept tried bf fd pk bo so sh mv tr) pc L (.int x :: .ref o :: rest) := j_put C 0 15 rfl rfl inlR tyX12 tyX12_ok nmX12 (by decide) hlink rfl (ty := .int) (by decide +kernel) rfl rfl (Nat.le_of_ble_eq_true rfl) hdg (sR (upd V 15 x) row kept tried bf fd pk bo so sh mv tr) rfl kk
theorem rp_16 (C : Cx p s m args meth c cc nL RX12 ret D (tyL cI cG cW) A) {index : Nat} {x : Int32} (hlink : Cond.fieldLink RX12 index (TX12 16).1 (TX12 16).2.1 (TX12 16).2.2.1 ∈ lw_g) (hdg : decode cc pc = .ok (.putfield index, 3)) (kk : JJ p l e R s m args below meth c Q nL D A (wR cI o q) (sR (upd V 16 x) row kept tried bf fd pk bo so sh mv tr) (pc + 3) L rest) : JJ p l e R s m args below meth c Q nL D A (wR cI o q) (sR V row kept tried bf fd pk bo so sh mv tr) pc L (.int x :: .ref o :: rest) := j_put C 0 16 rfl rfl inlR tyX12 tyX12_ok nmX12 (by decide) hlink rfl (ty := .int) (by decide +kernel) rfl rfl (Nat.le_of_ble_eq_true rfl) hdg (sR (upd V 16 x) row kept tried bf fd pk bo so sh mv tr) rfl kk
theorem rp_17 (C : Cx p s m args meth c cc nL RX12 ret D (tyL cI cG cW) A) {index : Nat} {x : Int32} (hlink : Cond.fieldLink RX12 index (TX12 17).1 (TX12 17).2.1 (TX12 17).2.2.1 ∈ lw_g) (hdg : decode cc pc = .ok (.putfield index, 3)) (kk : JJ p l e R s m args below meth c Q nL D A (wR cI o q) (sR (upd V 17 x) row kept tried bf fd pk bo so sh mv tr) (pc + 3) L rest) : JJ p l e R s m args below meth c Q nL D A (wR cI o q) (sR V row kept tried bf fd pk bo so sh mv tr) pc L (.int x :: .ref o :: rest) := j_put C 0 17 rfl rfl inlR tyX12 tyX12_ok nmX12 (by decide) hlink rfl (ty := .int) (by decide +kernel) rfl rfl (Nat.le_of_ble_eq_true rfl) hdg (sR (upd V 17 x) row kept tried bf fd pk bo so sh mv tr) rfl kk
theorem rp_18 (C : Cx p s m args meth c cc nL RX12 ret D (tyL cI cG cW) A) {index : Nat} {x : Int32} (hlink : Cond.fieldLink RX12 index (TX12 18).1 (TX12 18).2.1 (TX12 18).2.2.1 ∈ lw_g) (hdg : decode cc pc = .ok (.putfield index, 3)) (kk : JJ p l e R s m args below meth c Q nL D A (wR cI o q) (sR (upd V 18 x) row kept tried bf fd pk bo so sh mv tr) (pc + 3) L rest) : JJ p l e R s m args below meth c Q nL D A (wR cI o q) (sR V row kept tried bf fd pk bo so sh mv tr) pc L (.int x :: .ref o :: rest) := j_put C 0 18 rfl rfl inlR tyX12 tyX12_ok nmX12 (by decide) hlink rfl (ty := .int) (by decide +kernel) rfl rfl (Nat.le_of_ble_eq_true rfl) hdg (sR (upd V 18 x) row kept tried bf fd pk bo so sh mv tr) rfl kk
theorem rp_19 (C : Cx p s m args meth c cc nL RX12 ret D (tyL cI cG cW) A) {index : Nat} {x : Int32} (hlink : Cond.fieldLink RX12 index (TX12 19).1 (TX12 19).2.1 (TX12 19).2.2.1 ∈ lw_g) (hdg : decode cc pc = .ok (.putfield index, 3)) (kk : JJ p l e R s m args below meth c Q nL D A (wR cI o q) (sR (upd V 19 x) row kept tried bf fd pk bo so sh mv tr) (pc + 3) L rest) : JJ p l e R s m args below meth c Q nL D A (wR cI o q) (sR V row kept tried bf fd pk bo so sh mv tr) pc L (.int x :: .ref o :: rest) := j_put C 0 19 rfl rfl inlR tyX12 tyX12_ok nmX12 (by decide) hlink rfl (ty := .int) (by decide +kernel) rfl rfl (Nat.le_of_ble_eq_true rfl) hdg (sR (upd V 19 x) row kept tried bf fd pk bo so sh mv tr) rfl kk
theorem rp_26 (C : Cx p s m args meth c cc nL RX12 ret D (tyL cI cG cW) A) {index : Nat} {x : Int32} (hlink : Cond.fieldLink RX12 index (TX12 26).1 (TX12 26).2.1 (TX12 26).2.2.1 ∈ lw_g) (hdg : decode cc pc = .ok (.putfield index, 3)) (kk : JJ p l e R s m args below meth c Q nL D A (wR cI o q) (sR (upd V 26 x) row kept tried bf fd pk bo so sh mv tr) (pc + 3) L rest) : JJ p l e R s m args below meth c Q nL D A (wR cI o q) (sR V row kept tried bf fd pk bo so sh mv tr) pc L (.int x :: .ref o :: rest) := j_put C 0 26 rfl rfl inlR tyX12 tyX12_ok nmX12 (by decide) hlink rfl (ty := .int) (by decide +kernel) rfl rfl (Nat.le_of_ble_eq_true rfl) hdg (sR (upd V 26 x) row kept tried bf fd pk bo so sh mv tr) rfl kk
theorem rp_27 (C : Cx p s m args meth c cc nL RX12 ret D (tyL cI cG cW) A) {index : Nat} {x : Int32} (hlink : Cond.fieldLink RX12 index (TX12 27).1 (TX12 27).2.1 (TX12 27).2.2.1 ∈ lw_g) (hdg : decode cc pc = .ok (.putfield index, 3)) (kk : JJ p l e R s m args below meth c Q nL D A (wR cI o q) (sR (upd V 27 x) row kept tried bf fd pk bo so sh mv tr) (pc + 3) L rest) : JJ p l e R s m args below meth c Q nL D A (wR cI o q) (sR V row kept tried bf fd pk bo so sh mv tr) pc L (.int x :: .ref o :: rest) := j_put C 0 27 rfl rfl inlR tyX12 tyX12_ok nmX12 (by decide) hlink rfl (ty := .int) (by decide +kernel) rfl rfl (Nat.le_of_ble_eq_true rfl) hdg (sR (upd V 27 x) row kept tried bf fd pk bo so sh mv tr) rfl kk
theorem rp_28 (C : Cx p s m args meth c cc nL RX12 ret D (tyL cI cG cW) A) {index : Nat} {x : Int32} (hlink : Cond.fieldLink RX12 index (TX12 28).1 (TX12 28).2.1 (TX12 28).2.2.1 ∈ lw_g) (hdg : decode cc pc = .ok (.putfield index, 3)) (kk : JJ p l e R s m args below meth c Q nL D A (wR cI o q) (sR (upd V 28 x) row kept tried bf fd pk bo so sh mv tr) (pc + 3) L rest) : JJ p l e R s m args below meth c Q nL D A (wR cI o q) (sR V row kept tried bf fd pk bo so sh mv tr) pc L (.int x :: .ref o :: rest) := j_put C 0 28 rfl rfl inlR tyX12 tyX12_ok nmX12 (by decide) hlink rfl (ty := .int) (by decide +kernel) rfl rfl (Nat.le_of_ble_eq_true rfl) hdg (sR (upd V 28 x) row kept tried bf fd pk bo so sh mv tr) rfl kk
theorem rp_29 (C : Cx p s m args meth c cc nL RX12 ret D (tyL cI cG cW) A) {index : Nat} {x : Int32} (hlink : Cond.fieldLink RX12 index (TX12 29).1 (TX12 29).2.1 (TX12 29).2.2.1 ∈ lw_g) (hdg : decode cc pc = .ok (.putfield index, 3)) (kk : JJ p l e R s m args below meth c Q nL D A (wR cI o q) (sR (upd V 29 x) row kept tried bf fd pk bo so sh mv tr) (pc + 3) L rest) : JJ p l e R s m args below meth c Q nL D A (wR cI o q) (sR V row kept tried bf fd pk bo so sh mv tr) pc L (.int x :: .ref o :: rest) := j_put C 0 29 rfl rfl inlR tyX12 tyX12_ok nmX12 (by decide) hlink rfl (ty := .int) (by decide +kernel) rfl rfl (Nat.le_of_ble_eq_true rfl) hdg (sR (upd V 29 x) row kept tried bf fd pk bo so sh mv tr) rfl kk
theorem rl_row (C : Cx p s m args meth c cc nL RX12 ret D (tyL cI cG cW) A) {i : Int32} (j : Nat) (hi : i = nI j) (hj : j < 260) (hdg : decode cc pc = .ok (.iaload, 1)) (kk : JJ p l e R s m args below meth c Q nL D A (wR cI o q) (sR V row kept tried bf fd pk bo so sh mv tr) (pc + 1) L (.int (row j) :: rest)) : JJ p l e R s m args below meth c Q nL D A (wR cI o q) (sR V row kept tried bf fd pk bo so sh mv tr) pc L (.int i :: .ref (q 0) :: rest) := by
  subst hi
  refine j_iald C 1 0 rfl rfl (vp_in_nI hj (by decide)) hdg ?_
  rw [nI_clamp (by omega)]
  exact kk
theorem rs_row (C : Cx p s m args meth c cc nL RX12 ret D (tyL cI cG cW) A) {i x : Int32} (j : Nat) (hi : i = nI j) (hj : j < 260) (hdg : decode cc pc = .ok (.iastore, 1)) (kk : JJ p l e R s m args below meth c Q nL D A (wR cI o q) (sR V (upd row j x) kept tried bf fd pk bo so sh mv tr) (pc + 1) L rest) : JJ p l e R s m args below meth c Q nL D A (wR cI o q) (sR V row kept tried bf fd pk bo so sh mv tr) pc L (.int x :: .int i :: .ref (q 0) :: rest) := by
  subst hi
  refine j_iast C 1 0 rfl rfl (vp_in_nI hj (by decide)) hdg (sR V (upd row j x) kept tried bf fd pk bo so sh mv tr) ?_ kk
  rw [nI_clamp (by omega)]
  rfl
theorem rl_kept (C : Cx p s m args meth c cc nL RX12 ret D (tyL cI cG cW) A) {i : Int32} (j : Nat) (hi : i = nI j) (hj : j < 260) (hdg : decode cc pc = .ok (.iaload, 1)) (kk : JJ p l e R s m args below meth c Q nL D A (wR cI o q) (sR V row kept tried bf fd pk bo so sh mv tr) (pc + 1) L (.int (kept j) :: rest)) : JJ p l e R s m args below meth c Q nL D A (wR cI o q) (sR V row kept tried bf fd pk bo so sh mv tr) pc L (.int i :: .ref (q 1) :: rest) := by
  subst hi
  refine j_iald C 2 0 rfl rfl (vp_in_nI hj (by decide)) hdg ?_
  rw [nI_clamp (by omega)]
  exact kk
theorem rs_kept (C : Cx p s m args meth c cc nL RX12 ret D (tyL cI cG cW) A) {i x : Int32} (j : Nat) (hi : i = nI j) (hj : j < 260) (hdg : decode cc pc = .ok (.iastore, 1)) (kk : JJ p l e R s m args below meth c Q nL D A (wR cI o q) (sR V row (upd kept j x) tried bf fd pk bo so sh mv tr) (pc + 1) L rest) : JJ p l e R s m args below meth c Q nL D A (wR cI o q) (sR V row kept tried bf fd pk bo so sh mv tr) pc L (.int x :: .int i :: .ref (q 1) :: rest) := by
  subst hi
  refine j_iast C 2 0 rfl rfl (vp_in_nI hj (by decide)) hdg (sR V row (upd kept j x) tried bf fd pk bo so sh mv tr) ?_ kk
  rw [nI_clamp (by omega)]
  rfl
theorem rl_tried (C : Cx p s m args meth c cc nL RX12 ret D (tyL cI cG cW) A) {i : Int32} (j : Nat) (hi : i = nI j) (hj : j < 260) (hdg : decode cc pc = .ok (.iaload, 1)) (kk : JJ p l e R s m args below meth c Q nL D A (wR cI o q) (sR V row kept tried bf fd pk bo so sh mv tr) (pc + 1) L (.int (tried j) :: rest)) : JJ p l e R s m args below meth c Q nL D A (wR cI o q) (sR V row kept tried bf fd pk bo so sh mv tr) pc L (.int i :: .ref (q 2) :: rest) := by
  subst hi
  refine j_iald C 3 0 rfl rfl (vp_in_nI hj (by decide)) hdg ?_
  rw [nI_clamp (by omega)]
  exact kk
theorem rs_tried (C : Cx p s m args meth c cc nL RX12 ret D (tyL cI cG cW) A) {i x : Int32} (j : Nat) (hi : i = nI j) (hj : j < 260) (hdg : decode cc pc = .ok (.iastore, 1)) (kk : JJ p l e R s m args below meth c Q nL D A (wR cI o q) (sR V row kept (upd tried j x) bf fd pk bo so sh mv tr) (pc + 1) L rest) : JJ p l e R s m args below meth c Q nL D A (wR cI o q) (sR V row kept tried bf fd pk bo so sh mv tr) pc L (.int x :: .int i :: .ref (q 2) :: rest) := by
  subst hi
  refine j_iast C 3 0 rfl rfl (vp_in_nI hj (by decide)) hdg (sR V row kept (upd tried j x) bf fd pk bo so sh mv tr) ?_ kk
  rw [nI_clamp (by omega)]
  rfl
theorem rl_bf (C : Cx p s m args meth c cc nL RX12 ret D (tyL cI cG cW) A) {i : Int32} (j : Nat) (hi : i = nI j) (hj : j < 260) (hdg : decode cc pc = .ok (.iaload, 1)) (kk : JJ p l e R s m args below meth c Q nL D A (wR cI o q) (sR V row kept tried bf fd pk bo so sh mv tr) (pc + 1) L (.int (bf j) :: rest)) : JJ p l e R s m args below meth c Q nL D A (wR cI o q) (sR V row kept tried bf fd pk bo so sh mv tr) pc L (.int i :: .ref (q 3) :: rest) := by
  subst hi
  refine j_iald C 4 0 rfl rfl (vp_in_nI hj (by decide)) hdg ?_
  rw [nI_clamp (by omega)]
  exact kk
theorem rs_bf (C : Cx p s m args meth c cc nL RX12 ret D (tyL cI cG cW) A) {i x : Int32} (j : Nat) (hi : i = nI j) (hj : j < 260) (hdg : decode cc pc = .ok (.iastore, 1)) (kk : JJ p l e R s m args below meth c Q nL D A (wR cI o q) (sR V row kept tried (upd bf j x) fd pk bo so sh mv tr) (pc + 1) L rest) : JJ p l e R s m args below meth c Q nL D A (wR cI o q) (sR V row kept tried bf fd pk bo so sh mv tr) pc L (.int x :: .int i :: .ref (q 3) :: rest) := by
  subst hi
  refine j_iast C 4 0 rfl rfl (vp_in_nI hj (by decide)) hdg (sR V row kept tried (upd bf j x) fd pk bo so sh mv tr) ?_ kk
  rw [nI_clamp (by omega)]
  rfl
theorem rl_fd (C : Cx p s m args meth c cc nL RX12 ret D (tyL cI cG cW) A) {i : Int32} (j : Nat) (hi : i = nI j) (hj : j < 6) (hdg : decode cc pc = .ok (.iaload, 1)) (kk : JJ p l e R s m args below meth c Q nL D A (wR cI o q) (sR V row kept tried bf fd pk bo so sh mv tr) (pc + 1) L (.int (fd j) :: rest)) : JJ p l e R s m args below meth c Q nL D A (wR cI o q) (sR V row kept tried bf fd pk bo so sh mv tr) pc L (.int i :: .ref (q 6) :: rest) := by
  subst hi
  refine j_iald C 5 0 rfl rfl (vp_in_nI hj (by decide)) hdg ?_
  rw [nI_clamp (by omega)]
  exact kk
theorem rs_fd (C : Cx p s m args meth c cc nL RX12 ret D (tyL cI cG cW) A) {i x : Int32} (j : Nat) (hi : i = nI j) (hj : j < 6) (hdg : decode cc pc = .ok (.iastore, 1)) (kk : JJ p l e R s m args below meth c Q nL D A (wR cI o q) (sR V row kept tried bf (upd fd j x) pk bo so sh mv tr) (pc + 1) L rest) : JJ p l e R s m args below meth c Q nL D A (wR cI o q) (sR V row kept tried bf fd pk bo so sh mv tr) pc L (.int x :: .int i :: .ref (q 6) :: rest) := by
  subst hi
  refine j_iast C 5 0 rfl rfl (vp_in_nI hj (by decide)) hdg (sR V row kept tried bf (upd fd j x) pk bo so sh mv tr) ?_ kk
  rw [nI_clamp (by omega)]
  rfl
theorem rl_pk (C : Cx p s m args meth c cc nL RX12 ret D (tyL cI cG cW) A) {i : Int32} (j : Nat) (hi : i = nI j) (hj : j < 6) (hdg : decode cc pc = .ok (.iaload, 1)) (kk : JJ p l e R s m args below meth c Q nL D A (wR cI o q) (sR V row kept tried bf fd pk bo so sh mv tr) (pc + 1) L (.int (pk j) :: rest)) : JJ p l e R s m args below meth c Q nL D A (wR cI o q) (sR V row kept tried bf fd pk bo so sh mv tr) pc L (.int i :: .ref (q 20) :: rest) := by
  subst hi
  refine j_iald C 6 0 rfl rfl (vp_in_nI hj (by decide)) hdg ?_
  rw [nI_clamp (by omega)]
  exact kk
theorem rs_pk (C : Cx p s m args meth c cc nL RX12 ret D (tyL cI cG cW) A) {i x : Int32} (j : Nat) (hi : i = nI j) (hj : j < 6) (hdg : decode cc pc = .ok (.iastore, 1)) (kk : JJ p l e R s m args below meth c Q nL D A (wR cI o q) (sR V row kept tried bf fd (upd pk j x) bo so sh mv tr) (pc + 1) L rest) : JJ p l e R s m args below meth c Q nL D A (wR cI o q) (sR V row kept tried bf fd pk bo so sh mv tr) pc L (.int x :: .int i :: .ref (q 20) :: rest) := by
  subst hi
  refine j_iast C 6 0 rfl rfl (vp_in_nI hj (by decide)) hdg (sR V row kept tried bf fd (upd pk j x) bo so sh mv tr) ?_ kk
  rw [nI_clamp (by omega)]
  rfl
theorem rl_bo (C : Cx p s m args meth c cc nL RX12 ret D (tyL cI cG cW) A) {i : Int32} (j : Nat) (hi : i = nI j) (hj : j < 4) (hdg : decode cc pc = .ok (.iaload, 1)) (kk : JJ p l e R s m args below meth c Q nL D A (wR cI o q) (sR V row kept tried bf fd pk bo so sh mv tr) (pc + 1) L (.int (bo j) :: rest)) : JJ p l e R s m args below meth c Q nL D A (wR cI o q) (sR V row kept tried bf fd pk bo so sh mv tr) pc L (.int i :: .ref (q 21) :: rest) := by
  subst hi
  refine j_iald C 7 0 rfl rfl (vp_in_nI hj (by decide)) hdg ?_
  rw [nI_clamp (by omega)]
  exact kk
theorem rs_bo (C : Cx p s m args meth c cc nL RX12 ret D (tyL cI cG cW) A) {i x : Int32} (j : Nat) (hi : i = nI j) (hj : j < 4) (hdg : decode cc pc = .ok (.iastore, 1)) (kk : JJ p l e R s m args below meth c Q nL D A (wR cI o q) (sR V row kept tried bf fd pk (upd bo j x) so sh mv tr) (pc + 1) L rest) : JJ p l e R s m args below meth c Q nL D A (wR cI o q) (sR V row kept tried bf fd pk bo so sh mv tr) pc L (.int x :: .int i :: .ref (q 21) :: rest) := by
  subst hi
  refine j_iast C 7 0 rfl rfl (vp_in_nI hj (by decide)) hdg (sR V row kept tried bf fd pk (upd bo j x) so sh mv tr) ?_ kk
  rw [nI_clamp (by omega)]
  rfl
theorem rl_so (C : Cx p s m args meth c cc nL RX12 ret D (tyL cI cG cW) A) {i : Int32} (j : Nat) (hi : i = nI j) (hj : j < 4) (hdg : decode cc pc = .ok (.iaload, 1)) (kk : JJ p l e R s m args below meth c Q nL D A (wR cI o q) (sR V row kept tried bf fd pk bo so sh mv tr) (pc + 1) L (.int (so j) :: rest)) : JJ p l e R s m args below meth c Q nL D A (wR cI o q) (sR V row kept tried bf fd pk bo so sh mv tr) pc L (.int i :: .ref (q 22) :: rest) := by
  subst hi
  refine j_iald C 8 0 rfl rfl (vp_in_nI hj (by decide)) hdg ?_
  rw [nI_clamp (by omega)]
  exact kk
theorem rs_so (C : Cx p s m args meth c cc nL RX12 ret D (tyL cI cG cW) A) {i x : Int32} (j : Nat) (hi : i = nI j) (hj : j < 4) (hdg : decode cc pc = .ok (.iastore, 1)) (kk : JJ p l e R s m args below meth c Q nL D A (wR cI o q) (sR V row kept tried bf fd pk bo (upd so j x) sh mv tr) (pc + 1) L rest) : JJ p l e R s m args below meth c Q nL D A (wR cI o q) (sR V row kept tried bf fd pk bo so sh mv tr) pc L (.int x :: .int i :: .ref (q 22) :: rest) := by
  subst hi
  refine j_iast C 8 0 rfl rfl (vp_in_nI hj (by decide)) hdg (sR V row kept tried bf fd pk bo (upd so j x) sh mv tr) ?_ kk
  rw [nI_clamp (by omega)]
  rfl
theorem rl_sh (C : Cx p s m args meth c cc nL RX12 ret D (tyL cI cG cW) A) {i : Int32} (j : Nat) (hi : i = nI j) (hj : j < 160) (hdg : decode cc pc = .ok (.iaload, 1)) (kk : JJ p l e R s m args below meth c Q nL D A (wR cI o q) (sR V row kept tried bf fd pk bo so sh mv tr) (pc + 1) L (.int (sh j) :: rest)) : JJ p l e R s m args below meth c Q nL D A (wR cI o q) (sR V row kept tried bf fd pk bo so sh mv tr) pc L (.int i :: .ref (q 23) :: rest) := by
  subst hi
  refine j_iald C 9 0 rfl rfl (vp_in_nI hj (by decide)) hdg ?_
  rw [nI_clamp (by omega)]
  exact kk
theorem rs_sh (C : Cx p s m args meth c cc nL RX12 ret D (tyL cI cG cW) A) {i x : Int32} (j : Nat) (hi : i = nI j) (hj : j < 160) (hdg : decode cc pc = .ok (.iastore, 1)) (kk : JJ p l e R s m args below meth c Q nL D A (wR cI o q) (sR V row kept tried bf fd pk bo so (upd sh j x) mv tr) (pc + 1) L rest) : JJ p l e R s m args below meth c Q nL D A (wR cI o q) (sR V row kept tried bf fd pk bo so sh mv tr) pc L (.int x :: .int i :: .ref (q 23) :: rest) := by
  subst hi
  refine j_iast C 9 0 rfl rfl (vp_in_nI hj (by decide)) hdg (sR V row kept tried bf fd pk bo so (upd sh j x) mv tr) ?_ kk
  rw [nI_clamp (by omega)]
  rfl
theorem rl_mv (C : Cx p s m args meth c cc nL RX12 ret D (tyL cI cG cW) A) {i : Int32} (j : Nat) (hi : i = nI j) (hj : j < 40) (hdg : decode cc pc = .ok (.iaload, 1)) (kk : JJ p l e R s m args below meth c Q nL D A (wR cI o q) (sR V row kept tried bf fd pk bo so sh mv tr) (pc + 1) L (.int (mv j) :: rest)) : JJ p l e R s m args below meth c Q nL D A (wR cI o q) (sR V row kept tried bf fd pk bo so sh mv tr) pc L (.int i :: .ref (q 24) :: rest) := by
  subst hi
  refine j_iald C 10 0 rfl rfl (vp_in_nI hj (by decide)) hdg ?_
  rw [nI_clamp (by omega)]
  exact kk
theorem rs_mv (C : Cx p s m args meth c cc nL RX12 ret D (tyL cI cG cW) A) {i x : Int32} (j : Nat) (hi : i = nI j) (hj : j < 40) (hdg : decode cc pc = .ok (.iastore, 1)) (kk : JJ p l e R s m args below meth c Q nL D A (wR cI o q) (sR V row kept tried bf fd pk bo so sh (upd mv j x) tr) (pc + 1) L rest) : JJ p l e R s m args below meth c Q nL D A (wR cI o q) (sR V row kept tried bf fd pk bo so sh mv tr) pc L (.int x :: .int i :: .ref (q 24) :: rest) := by
  subst hi
  refine j_iast C 10 0 rfl rfl (vp_in_nI hj (by decide)) hdg (sR V row kept tried bf fd pk bo so sh (upd mv j x) tr) ?_ kk
  rw [nI_clamp (by omega)]
  rfl
theorem rl_tr (C : Cx p s m args meth c cc nL RX12 ret D (tyL cI cG cW) A) {i : Int32} (j : Nat) (hi : i = nI j) (hj : j < 40) (hdg : decode cc pc = .ok (.iaload, 1)) (kk : JJ p l e R s m args below meth c Q nL D A (wR cI o q) (sR V row kept tried bf fd pk bo so sh mv tr) (pc + 1) L (.int (tr j) :: rest)) : JJ p l e R s m args below meth c Q nL D A (wR cI o q) (sR V row kept tried bf fd pk bo so sh mv tr) pc L (.int i :: .ref (q 25) :: rest) := by
  subst hi
  refine j_iald C 11 0 rfl rfl (vp_in_nI hj (by decide)) hdg ?_
  rw [nI_clamp (by omega)]
  exact kk
theorem rs_tr (C : Cx p s m args meth c cc nL RX12 ret D (tyL cI cG cW) A) {i x : Int32} (j : Nat) (hi : i = nI j) (hj : j < 40) (hdg : decode cc pc = .ok (.iastore, 1)) (kk : JJ p l e R s m args below meth c Q nL D A (wR cI o q) (sR V row kept tried bf fd pk bo so sh mv (upd tr j x)) (pc + 1) L rest) : JJ p l e R s m args below meth c Q nL D A (wR cI o q) (sR V row kept tried bf fd pk bo so sh mv tr) pc L (.int x :: .int i :: .ref (q 25) :: rest) := by
  subst hi
  refine j_iast C 11 0 rfl rfl (vp_in_nI hj (by decide)) hdg (sR V row kept tried bf fd pk bo so sh mv (upd tr j x)) ?_ kk
  rw [nI_clamp (by omega)]
  rfl
theorem j_iaddN {S : Type} {Wd : S → va_W} {σ : S} {own : String} {tys : List (ClassId × FieldType)} (C : Cx p s m args meth c cc nL own ret D tys A) {a b : Nat} (hdg : decode cc pc = .ok (.iadd, 1)) (kk : JJ p l e R s m args below meth c Q nL D A Wd σ (pc + 1) L (.int (nI (a + b)) :: rest)) : JJ p l e R s m args below meth c Q nL D A Wd σ pc L (.int (nI b) :: .int (nI a) :: rest) := by
  refine j_iadd C hdg ?_
  rw [nI_add]
  exact kk
theorem j_imulN {S : Type} {Wd : S → va_W} {σ : S} {own : String} {tys : List (ClassId × FieldType)} (C : Cx p s m args meth c cc nL own ret D tys A) {a b : Nat} (hdg : decode cc pc = .ok (.imul, 1)) (kk : JJ p l e R s m args below meth c Q nL D A Wd σ (pc + 1) L (.int (nI (a * b)) :: rest)) : JJ p l e R s m args below meth c Q nL D A Wd σ pc L (.int (nI b) :: .int (nI a) :: rest) := by
  refine j_imul C hdg ?_
  rw [pk_mul]
  exact kk
theorem j_isubN {S : Type} {Wd : S → va_W} {σ : S} {own : String} {tys : List (ClassId × FieldType)} (C : Cx p s m args meth c cc nL own ret D tys A) {a b : Nat} (h : b ≤ a) (hdg : decode cc pc = .ok (.isub, 1)) (kk : JJ p l e R s m args below meth c Q nL D A Wd σ (pc + 1) L (.int (nI (a - b)) :: rest)) : JJ p l e R s m args below meth c Q nL D A Wd σ pc L (.int (nI b) :: .int (nI a) :: rest) := by
  refine j_isub C hdg ?_
  rw [pk_sub h]
  exact kk
theorem j_loop {S : Type} {Wd : S → va_W} {σ : S} {X : Type} (I : X → Prop) (μ : X → Nat) (σf : X → S) (Lf : X → List (Nat × Value)) (x0 : X) (h0 : I x0) (hσ : σ = σf x0) (hL : L = Lf x0) (step : ∀ x, I x → (∀ x', I x' → μ x' < μ x → JJ p l e R s m args below meth c Q nL D A Wd (σf x') pc (Lf x') []) → JJ p l e R s m args below meth c Q nL D A Wd (σf x) pc (Lf x) []) : JJ p l e R s m args below meth c Q nL D A Wd σ pc L [] := by
  subst hσ
  subst hL
  have key : ∀ (n : Nat) (x : X), I x → μ x < n → JJ p l e R s m args below meth c Q nL D A Wd (σf x) pc (Lf x) [] := by
    intro n
    induction n with
    | zero => intro x _ h; exact absurd h (Nat.not_lt_zero _)
    | succ n ih => intro x hI hn; exact step x hI (fun x' hI' hlt => ih x' hI' (by omega))
  exact key (μ x0 + 1) x0 h0 (Nat.lt_succ_self _)
end RW
theorem kf12_7 : Cond.fieldLink RX12 7 (TX12 0).1 (TX12 0).2.1 (TX12 0).2.2.1 ∈ lw_g := gw 981 (by decide +kernel) rfl
theorem kf12_13 : Cond.fieldLink RX12 13 (TX12 1).1 (TX12 1).2.1 (TX12 1).2.2.1 ∈ lw_g := gw 982 (by decide +kernel) rfl
theorem kf12_16 : Cond.fieldLink RX12 16 (TX12 2).1 (TX12 2).2.1 (TX12 2).2.2.1 ∈ lw_g := gw 983 (by decide +kernel) rfl
theorem kf12_19 : Cond.fieldLink RX12 19 (TX12 3).1 (TX12 3).2.1 (TX12 3).2.2.1 ∈ lw_g := gw 984 (by decide +kernel) rfl
theorem kf12_256 : Cond.fieldLink RX12 256 (TX12 4).1 (TX12 4).2.1 (TX12 4).2.2.1 ∈ lw_g := gw 985 (by decide +kernel) rfl
theorem kf12_259 : Cond.fieldLink RX12 259 (TX12 5).1 (TX12 5).2.1 (TX12 5).2.2.1 ∈ lw_g := gw 986 (by decide +kernel) rfl
theorem kf12_22 : Cond.fieldLink RX12 22 (TX12 6).1 (TX12 6).2.1 (TX12 6).2.2.1 ∈ lw_g := gw 987 (by decide +kernel) rfl
theorem kf12_102 : Cond.fieldLink RX12 102 (TX12 7).1 (TX12 7).2.1 (TX12 7).2.2.1 ∈ lw_g := gw 988 (by decide +kernel) rfl
theorem kf12_109 : Cond.fieldLink RX12 109 (TX12 8).1 (TX12 8).2.1 (TX12 8).2.2.1 ∈ lw_g := gw 989 (by decide +kernel) rfl
theorem kf12_99 : Cond.fieldLink RX12 99 (TX12 9).1 (TX12 9).2.1 (TX12 9).2.2.1 ∈ lw_g := gw 990 (by decide +kernel) rfl
theorem kf12_137 : Cond.fieldLink RX12 137 (TX12 10).1 (TX12 10).2.1 (TX12 10).2.2.1 ∈ lw_g := gw 991 (by decide +kernel) rfl
theorem kf12_122 : Cond.fieldLink RX12 122 (TX12 11).1 (TX12 11).2.1 (TX12 11).2.2.1 ∈ lw_g := gw 992 (by decide +kernel) rfl
theorem kf12_125 : Cond.fieldLink RX12 125 (TX12 12).1 (TX12 12).2.1 (TX12 12).2.2.1 ∈ lw_g := gw 993 (by decide +kernel) rfl
theorem kf12_128 : Cond.fieldLink RX12 128 (TX12 13).1 (TX12 13).2.1 (TX12 13).2.2.1 ∈ lw_g := gw 994 (by decide +kernel) rfl
theorem kf12_105 : Cond.fieldLink RX12 105 (TX12 14).1 (TX12 14).2.1 (TX12 14).2.2.1 ∈ lw_g := gw 995 (by decide +kernel) rfl
theorem kf12_181 : Cond.fieldLink RX12 181 (TX12 15).1 (TX12 15).2.1 (TX12 15).2.2.1 ∈ lw_g := gw 996 (by decide +kernel) rfl
theorem kf12_25 : Cond.fieldLink RX12 25 (TX12 16).1 (TX12 16).2.1 (TX12 16).2.2.1 ∈ lw_g := gw 997 (by decide +kernel) rfl
theorem kf12_178 : Cond.fieldLink RX12 178 (TX12 17).1 (TX12 17).2.1 (TX12 17).2.2.1 ∈ lw_g := gw 998 (by decide +kernel) rfl
theorem kf12_29 : Cond.fieldLink RX12 29 (TX12 18).1 (TX12 18).2.1 (TX12 18).2.2.1 ∈ lw_g := gw 999 (by decide +kernel) rfl
theorem kf12_175 : Cond.fieldLink RX12 175 (TX12 19).1 (TX12 19).2.1 (TX12 19).2.2.1 ∈ lw_g := gw 1000 (by decide +kernel) rfl
theorem kf12_32 : Cond.fieldLink RX12 32 (TX12 20).1 (TX12 20).2.1 (TX12 20).2.2.1 ∈ lw_g := gw 1001 (by decide +kernel) rfl
theorem kf12_35 : Cond.fieldLink RX12 35 (TX12 21).1 (TX12 21).2.1 (TX12 21).2.2.1 ∈ lw_g := gw 1002 (by decide +kernel) rfl
theorem kf12_38 : Cond.fieldLink RX12 38 (TX12 22).1 (TX12 22).2.1 (TX12 22).2.2.1 ∈ lw_g := gw 1003 (by decide +kernel) rfl
theorem kf12_41 : Cond.fieldLink RX12 41 (TX12 23).1 (TX12 23).2.1 (TX12 23).2.2.1 ∈ lw_g := gw 1004 (by decide +kernel) rfl
theorem kf12_44 : Cond.fieldLink RX12 44 (TX12 24).1 (TX12 24).2.1 (TX12 24).2.2.1 ∈ lw_g := gw 1005 (by decide +kernel) rfl
theorem kf12_47 : Cond.fieldLink RX12 47 (TX12 25).1 (TX12 25).2.1 (TX12 25).2.2.1 ∈ lw_g := gw 1006 (by decide +kernel) rfl
theorem kf12_226 : Cond.fieldLink RX12 226 (TX12 26).1 (TX12 26).2.1 (TX12 26).2.2.1 ∈ lw_g := gw 1007 (by decide +kernel) rfl
theorem kf12_244 : Cond.fieldLink RX12 244 (TX12 27).1 (TX12 27).2.1 (TX12 27).2.2.1 ∈ lw_g := gw 1008 (by decide +kernel) rfl
theorem kf12_232 : Cond.fieldLink RX12 232 (TX12 28).1 (TX12 28).2.1 (TX12 28).2.2.1 ∈ lw_g := gw 1009 (by decide +kernel) rfl
theorem kf12_238 : Cond.fieldLink RX12 238 (TX12 29).1 (TX12 29).2.1 (TX12 29).2.2.1 ∈ lw_g := gw 1010 (by decide +kernel) rfl
theorem kc12_55 : Cond.constant RX12 55 (-1000000001) ∈ lw_g := gw 1079 (by decide +kernel) rfl
theorem kc12_50 : Cond.constant RX12 50 (-1000000000) ∈ lw_g := gw 1084 (by decide +kernel) rfl
theorem kc12_60 : Cond.constant RX12 60 (-1000000003) ∈ lw_g := gw 1085 (by decide +kernel) rfl
theorem kc12_75 : Cond.constant RX12 75 (-1000000004) ∈ lw_g := gw 1114 (by decide +kernel) rfl
theorem kc12_95 : Cond.constant RX12 95 (-1000000005) ∈ lw_g := gw 1212 (by decide +kernel) rfl
theorem kc12_206 : Cond.constant RX12 206 (1103515245) ∈ lw_g := gw 1286 (by decide +kernel) rfl
theorem kc12_213 : Cond.constant RX12 213 (-1000000002) ∈ lw_g := gw 1299 (by decide +kernel) rfl
theorem vw12_in : SW RX12 51 yX12_in cX12_in 3 (some .boolean) 3 := ⟨gw 1078 (by decide +kernel) rfl, gw 1076 (by decide +kernel) rfl, gw 1077 (by decide +kernel) rfl, gw 96 (by decide +kernel) rfl, by decide +kernel, by decide⟩
theorem vw12_errs : VW RX12 56 yX12_errs cX12_errs 2 (some .int) 1 := ⟨gw 1083 (by decide +kernel) rfl, gw 1080 (by decide +kernel) rfl, gw 1082 (by decide +kernel) rfl, gw 42 (by decide +kernel) rfl, gw 96 (by decide +kernel) rfl, by decide +kernel, by decide⟩
theorem vw12_held : SW RX12 162 yX12_held cX12_held 3 (some .int) 3 := ⟨gw 1188 (by decide +kernel) rfl, gw 1186 (by decide +kernel) rfl, gw 1187 (by decide +kernel) rfl, gw 96 (by decide +kernel) rfl, by decide +kernel, by decide⟩
theorem vw12_moveAll : VW RX12 171 yX12_moveAll cX12_moveAll 4 (Option.none : Option Jvm.ClassFile.FieldType) 2 := ⟨gw 1249 (by decide +kernel) rfl, gw 1246 (by decide +kernel) rfl, gw 1248 (by decide +kernel) rfl, gw 66 (by decide +kernel) rfl, gw 96 (by decide +kernel) rfl, by decide +kernel, by decide⟩
theorem vw12_bits : SW RX12 217 yX12_bits cX12_bits 3 (some .int) 1 := ⟨gw 1314 (by decide +kernel) rfl, gw 1312 (by decide +kernel) rfl, gw 1313 (by decide +kernel) rfl, gw 96 (by decide +kernel) rfl, by decide +kernel, by decide⟩
theorem vw12_its : VW RX12 69 yX12_its cX12_its 3 (some .int) 2 := ⟨gw 1109 (by decide +kernel) rfl, gw 1106 (by decide +kernel) rfl, gw 1108 (by decide +kernel) rfl, gw 46 (by decide +kernel) rfl, gw 96 (by decide +kernel) rfl, by decide +kernel, by decide⟩
theorem vw12_gets : VW RX12 76 yX12_gets cX12_gets 4 (Option.none : Option Jvm.ClassFile.FieldType) 3 := ⟨gw 1118 (by decide +kernel) rfl, gw 1115 (by decide +kernel) rfl, gw 1117 (by decide +kernel) rfl, gw 47 (by decide +kernel) rfl, gw 96 (by decide +kernel) rfl, by decide +kernel, by decide⟩
theorem vw12_isCell : VW RX12 65 yX12_isCell cX12_isCell 2 (some .boolean) 1 := ⟨gw 1097 (by decide +kernel) rfl, gw 1094 (by decide +kernel) rfl, gw 1096 (by decide +kernel) rfl, gw 44 (by decide +kernel) rfl, gw 96 (by decide +kernel) rfl, by decide +kernel, by decide⟩
theorem vw12_isPerson : VW RX12 80 yX12_isPerson cX12_isPerson 2 (some .boolean) 1 := ⟨gw 1126 (by decide +kernel) rfl, gw 1123 (by decide +kernel) rfl, gw 1125 (by decide +kernel) rfl, gw 48 (by decide +kernel) rfl, gw 96 (by decide +kernel) rfl, by decide +kernel, by decide⟩
theorem vw12_isWrong : VW RX12 96 yX12_isWrong cX12_isWrong 2 (some .boolean) 1 := ⟨gw 1224 (by decide +kernel) rfl, gw 1221 (by decide +kernel) rfl, gw 1223 (by decide +kernel) rfl, gw 65 (by decide +kernel) rfl, gw 96 (by decide +kernel) rfl, by decide +kernel, by decide⟩
theorem vw12_becomes : VW RX12 61 yX12_becomes cX12_becomes 4 (some .int) 2 := ⟨gw 1089 (by decide +kernel) rfl, gw 1086 (by decide +kernel) rfl, gw 1088 (by decide +kernel) rfl, gw 43 (by decide +kernel) rfl, gw 96 (by decide +kernel) rfl, by decide +kernel, by decide⟩
theorem vw12_whoIsAt : VW RX12 72 yX12_whoIsAt cX12_whoIsAt 4 (some .int) 1 := ⟨gw 1105 (by decide +kernel) rfl, gw 1102 (by decide +kernel) rfl, gw 1104 (by decide +kernel) rfl, gw 45 (by decide +kernel) rfl, gw 96 (by decide +kernel) rfl, by decide +kernel, by decide⟩
theorem vw12_above : SW RX12 92 yX12_above cX12_above 1 (some .int) 1 := ⟨gw 1211 (by decide +kernel) rfl, gw 1209 (by decide +kernel) rfl, gw 1210 (by decide +kernel) rfl, gw 96 (by decide +kernel) rfl, by decide +kernel, by decide⟩
theorem vw12_byteAt : VW RX12 112 yX12_byteAt cX12_byteAt 2 (some .int) 1 := ⟨gw 1170 (by decide +kernel) rfl, gw 1167 (by decide +kernel) rfl, gw 1169 (by decide +kernel) rfl, gw 59 (by decide +kernel) rfl, gw 96 (by decide +kernel) rfl, by decide +kernel, by decide⟩
theorem vw12_isDigit : SW RX12 115 yX12_isDigit cX12_isDigit 1 (some .boolean) 1 := ⟨gw 1173 (by decide +kernel) rfl, gw 1171 (by decide +kernel) rfl, gw 1172 (by decide +kernel) rfl, gw 96 (by decide +kernel) rfl, by decide +kernel, by decide⟩
theorem vw12_fails : VW RX12 118 yX12_fails cX12_fails 1 (some .int) 0 := ⟨gw 1185 (by decide +kernel) rfl, gw 1182 (by decide +kernel) rfl, gw 1184 (by decide +kernel) rfl, gw 62 (by decide +kernel) rfl, gw 96 (by decide +kernel) rfl, by decide +kernel, by decide⟩
theorem vw12_number : VW RX12 131 yX12_number cX12_number 3 (some .int) 0 := ⟨gw 1177 (by decide +kernel) rfl, gw 1174 (by decide +kernel) rfl, gw 1176 (by decide +kernel) rfl, gw 60 (by decide +kernel) rfl, gw 96 (by decide +kernel) rfl, by decide +kernel, by decide⟩
theorem vw12_named : VW RX12 134 yX12_named cX12_named 5 (some .int) 1 := ⟨gw 1181 (by decide +kernel) rfl, gw 1178 (by decide +kernel) rfl, gw 1180 (by decide +kernel) rfl, gw 61 (by decide +kernel) rfl, gw 96 (by decide +kernel) rfl, by decide +kernel, by decide⟩
theorem vw12_factor : VW RX12 140 yX12_factor cX12_factor 3 (some .int) 0 := ⟨gw 1166 (by decide +kernel) rfl, gw 1163 (by decide +kernel) rfl, gw 1165 (by decide +kernel) rfl, gw 58 (by decide +kernel) rfl, gw 96 (by decide +kernel) rfl, by decide +kernel, by decide⟩
theorem vw12_product : VW RX12 146 yX12_product cX12_product 4 (some .int) 0 := ⟨gw 1162 (by decide +kernel) rfl, gw 1159 (by decide +kernel) rfl, gw 1161 (by decide +kernel) rfl, gw 57 (by decide +kernel) rfl, gw 96 (by decide +kernel) rfl, by decide +kernel, by decide⟩
theorem vw12_sum : VW RX12 149 yX12_sum cX12_sum 4 (some .int) 0 := ⟨gw 1158 (by decide +kernel) rfl, gw 1155 (by decide +kernel) rfl, gw 1157 (by decide +kernel) rfl, gw 56 (by decide +kernel) rfl, gw 96 (by decide +kernel) rfl, by decide +kernel, by decide⟩
theorem vw12_compared : VW RX12 152 yX12_compared cX12_compared 5 (some .int) 0 := ⟨gw 1154 (by decide +kernel) rfl, gw 1151 (by decide +kernel) rfl, gw 1153 (by decide +kernel) rfl, gw 55 (by decide +kernel) rfl, gw 96 (by decide +kernel) rfl, by decide +kernel, by decide⟩
theorem vw12_both : VW RX12 155 yX12_both cX12_both 3 (some .int) 0 := ⟨gw 1150 (by decide +kernel) rfl, gw 1147 (by decide +kernel) rfl, gw 1149 (by decide +kernel) rfl, gw 54 (by decide +kernel) rfl, gw 96 (by decide +kernel) rfl, by decide +kernel, by decide⟩
theorem vw12_whole : VW RX12 143 yX12_whole cX12_whole 3 (some .int) 0 := ⟨gw 1146 (by decide +kernel) rfl, gw 1143 (by decide +kernel) rfl, gw 1145 (by decide +kernel) rfl, gw 53 (by decide +kernel) rfl, gw 96 (by decide +kernel) rfl, by decide +kernel, by decide⟩
theorem vw12_walks : VW RX12 158 yX12_walks cX12_walks 6 (some .int) 4 := ⟨gw 1142 (by decide +kernel) rfl, gw 1139 (by decide +kernel) rfl, gw 1141 (by decide +kernel) rfl, gw 52 (by decide +kernel) rfl, gw 96 (by decide +kernel) rfl, by decide +kernel, by decide⟩
theorem vw12_lawOf : VW RX12 166 yX12_lawOf cX12_lawOf 6 (some .int) 4 := ⟨gw 1138 (by decide +kernel) rfl, gw 1135 (by decide +kernel) rfl, gw 1137 (by decide +kernel) rfl, gw 51 (by decide +kernel) rfl, gw 96 (by decide +kernel) rfl, by decide +kernel, by decide⟩
theorem vw12_weighs : VW RX12 83 yX12_weighs cX12_weighs 4 (some .int) 1 := ⟨gw 1130 (by decide +kernel) rfl, gw 1127 (by decide +kernel) rfl, gw 1129 (by decide +kernel) rfl, gw 49 (by decide +kernel) rfl, gw 96 (by decide +kernel) rfl, by decide +kernel, by decide⟩
theorem vw12_besides : VW RX12 184 yX12_besides cX12_besides 4 (some .int) 1 := ⟨gw 1192 (by decide +kernel) rfl, gw 1189 (by decide +kernel) rfl, gw 1191 (by decide +kernel) rfl, gw 63 (by decide +kernel) rfl, gw 96 (by decide +kernel) rfl, by decide +kernel, by decide⟩
theorem vw12_bends : VW RX12 86 yX12_bends cX12_bends 5 (some .int) 1 := ⟨gw 1134 (by decide +kernel) rfl, gw 1131 (by decide +kernel) rfl, gw 1133 (by decide +kernel) rfl, gw 50 (by decide +kernel) rfl, gw 96 (by decide +kernel) rfl, by decide +kernel, by decide⟩
theorem vw12_eats : VW RX12 89 yX12_eats cX12_eats 2 (some .int) 1 := ⟨gw 1196 (by decide +kernel) rfl, gw 1193 (by decide +kernel) rfl, gw 1195 (by decide +kernel) rfl, gw 64 (by decide +kernel) rfl, gw 96 (by decide +kernel) rfl, by decide +kernel, by decide⟩
theorem vw12_picks : VW RX12 187 yX12_picks cX12_picks 5 (Option.none : Option Jvm.ClassFile.FieldType) 1 := ⟨gw 1265 (by decide +kernel) rfl, gw 1262 (by decide +kernel) rfl, gw 1264 (by decide +kernel) rfl, gw 69 (by decide +kernel) rfl, gw 96 (by decide +kernel) rfl, by decide +kernel, by decide⟩
theorem vw12_goesOn : VW RX12 191 yX12_goesOn cX12_goesOn 3 (Option.none : Option Jvm.ClassFile.FieldType) 1 := ⟨gw 1269 (by decide +kernel) rfl, gw 1266 (by decide +kernel) rfl, gw 1268 (by decide +kernel) rfl, gw 70 (by decide +kernel) rfl, gw 96 (by decide +kernel) rfl, by decide +kernel, by decide⟩
theorem vw12_eatsNow : VW RX12 194 yX12_eatsNow cX12_eatsNow 2 (Option.none : Option Jvm.ClassFile.FieldType) 1 := ⟨gw 1273 (by decide +kernel) rfl, gw 1270 (by decide +kernel) rfl, gw 1272 (by decide +kernel) rfl, gw 71 (by decide +kernel) rfl, gw 96 (by decide +kernel) rfl, by decide +kernel, by decide⟩
theorem vw12_oneDawn : VW RX12 197 yX12_oneDawn cX12_oneDawn 2 (Option.none : Option Jvm.ClassFile.FieldType) 0 := ⟨gw 1261 (by decide +kernel) rfl, gw 1258 (by decide +kernel) rfl, gw 1260 (by decide +kernel) rfl, gw 68 (by decide +kernel) rfl, gw 96 (by decide +kernel) rfl, by decide +kernel, by decide⟩
theorem vw12_passes : VW RX12 200 yX12_passes cX12_passes 3 (Option.none : Option Jvm.ClassFile.FieldType) 1 := ⟨gw 1257 (by decide +kernel) rfl, gw 1254 (by decide +kernel) rfl, gw 1256 (by decide +kernel) rfl, gw 67 (by decide +kernel) rfl, gw 96 (by decide +kernel) rfl, by decide +kernel, by decide⟩
theorem vw12_sumOf : VW RX12 203 yX12_sumOf cX12_sumOf 4 (some .int) 1 := ⟨gw 1277 (by decide +kernel) rfl, gw 1274 (by decide +kernel) rfl, gw 1276 (by decide +kernel) rfl, gw 72 (by decide +kernel) rfl, gw 96 (by decide +kernel) rfl, by decide +kernel, by decide⟩
theorem vw12_drawn : VW RX12 207 yX12_drawn cX12_drawn 2 (some .int) 1 := ⟨gw 1285 (by decide +kernel) rfl, gw 1282 (by decide +kernel) rfl, gw 1284 (by decide +kernel) rfl, gw 73 (by decide +kernel) rfl, gw 96 (by decide +kernel) rfl, by decide +kernel, by decide⟩
theorem vw12_hungrier : VW RX12 210 yX12_hungrier cX12_hungrier 3 (some .int) 0 := ⟨gw 1298 (by decide +kernel) rfl, gw 1295 (by decide +kernel) rfl, gw 1297 (by decide +kernel) rfl, gw 74 (by decide +kernel) rfl, gw 96 (by decide +kernel) rfl, by decide +kernel, by decide⟩
theorem vw12_starving : VW RX12 214 yX12_starving cX12_starving 3 (some .int) 1 := ⟨gw 1307 (by decide +kernel) rfl, gw 1304 (by decide +kernel) rfl, gw 1306 (by decide +kernel) rfl, gw 75 (by decide +kernel) rfl, gw 96 (by decide +kernel) rfl, by decide +kernel, by decide⟩
theorem vw12_isSheet : SW RX12 220 yX12_isSheet cX12_isSheet 1 (some .boolean) 1 := ⟨gw 1329 (by decide +kernel) rfl, gw 1327 (by decide +kernel) rfl, gw 1328 (by decide +kernel) rfl, gw 96 (by decide +kernel) rfl, by decide +kernel, by decide⟩
theorem vw12_divisor : SW RX12 223 yX12_divisor cX12_divisor 5 (some .int) 2 := ⟨gw 1340 (by decide +kernel) rfl, gw 1338 (by decide +kernel) rfl, gw 1339 (by decide +kernel) rfl, gw 96 (by decide +kernel) rfl, by decide +kernel, by decide⟩
theorem vw12_ran : VW RX12 229 yX12_ran cX12_ran 2 (Option.none : Option Jvm.ClassFile.FieldType) 1 := ⟨gw 1356 (by decide +kernel) rfl, gw 1353 (by decide +kernel) rfl, gw 1355 (by decide +kernel) rfl, gw 77 (by decide +kernel) rfl, gw 96 (by decide +kernel) rfl, by decide +kernel, by decide⟩
theorem vw12_bowsIn : VW RX12 235 yX12_bowsIn cX12_bowsIn 3 (some .int) 2 := ⟨gw 1352 (by decide +kernel) rfl, gw 1349 (by decide +kernel) rfl, gw 1351 (by decide +kernel) rfl, gw 76 (by decide +kernel) rfl, gw 96 (by decide +kernel) rfl, by decide +kernel, by decide⟩
theorem vw12_sighsIn : VW RX12 241 yX12_sighsIn cX12_sighsIn 3 (some .int) 2 := ⟨gw 1364 (by decide +kernel) rfl, gw 1361 (by decide +kernel) rfl, gw 1363 (by decide +kernel) rfl, gw 79 (by decide +kernel) rfl, gw 96 (by decide +kernel) rfl, by decide +kernel, by decide⟩
theorem vw12_picksIn : VW RX12 247 yX12_picksIn cX12_picksIn 4 (some .int) 2 := ⟨gw 1360 (by decide +kernel) rfl, gw 1357 (by decide +kernel) rfl, gw 1359 (by decide +kernel) rfl, gw 78 (by decide +kernel) rfl, gw 96 (by decide +kernel) rfl, by decide +kernel, by decide⟩
theorem vw12_standsIn : VW RX12 250 yX12_standsIn cX12_standsIn 4 (some .int) 2 := ⟨gw 1368 (by decide +kernel) rfl, gw 1365 (by decide +kernel) rfl, gw 1367 (by decide +kernel) rfl, gw 80 (by decide +kernel) rfl, gw 96 (by decide +kernel) rfl, by decide +kernel, by decide⟩
theorem vw12_narrow : SW RX12 253 yX12_narrow cX12_narrow 2 (some .int) 2 := ⟨gw 1383 (by decide +kernel) rfl, gw 1381 (by decide +kernel) rfl, gw 1382 (by decide +kernel) rfl, gw 96 (by decide +kernel) rfl, by decide +kernel, by decide⟩
theorem vw12_earsOfAll : VW RX12 262 yX12_earsOfAll cX12_earsOfAll 3 (some .int) 0 := ⟨gw 1419 (by decide +kernel) rfl, gw 1416 (by decide +kernel) rfl, gw 1418 (by decide +kernel) rfl, gw 81 (by decide +kernel) rfl, gw 96 (by decide +kernel) rfl, by decide +kernel, by decide⟩

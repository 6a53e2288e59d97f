/-! The reference: voices. -/
def trW (tr : Nat → Int32) (t : Nat) : List Int32 → Nat → Int32
  | [] => tr
  | b :: l => trW (upd tr t b) (t + 1) l
def vB (k : Nat) (n x : Int32) : Int32 := if k = 1 ∨ k = 4 then (x + n) * nI 3 else x + n
def vBt (k : Nat) : List Int32 := if k = 1 ∨ k = 4 then [nI 20, nI 10] else [nI 10]
def vS (k : Nat) (n m x : Int32) : Int32 := if k = 3 then -(x - m) else if k = 6 then -(x - m) ^^^ n else x - m
def vSt (k : Nat) : List Int32 := if k = 3 then [nI 40, nI 12] else if k = 6 then [nI 70, nI 40, nI 12] else [nI 12]
def vP (k v : Nat) (n m x : Int32) : Int32 := if k = 2 then vB v n x * nI 2 - vS v n m (nI 1) else if k = 5 then vB v n (x + nI 1) * nI 2 - vS v n m (nI 1) else vB v n x * nI 2
def vPt (k v : Nat) : List Int32 := if k = 2 then nI 30 :: nI 11 :: (vBt v ++ vSt v) else if k = 5 then nI 60 :: nI 30 :: nI 11 :: (vBt v ++ vSt v) else nI 11 :: vBt v
def vT (k v : Nat) (n m x : Int32) : Int32 := if k = 4 then (vP v v n m x ^^^ vS v n m x) - vB v n (nI 2) else if k = 6 then vP v v n m x - (vP v v n m x ^^^ vS v n m x) else vP v v n m x ^^^ vS v n m x
def vTt (k v : Nat) : List Int32 := if k = 4 then nI 50 :: nI 13 :: (vPt v v ++ vSt v ++ vBt v) else if k = 6 then nI 71 :: (vPt v v ++ nI 13 :: (vPt v v ++ vSt v)) else nI 13 :: (vPt v v ++ vSt v)
def vocF (k a : Nat) (n m x : Int32) : Int32 := if a = 0 then vB k n x else if a = 1 then vP k k n m x else if a = 2 then vS k n m x else vT k k n m x
def vocT (k a : Nat) : List Int32 := if a = 0 then vBt k else if a = 1 then vPt k k else if a = 2 then vSt k else vTt k k
def sp_voice (V row kept tried bf fd pk bo so sh mv tr : Nat → Int32) (p act x : Int32) : Int32 × RS := if inn p 0 (row 3 - 1) ∧ inn act (nI 0) (nI 3) then (vocF (tN (row (30 + 6 * tN p + 0))) (tN act) p (row (30 + 6 * tN p + 1)) x, sR (upd V 26 (nI (vocT (tN (row (30 + 6 * tN p + 0))) (tN act)).length)) row kept tried bf fd pk bo so sh mv (trW tr 0 (vocT (tN (row (30 + 6 * tN p + 0))) (tN act)))) else er V row kept tried bf fd pk bo so sh mv tr (-1000000001) 1

theorem dX12_ran_0 : decode cX12_ran 0 = .ok (.aload_n 0, 1) := by decide +kernel
theorem dX12_ran_1 : decode cX12_ran 1 = .ok (.getfield 226, 3) := by decide +kernel
theorem dX12_ran_4 : decode cX12_ran 4 = .ok (.bipush 40, 2) := by decide +kernel
theorem dX12_ran_6 : decode cX12_ran 6 = .ok (.if_icmp .ge 23, 3) := by decide +kernel
theorem dX12_ran_9 : decode cX12_ran 9 = .ok (.aload_n 0, 1) := by decide +kernel
theorem dX12_ran_10 : decode cX12_ran 10 = .ok (.getfield 47, 3) := by decide +kernel
theorem dX12_ran_13 : decode cX12_ran 13 = .ok (.aload_n 0, 1) := by decide +kernel
theorem dX12_ran_14 : decode cX12_ran 14 = .ok (.getfield 226, 3) := by decide +kernel
theorem dX12_ran_17 : decode cX12_ran 17 = .ok (.iload_n 1, 1) := by decide +kernel
theorem dX12_ran_18 : decode cX12_ran 18 = .ok (.iastore, 1) := by decide +kernel
theorem dX12_ran_19 : decode cX12_ran 19 = .ok (.aload_n 0, 1) := by decide +kernel
theorem dX12_ran_20 : decode cX12_ran 20 = .ok (.dup, 1) := by decide +kernel
theorem dX12_ran_21 : decode cX12_ran 21 = .ok (.getfield 226, 3) := by decide +kernel
theorem dX12_ran_24 : decode cX12_ran 24 = .ok (.iconst 1, 1) := by decide +kernel
theorem dX12_ran_25 : decode cX12_ran 25 = .ok (.iadd, 1) := by decide +kernel
theorem dX12_ran_26 : decode cX12_ran 26 = .ok (.putfield 226, 3) := by decide +kernel
theorem dX12_ran_29 : decode cX12_ran 29 = .ok (.return_, 1) := by decide +kernel
set_option maxHeartbeats 2000000 in
set_option maxRecDepth 20000 in
theorem c_ran {l : Launch} {D : va_G} {cI cG cW : ClassId} {o : Nat} {q : Nat → Nat} {V row kept tried bf fd pk bo so sh mv tr : Nat → Int32} (b : Int32) (t : Nat) (ht : t < 40) (h26 : V 26 = nI t) : Cv l yX12_ran cX12_ran 2 none 0 D (tyL cI cG cW) (wR cI o q) [.ref o, .int b] (sR V row kept tried bf fd pk bo so sh mv tr) (fun τ => τ = sR (upd V 26 (nI (t + 1))) row kept tried bf fd pk bo so sh mv (upd tr t b)) := by
  refine Cv.of (by decide) (Nat.le_of_ble_eq_true rfl) ?_
  intro p_ e_ s_ m_ b_ M_ c_ A_ C
  replace C : Cx _ _ _ _ _ _ _ _ RX12 _ _ _ _ := C
  refine j_L [0, 1] [(0, .ref o), (1, .int b)] rfl ?_
  refine j_aload_n C 0 dX12_ran_0 rfl ?_
  refine rg C (v := .int (V 26)) 26 (by decide) kf12_226 rfl dX12_ran_1 ?_
  refine j_v (nI t) h26 ?_
  refine j_bipush C (v := (nI 40)) dX12_ran_4 (by decide) ?_
  refine j_icmp_ge C 29 dX12_ran_6 (by decide) (fun c6 => ?_) (fun c6 => ?_)
  · rw [nI_leI (by omega) (by omega)] at c6
    exfalso; omega
  · rw [nI_leI (by omega) (by omega)] at c6
    refine j_aload_n C 0 dX12_ran_9 rfl ?_
    refine rg C (v := .ref (q 25)) 25 (by decide) kf12_47 rfl dX12_ran_10 ?_
    refine j_aload_n C 0 dX12_ran_13 rfl ?_
    refine rg C (v := .int (V 26)) 26 (by decide) kf12_226 rfl dX12_ran_14 ?_
    refine j_v (nI t) h26 ?_
    refine j_iload_n C 1 dX12_ran_17 rfl ?_
    refine rs_tr C t rfl (by omega) dX12_ran_18 ?_
    refine j_aload_n C 0 dX12_ran_19 rfl ?_
    refine j_dup C dX12_ran_20 rfl ?_
    refine rg C (v := .int (V 26)) 26 (by decide) kf12_226 rfl dX12_ran_21 ?_
    refine j_v (nI t) h26 ?_
    refine j_iconst C (v := (nI 1)) dX12_ran_24 (by decide) ?_
    refine j_iaddN C dX12_ran_25 ?_
    refine rp_26 C kf12_226 dX12_ran_26 ?_
    refine j_vret C dX12_ran_29 ?_
    exact rfl
theorem dX12_bowsIn_0 : decode cX12_bowsIn 0 = .ok (.iload_n 1, 1) := by decide +kernel
theorem dX12_bowsIn_1 : decode cX12_bowsIn 1 = .ok (.ifCond .ne 16, 3) := by decide +kernel
theorem dX12_bowsIn_4 : decode cX12_bowsIn 4 = .ok (.aload_n 0, 1) := by decide +kernel
theorem dX12_bowsIn_5 : decode cX12_bowsIn 5 = .ok (.bipush 10, 2) := by decide +kernel
theorem dX12_bowsIn_7 : decode cX12_bowsIn 7 = .ok (.invokevirtual 229, 3) := by decide +kernel
theorem dX12_bowsIn_10 : decode cX12_bowsIn 10 = .ok (.iload_n 2, 1) := by decide +kernel
theorem dX12_bowsIn_11 : decode cX12_bowsIn 11 = .ok (.aload_n 0, 1) := by decide +kernel
theorem dX12_bowsIn_12 : decode cX12_bowsIn 12 = .ok (.getfield 232, 3) := by decide +kernel
theorem dX12_bowsIn_15 : decode cX12_bowsIn 15 = .ok (.iadd, 1) := by decide +kernel
theorem dX12_bowsIn_16 : decode cX12_bowsIn 16 = .ok (.ireturn, 1) := by decide +kernel
theorem dX12_bowsIn_17 : decode cX12_bowsIn 17 = .ok (.iload_n 1, 1) := by decide +kernel
theorem dX12_bowsIn_18 : decode cX12_bowsIn 18 = .ok (.iconst 1, 1) := by decide +kernel
theorem dX12_bowsIn_19 : decode cX12_bowsIn 19 = .ok (.if_icmp .ne 18, 3) := by decide +kernel
theorem dX12_bowsIn_22 : decode cX12_bowsIn 22 = .ok (.aload_n 0, 1) := by decide +kernel
theorem dX12_bowsIn_23 : decode cX12_bowsIn 23 = .ok (.bipush 20, 2) := by decide +kernel
theorem dX12_bowsIn_25 : decode cX12_bowsIn 25 = .ok (.invokevirtual 229, 3) := by decide +kernel
theorem dX12_bowsIn_28 : decode cX12_bowsIn 28 = .ok (.aload_n 0, 1) := by decide +kernel
theorem dX12_bowsIn_29 : decode cX12_bowsIn 29 = .ok (.iconst 0, 1) := by decide +kernel
theorem dX12_bowsIn_30 : decode cX12_bowsIn 30 = .ok (.iload_n 2, 1) := by decide +kernel
theorem dX12_bowsIn_31 : decode cX12_bowsIn 31 = .ok (.invokevirtual 235, 3) := by decide +kernel
theorem dX12_bowsIn_34 : decode cX12_bowsIn 34 = .ok (.iconst 3, 1) := by decide +kernel
theorem dX12_bowsIn_35 : decode cX12_bowsIn 35 = .ok (.imul, 1) := by decide +kernel
theorem dX12_bowsIn_36 : decode cX12_bowsIn 36 = .ok (.ireturn, 1) := by decide +kernel
theorem dX12_bowsIn_37 : decode cX12_bowsIn 37 = .ok (.aload_n 0, 1) := by decide +kernel
theorem dX12_bowsIn_38 : decode cX12_bowsIn 38 = .ok (.iload_n 1, 1) := by decide +kernel
theorem dX12_bowsIn_39 : decode cX12_bowsIn 39 = .ok (.invokestatic 92, 3) := by decide +kernel
theorem dX12_bowsIn_42 : decode cX12_bowsIn 42 = .ok (.iload_n 2, 1) := by decide +kernel
theorem dX12_bowsIn_43 : decode cX12_bowsIn 43 = .ok (.invokevirtual 235, 3) := by decide +kernel
theorem dX12_bowsIn_46 : decode cX12_bowsIn 46 = .ok (.ireturn, 1) := by decide +kernel
set_option maxHeartbeats 2000000 in
set_option maxRecDepth 20000 in
theorem c_bowsIn_0 {l : Launch} {D : va_G} {cI cG cW : ClassId} {o : Nat} {q : Nat → Nat} {V row kept tried bf fd pk bo so sh mv tr : Nat → Int32} {x : Int32} (t : Nat) (ht : t + 1 ≤ 40) (h26 : V 26 = nI t) {n m : Int32} (h28 : V 28 = n) (h29 : V 29 = m) : Ci l yX12_bowsIn cX12_bowsIn 3 (some .int) 2 D (tyL cI cG cW) (wR cI o q) [.ref o, .int (nI 0), .int x] (sR V row kept tried bf fd pk bo so sh mv tr) (fun r τ => r = vB 0 n x ∧ τ = sR (upd V 26 (nI (t + 1))) row kept tried bf fd pk bo so sh mv (trW tr t (vBt 0))) := by
  refine Ci.of (by decide) (Nat.le_of_ble_eq_true rfl) ?_
  intro p_ e_ s_ m_ b_ M_ c_ A_ C
  replace C : Cx _ _ _ _ _ _ _ _ RX12 _ _ _ _ := C
  refine j_L [0, 1, 2] [(0, .ref o), (1, .int (nI 0)), (2, .int x)] rfl ?_
  refine j_iload_n C 1 dX12_bowsIn_0 rfl ?_
  refine j_if_ne C 17 dX12_bowsIn_1 (by decide) (fun c1 => ?_) (fun c1 => ?_)
  · rw [show (0 : Int32) = nI 0 from rfl, nI_eq (by omega) (by omega)] at c1
    exfalso; omega
  · rw [show (0 : Int32) = nI 0 from rfl, nI_eq (by omega) (by omega)] at c1
    refine j_aload_n C 0 dX12_bowsIn_4 rfl ?_
    refine j_bipush C (v := (nI 10)) dX12_bowsIn_5 (by decide) ?_
    refine j_callVv (As := [.int (nI 10)]) (rest := []) C vw12_ran (c_ran (V := V) (nI 10) t (by omega) h26) rRcv rfl (Nat.le_of_ble_eq_true rfl) dX12_bowsIn_7 (by decide) ?_
    rintro _ rfl
    refine j_iload_n C 2 dX12_bowsIn_10 rfl ?_
    refine j_aload_n C 0 dX12_bowsIn_11 rfl ?_
    refine rg C (v := .int ((upd V 26 (nI (t + 1))) 28)) 28 (by decide) kf12_232 rfl dX12_bowsIn_12 ?_
    refine j_v n (by rw [pk_un (by omega)]; exact h28) ?_
    refine j_iadd C dX12_bowsIn_15 ?_
    refine j_iret C dX12_bowsIn_16 ?_
    exact ⟨rfl, rfl⟩
set_option maxHeartbeats 2000000 in
set_option maxRecDepth 20000 in
theorem c_bowsIn_1 {l : Launch} {D : va_G} {cI cG cW : ClassId} {o : Nat} {q : Nat → Nat} {V row kept tried bf fd pk bo so sh mv tr : Nat → Int32} {x : Int32} (t : Nat) (ht : t + 2 ≤ 40) (h26 : V 26 = nI t) {n m : Int32} (h28 : V 28 = n) (h29 : V 29 = m) : Ci l yX12_bowsIn cX12_bowsIn 3 (some .int) 3 D (tyL cI cG cW) (wR cI o q) [.ref o, .int (nI 1), .int x] (sR V row kept tried bf fd pk bo so sh mv tr) (fun r τ => r = vB 1 n x ∧ τ = sR (upd V 26 (nI (t + 2))) row kept tried bf fd pk bo so sh mv (trW tr t (vBt 1))) := by
  refine Ci.of (by decide) (Nat.le_of_ble_eq_true rfl) ?_
  intro p_ e_ s_ m_ b_ M_ c_ A_ C
  replace C : Cx _ _ _ _ _ _ _ _ RX12 _ _ _ _ := C
  refine j_L [0, 1, 2] [(0, .ref o), (1, .int (nI 1)), (2, .int x)] rfl ?_
  refine j_iload_n C 1 dX12_bowsIn_0 rfl ?_
  refine j_if_ne C 17 dX12_bowsIn_1 (by decide) (fun c1 => ?_) (fun c1 => ?_)
  · rw [show (0 : Int32) = nI 0 from rfl, nI_eq (by omega) (by omega)] at c1
    refine j_iload_n C 1 dX12_bowsIn_17 rfl ?_
    refine j_iconst C (v := (nI 1)) dX12_bowsIn_18 (by decide) ?_
    refine j_icmp_ne C 37 dX12_bowsIn_19 (by decide) (fun c19 => ?_) (fun c19 => ?_)
    · rw [nI_eq (by omega) (by omega)] at c19
      exfalso; omega
    · rw [nI_eq (by omega) (by omega)] at c19
      refine j_aload_n C 0 dX12_bowsIn_22 rfl ?_
      refine j_bipush C (v := (nI 20)) dX12_bowsIn_23 (by decide) ?_
      refine j_callVv (As := [.int (nI 20)]) (rest := []) C vw12_ran (c_ran (V := V) (nI 20) t (by omega) h26) rRcv rfl (Nat.le_of_ble_eq_true rfl) dX12_bowsIn_25 (by decide) ?_
      rintro _ rfl
      refine j_aload_n C 0 dX12_bowsIn_28 rfl ?_
      refine j_iconst C (v := (nI 0)) dX12_bowsIn_29 (by decide) ?_
      refine j_iload_n C 2 dX12_bowsIn_30 rfl ?_
      refine j_callV (As := [.int (nI 0), .int x]) (rest := []) C vw12_bowsIn (c_bowsIn_0 (V := upd V 26 (nI (t + 1))) (n := n) (m := m) (t + 1) (by omega) pk_us (by rw [pk_un (by omega)]; exact h28) (by rw [pk_un (by omega)]; exact h29)) rRcv rfl (Nat.le_of_ble_eq_true rfl) dX12_bowsIn_31 (by decide) ?_
      rintro _ _ ⟨rfl, rfl⟩
      rw [upd_upd]
      refine j_iconst C (v := (nI 3)) dX12_bowsIn_34 (by decide) ?_
      refine j_imul C dX12_bowsIn_35 ?_
      refine j_iret C dX12_bowsIn_36 ?_
      exact ⟨rfl, rfl⟩
  · rw [show (0 : Int32) = nI 0 from rfl, nI_eq (by omega) (by omega)] at c1
    exfalso; omega
set_option maxHeartbeats 2000000 in
set_option maxRecDepth 20000 in
theorem c_bowsIn_2 {l : Launch} {D : va_G} {cI cG cW : ClassId} {o : Nat} {q : Nat → Nat} {V row kept tried bf fd pk bo so sh mv tr : Nat → Int32} {x : Int32} (t : Nat) (ht : t + 1 ≤ 40) (h26 : V 26 = nI t) {n m : Int32} (h28 : V 28 = n) (h29 : V 29 = m) : Ci l yX12_bowsIn cX12_bowsIn 3 (some .int) 3 D (tyL cI cG cW) (wR cI o q) [.ref o, .int (nI 2), .int x] (sR V row kept tried bf fd pk bo so sh mv tr) (fun r τ => r = vB 2 n x ∧ τ = sR (upd V 26 (nI (t + 1))) row kept tried bf fd pk bo so sh mv (trW tr t (vBt 2))) := by
  refine Ci.of (by decide) (Nat.le_of_ble_eq_true rfl) ?_
  intro p_ e_ s_ m_ b_ M_ c_ A_ C
  replace C : Cx _ _ _ _ _ _ _ _ RX12 _ _ _ _ := C
  refine j_L [0, 1, 2] [(0, .ref o), (1, .int (nI 2)), (2, .int x)] rfl ?_
  refine j_iload_n C 1 dX12_bowsIn_0 rfl ?_
  refine j_if_ne C 17 dX12_bowsIn_1 (by decide) (fun c1 => ?_) (fun c1 => ?_)
  · rw [show (0 : Int32) = nI 0 from rfl, nI_eq (by omega) (by omega)] at c1
    refine j_iload_n C 1 dX12_bowsIn_17 rfl ?_
    refine j_iconst C (v := (nI 1)) dX12_bowsIn_18 (by decide) ?_
    refine j_icmp_ne C 37 dX12_bowsIn_19 (by decide) (fun c19 => ?_) (fun c19 => ?_)
    · rw [nI_eq (by omega) (by omega)] at c19
      refine j_aload_n C 0 dX12_bowsIn_37 rfl ?_
      refine j_iload_n C 1 dX12_bowsIn_38 rfl ?_
      refine j_callS (As := [.int (nI 2)]) (rest := [.ref o]) C vw12_above (c_above 2 (by decide)) rfl (Nat.le_of_ble_eq_true rfl) dX12_bowsIn_39 (by decide) ?_
      rintro _ _ ⟨rfl, rfl⟩
      refine j_v (nI 0) (by decide) ?_
      refine j_iload_n C 2 dX12_bowsIn_42 rfl ?_
      refine j_callV (As := [.int (nI 0), .int x]) (rest := []) C vw12_bowsIn (c_bowsIn_0 (V := V) (n := n) (m := m) t (by omega) h26 h28 h29) rRcv rfl (Nat.le_of_ble_eq_true rfl) dX12_bowsIn_43 (by decide) ?_
      rintro _ _ ⟨rfl, rfl⟩
      refine j_iret C dX12_bowsIn_46 ?_
      exact ⟨rfl, rfl⟩
    · rw [nI_eq (by omega) (by omega)] at c19
      exfalso; omega
  · rw [show (0 : Int32) = nI 0 from rfl, nI_eq (by omega) (by omega)] at c1
    exfalso; omega
set_option maxHeartbeats 2000000 in
set_option maxRecDepth 20000 in
theorem c_bowsIn_3 {l : Launch} {D : va_G} {cI cG cW : ClassId} {o : Nat} {q : Nat → Nat} {V row kept tried bf fd pk bo so sh mv tr : Nat → Int32} {x : Int32} (t : Nat) (ht : t + 1 ≤ 40) (h26 : V 26 = nI t) {n m : Int32} (h28 : V 28 = n) (h29 : V 29 = m) : Ci l yX12_bowsIn cX12_bowsIn 3 (some .int) 3 D (tyL cI cG cW) (wR cI o q) [.ref o, .int (nI 3), .int x] (sR V row kept tried bf fd pk bo so sh mv tr) (fun r τ => r = vB 3 n x ∧ τ = sR (upd V 26 (nI (t + 1))) row kept tried bf fd pk bo so sh mv (trW tr t (vBt 3))) := by
  refine Ci.of (by decide) (Nat.le_of_ble_eq_true rfl) ?_
  intro p_ e_ s_ m_ b_ M_ c_ A_ C
  replace C : Cx _ _ _ _ _ _ _ _ RX12 _ _ _ _ := C
  refine j_L [0, 1, 2] [(0, .ref o), (1, .int (nI 3)), (2, .int x)] rfl ?_
  refine j_iload_n C 1 dX12_bowsIn_0 rfl ?_
  refine j_if_ne C 17 dX12_bowsIn_1 (by decide) (fun c1 => ?_) (fun c1 => ?_)
  · rw [show (0 : Int32) = nI 0 from rfl, nI_eq (by omega) (by omega)] at c1
    refine j_iload_n C 1 dX12_bowsIn_17 rfl ?_
    refine j_iconst C (v := (nI 1)) dX12_bowsIn_18 (by decide) ?_
    refine j_icmp_ne C 37 dX12_bowsIn_19 (by decide) (fun c19 => ?_) (fun c19 => ?_)
    · rw [nI_eq (by omega) (by omega)] at c19
      refine j_aload_n C 0 dX12_bowsIn_37 rfl ?_
      refine j_iload_n C 1 dX12_bowsIn_38 rfl ?_
      refine j_callS (As := [.int (nI 3)]) (rest := [.ref o]) C vw12_above (c_above 3 (by decide)) rfl (Nat.le_of_ble_eq_true rfl) dX12_bowsIn_39 (by decide) ?_
      rintro _ _ ⟨rfl, rfl⟩
      refine j_v (nI 0) (by decide) ?_
      refine j_iload_n C 2 dX12_bowsIn_42 rfl ?_
      refine j_callV (As := [.int (nI 0), .int x]) (rest := []) C vw12_bowsIn (c_bowsIn_0 (V := V) (n := n) (m := m) t (by omega) h26 h28 h29) rRcv rfl (Nat.le_of_ble_eq_true rfl) dX12_bowsIn_43 (by decide) ?_
      rintro _ _ ⟨rfl, rfl⟩
      refine j_iret C dX12_bowsIn_46 ?_
      exact ⟨rfl, rfl⟩
    · rw [nI_eq (by omega) (by omega)] at c19
      exfalso; omega
  · rw [show (0 : Int32) = nI 0 from rfl, nI_eq (by omega) (by omega)] at c1
    exfalso; omega
set_option maxHeartbeats 2000000 in
set_option maxRecDepth 20000 in
theorem c_bowsIn_4 {l : Launch} {D : va_G} {cI cG cW : ClassId} {o : Nat} {q : Nat → Nat} {V row kept tried bf fd pk bo so sh mv tr : Nat → Int32} {x : Int32} (t : Nat) (ht : t + 2 ≤ 40) (h26 : V 26 = nI t) {n m : Int32} (h28 : V 28 = n) (h29 : V 29 = m) : Ci l yX12_bowsIn cX12_bowsIn 3 (some .int) 4 D (tyL cI cG cW) (wR cI o q) [.ref o, .int (nI 4), .int x] (sR V row kept tried bf fd pk bo so sh mv tr) (fun r τ => r = vB 4 n x ∧ τ = sR (upd V 26 (nI (t + 2))) row kept tried bf fd pk bo so sh mv (trW tr t (vBt 4))) := by
  refine Ci.of (by decide) (Nat.le_of_ble_eq_true rfl) ?_
  intro p_ e_ s_ m_ b_ M_ c_ A_ C
  replace C : Cx _ _ _ _ _ _ _ _ RX12 _ _ _ _ := C
  refine j_L [0, 1, 2] [(0, .ref o), (1, .int (nI 4)), (2, .int x)] rfl ?_
  refine j_iload_n C 1 dX12_bowsIn_0 rfl ?_
  refine j_if_ne C 17 dX12_bowsIn_1 (by decide) (fun c1 => ?_) (fun c1 => ?_)
  · rw [show (0 : Int32) = nI 0 from rfl, nI_eq (by omega) (by omega)] at c1
    refine j_iload_n C 1 dX12_bowsIn_17 rfl ?_
    refine j_iconst C (v := (nI 1)) dX12_bowsIn_18 (by decide) ?_
    refine j_icmp_ne C 37 dX12_bowsIn_19 (by decide) (fun c19 => ?_) (fun c19 => ?_)
    · rw [nI_eq (by omega) (by omega)] at c19
      refine j_aload_n C 0 dX12_bowsIn_37 rfl ?_
      refine j_iload_n C 1 dX12_bowsIn_38 rfl ?_
      refine j_callS (As := [.int (nI 4)]) (rest := [.ref o]) C vw12_above (c_above 4 (by decide)) rfl (Nat.le_of_ble_eq_true rfl) dX12_bowsIn_39 (by decide) ?_
      rintro _ _ ⟨rfl, rfl⟩
      refine j_v (nI 1) (by decide) ?_
      refine j_iload_n C 2 dX12_bowsIn_42 rfl ?_
      refine j_callV (As := [.int (nI 1), .int x]) (rest := []) C vw12_bowsIn (c_bowsIn_1 (V := V) (n := n) (m := m) t (by omega) h26 h28 h29) rRcv rfl (Nat.le_of_ble_eq_true rfl) dX12_bowsIn_43 (by decide) ?_
      rintro _ _ ⟨rfl, rfl⟩
      refine j_iret C dX12_bowsIn_46 ?_
      exact ⟨rfl, rfl⟩
    · rw [nI_eq (by omega) (by omega)] at c19
      exfalso; omega
  · rw [show (0 : Int32) = nI 0 from rfl, nI_eq (by omega) (by omega)] at c1
    exfalso; omega
set_option maxHeartbeats 2000000 in
set_option maxRecDepth 20000 in
theorem c_bowsIn_5 {l : Launch} {D : va_G} {cI cG cW : ClassId} {o : Nat} {q : Nat → Nat} {V row kept tried bf fd pk bo so sh mv tr : Nat → Int32} {x : Int32} (t : Nat) (ht : t + 1 ≤ 40) (h26 : V 26 = nI t) {n m : Int32} (h28 : V 28 = n) (h29 : V 29 = m) : Ci l yX12_bowsIn cX12_bowsIn 3 (some .int) 4 D (tyL cI cG cW) (wR cI o q) [.ref o, .int (nI 5), .int x] (sR V row kept tried bf fd pk bo so sh mv tr) (fun r τ => r = vB 5 n x ∧ τ = sR (upd V 26 (nI (t + 1))) row kept tried bf fd pk bo so sh mv (trW tr t (vBt 5))) := by
  refine Ci.of (by decide) (Nat.le_of_ble_eq_true rfl) ?_
  intro p_ e_ s_ m_ b_ M_ c_ A_ C
  replace C : Cx _ _ _ _ _ _ _ _ RX12 _ _ _ _ := C
  refine j_L [0, 1, 2] [(0, .ref o), (1, .int (nI 5)), (2, .int x)] rfl ?_
  refine j_iload_n C 1 dX12_bowsIn_0 rfl ?_
  refine j_if_ne C 17 dX12_bowsIn_1 (by decide) (fun c1 => ?_) (fun c1 => ?_)
  · rw [show (0 : Int32) = nI 0 from rfl, nI_eq (by omega) (by omega)] at c1
    refine j_iload_n C 1 dX12_bowsIn_17 rfl ?_
    refine j_iconst C (v := (nI 1)) dX12_bowsIn_18 (by decide) ?_
    refine j_icmp_ne C 37 dX12_bowsIn_19 (by decide) (fun c19 => ?_) (fun c19 => ?_)
    · rw [nI_eq (by omega) (by omega)] at c19
      refine j_aload_n C 0 dX12_bowsIn_37 rfl ?_
      refine j_iload_n C 1 dX12_bowsIn_38 rfl ?_
      refine j_callS (As := [.int (nI 5)]) (rest := [.ref o]) C vw12_above (c_above 5 (by decide)) rfl (Nat.le_of_ble_eq_true rfl) dX12_bowsIn_39 (by decide) ?_
      rintro _ _ ⟨rfl, rfl⟩
      refine j_v (nI 2) (by decide) ?_
      refine j_iload_n C 2 dX12_bowsIn_42 rfl ?_
      refine j_callV (As := [.int (nI 2), .int x]) (rest := []) C vw12_bowsIn (c_bowsIn_2 (V := V) (n := n) (m := m) t (by omega) h26 h28 h29) rRcv rfl (Nat.le_of_ble_eq_true rfl) dX12_bowsIn_43 (by decide) ?_
      rintro _ _ ⟨rfl, rfl⟩
      refine j_iret C dX12_bowsIn_46 ?_
      exact ⟨rfl, rfl⟩
    · rw [nI_eq (by omega) (by omega)] at c19
      exfalso; omega
  · rw [show (0 : Int32) = nI 0 from rfl, nI_eq (by omega) (by omega)] at c1
    exfalso; omega
set_option maxHeartbeats 2000000 in
set_option maxRecDepth 20000 in
theorem c_bowsIn_6 {l : Launch} {D : va_G} {cI cG cW : ClassId} {o : Nat} {q : Nat → Nat} {V row kept tried bf fd pk bo so sh mv tr : Nat → Int32} {x : Int32} (t : Nat) (ht : t + 1 ≤ 40) (h26 : V 26 = nI t) {n m : Int32} (h28 : V 28 = n) (h29 : V 29 = m) : Ci l yX12_bowsIn cX12_bowsIn 3 (some .int) 4 D (tyL cI cG cW) (wR cI o q) [.ref o, .int (nI 6), .int x] (sR V row kept tried bf fd pk bo so sh mv tr) (fun r τ => r = vB 6 n x ∧ τ = sR (upd V 26 (nI (t + 1))) row kept tried bf fd pk bo so sh mv (trW tr t (vBt 6))) := by
  refine Ci.of (by decide) (Nat.le_of_ble_eq_true rfl) ?_
  intro p_ e_ s_ m_ b_ M_ c_ A_ C
  replace C : Cx _ _ _ _ _ _ _ _ RX12 _ _ _ _ := C
  refine j_L [0, 1, 2] [(0, .ref o), (1, .int (nI 6)), (2, .int x)] rfl ?_
  refine j_iload_n C 1 dX12_bowsIn_0 rfl ?_
  refine j_if_ne C 17 dX12_bowsIn_1 (by decide) (fun c1 => ?_) (fun c1 => ?_)
  · rw [show (0 : Int32) = nI 0 from rfl, nI_eq (by omega) (by omega)] at c1
    refine j_iload_n C 1 dX12_bowsIn_17 rfl ?_
    refine j_iconst C (v := (nI 1)) dX12_bowsIn_18 (by decide) ?_
    refine j_icmp_ne C 37 dX12_bowsIn_19 (by decide) (fun c19 => ?_) (fun c19 => ?_)
    · rw [nI_eq (by omega) (by omega)] at c19
      refine j_aload_n C 0 dX12_bowsIn_37 rfl ?_
      refine j_iload_n C 1 dX12_bowsIn_38 rfl ?_
      refine j_callS (As := [.int (nI 6)]) (rest := [.ref o]) C vw12_above (c_above 6 (by decide)) rfl (Nat.le_of_ble_eq_true rfl) dX12_bowsIn_39 (by decide) ?_
      rintro _ _ ⟨rfl, rfl⟩
      refine j_v (nI 3) (by decide) ?_
      refine j_iload_n C 2 dX12_bowsIn_42 rfl ?_
      refine j_callV (As := [.int (nI 3), .int x]) (rest := []) C vw12_bowsIn (c_bowsIn_3 (V := V) (n := n) (m := m) t (by omega) h26 h28 h29) rRcv rfl (Nat.le_of_ble_eq_true rfl) dX12_bowsIn_43 (by decide) ?_
      rintro _ _ ⟨rfl, rfl⟩
      refine j_iret C dX12_bowsIn_46 ?_
      exact ⟨rfl, rfl⟩
    · rw [nI_eq (by omega) (by omega)] at c19
      exfalso; omega
  · rw [show (0 : Int32) = nI 0 from rfl, nI_eq (by omega) (by omega)] at c1
    exfalso; omega
theorem dX12_sighsIn_0 : decode cX12_sighsIn 0 = .ok (.iload_n 1, 1) := by decide +kernel
theorem dX12_sighsIn_1 : decode cX12_sighsIn 1 = .ok (.ifCond .ne 16, 3) := by decide +kernel
theorem dX12_sighsIn_4 : decode cX12_sighsIn 4 = .ok (.aload_n 0, 1) := by decide +kernel
theorem dX12_sighsIn_5 : decode cX12_sighsIn 5 = .ok (.bipush 12, 2) := by decide +kernel
theorem dX12_sighsIn_7 : decode cX12_sighsIn 7 = .ok (.invokevirtual 229, 3) := by decide +kernel
theorem dX12_sighsIn_10 : decode cX12_sighsIn 10 = .ok (.iload_n 2, 1) := by decide +kernel
theorem dX12_sighsIn_11 : decode cX12_sighsIn 11 = .ok (.aload_n 0, 1) := by decide +kernel
theorem dX12_sighsIn_12 : decode cX12_sighsIn 12 = .ok (.getfield 238, 3) := by decide +kernel
theorem dX12_sighsIn_15 : decode cX12_sighsIn 15 = .ok (.isub, 1) := by decide +kernel
theorem dX12_sighsIn_16 : decode cX12_sighsIn 16 = .ok (.ireturn, 1) := by decide +kernel
theorem dX12_sighsIn_17 : decode cX12_sighsIn 17 = .ok (.iload_n 1, 1) := by decide +kernel
theorem dX12_sighsIn_18 : decode cX12_sighsIn 18 = .ok (.iconst 3, 1) := by decide +kernel
theorem dX12_sighsIn_19 : decode cX12_sighsIn 19 = .ok (.if_icmp .ne 17, 3) := by decide +kernel
theorem dX12_sighsIn_22 : decode cX12_sighsIn 22 = .ok (.aload_n 0, 1) := by decide +kernel
theorem dX12_sighsIn_23 : decode cX12_sighsIn 23 = .ok (.bipush 40, 2) := by decide +kernel
theorem dX12_sighsIn_25 : decode cX12_sighsIn 25 = .ok (.invokevirtual 229, 3) := by decide +kernel
theorem dX12_sighsIn_28 : decode cX12_sighsIn 28 = .ok (.aload_n 0, 1) := by decide +kernel
theorem dX12_sighsIn_29 : decode cX12_sighsIn 29 = .ok (.iconst 0, 1) := by decide +kernel
theorem dX12_sighsIn_30 : decode cX12_sighsIn 30 = .ok (.iload_n 2, 1) := by decide +kernel
theorem dX12_sighsIn_31 : decode cX12_sighsIn 31 = .ok (.invokevirtual 241, 3) := by decide +kernel
theorem dX12_sighsIn_34 : decode cX12_sighsIn 34 = .ok (.ineg, 1) := by decide +kernel
theorem dX12_sighsIn_35 : decode cX12_sighsIn 35 = .ok (.ireturn, 1) := by decide +kernel
theorem dX12_sighsIn_36 : decode cX12_sighsIn 36 = .ok (.iload_n 1, 1) := by decide +kernel
theorem dX12_sighsIn_37 : decode cX12_sighsIn 37 = .ok (.bipush 6, 2) := by decide +kernel
theorem dX12_sighsIn_39 : decode cX12_sighsIn 39 = .ok (.if_icmp .ne 21, 3) := by decide +kernel
theorem dX12_sighsIn_42 : decode cX12_sighsIn 42 = .ok (.aload_n 0, 1) := by decide +kernel
theorem dX12_sighsIn_43 : decode cX12_sighsIn 43 = .ok (.bipush 70, 2) := by decide +kernel
theorem dX12_sighsIn_45 : decode cX12_sighsIn 45 = .ok (.invokevirtual 229, 3) := by decide +kernel
theorem dX12_sighsIn_48 : decode cX12_sighsIn 48 = .ok (.aload_n 0, 1) := by decide +kernel
theorem dX12_sighsIn_49 : decode cX12_sighsIn 49 = .ok (.iconst 3, 1) := by decide +kernel
theorem dX12_sighsIn_50 : decode cX12_sighsIn 50 = .ok (.iload_n 2, 1) := by decide +kernel
theorem dX12_sighsIn_51 : decode cX12_sighsIn 51 = .ok (.invokevirtual 241, 3) := by decide +kernel
theorem dX12_sighsIn_54 : decode cX12_sighsIn 54 = .ok (.aload_n 0, 1) := by decide +kernel
theorem dX12_sighsIn_55 : decode cX12_sighsIn 55 = .ok (.getfield 232, 3) := by decide +kernel
theorem dX12_sighsIn_58 : decode cX12_sighsIn 58 = .ok (.ixor, 1) := by decide +kernel
theorem dX12_sighsIn_59 : decode cX12_sighsIn 59 = .ok (.ireturn, 1) := by decide +kernel
theorem dX12_sighsIn_60 : decode cX12_sighsIn 60 = .ok (.aload_n 0, 1) := by decide +kernel
theorem dX12_sighsIn_61 : decode cX12_sighsIn 61 = .ok (.iload_n 1, 1) := by decide +kernel
theorem dX12_sighsIn_62 : decode cX12_sighsIn 62 = .ok (.invokestatic 92, 3) := by decide +kernel
theorem dX12_sighsIn_65 : decode cX12_sighsIn 65 = .ok (.iload_n 2, 1) := by decide +kernel
theorem dX12_sighsIn_66 : decode cX12_sighsIn 66 = .ok (.invokevirtual 241, 3) := by decide +kernel
theorem dX12_sighsIn_69 : decode cX12_sighsIn 69 = .ok (.ireturn, 1) := by decide +kernel
set_option maxHeartbeats 2000000 in
set_option maxRecDepth 20000 in
theorem c_sighsIn_0 {l : Launch} {D : va_G} {cI cG cW : ClassId} {o : Nat} {q : Nat → Nat} {V row kept tried bf fd pk bo so sh mv tr : Nat → Int32} {x : Int32} (t : Nat) (ht : t + 1 ≤ 40) (h26 : V 26 = nI t) {n m : Int32} (h28 : V 28 = n) (h29 : V 29 = m) : Ci l yX12_sighsIn cX12_sighsIn 3 (some .int) 2 D (tyL cI cG cW) (wR cI o q) [.ref o, .int (nI 0), .int x] (sR V row kept tried bf fd pk bo so sh mv tr) (fun r τ => r = vS 0 n m x ∧ τ = sR (upd V 26 (nI (t + 1))) row kept tried bf fd pk bo so sh mv (trW tr t (vSt 0))) := by
  refine Ci.of (by decide) (Nat.le_of_ble_eq_true rfl) ?_
  intro p_ e_ s_ m_ b_ M_ c_ A_ C
  replace C : Cx _ _ _ _ _ _ _ _ RX12 _ _ _ _ := C
  refine j_L [0, 1, 2] [(0, .ref o), (1, .int (nI 0)), (2, .int x)] rfl ?_
  refine j_iload_n C 1 dX12_sighsIn_0 rfl ?_
  refine j_if_ne C 17 dX12_sighsIn_1 (by decide) (fun c1 => ?_) (fun c1 => ?_)
  · rw [show (0 : Int32) = nI 0 from rfl, nI_eq (by omega) (by omega)] at c1
    exfalso; omega
  · rw [show (0 : Int32) = nI 0 from rfl, nI_eq (by omega) (by omega)] at c1
    refine j_aload_n C 0 dX12_sighsIn_4 rfl ?_
    refine j_bipush C (v := (nI 12)) dX12_sighsIn_5 (by decide) ?_
    refine j_callVv (As := [.int (nI 12)]) (rest := []) C vw12_ran (c_ran (V := V) (nI 12) t (by omega) h26) rRcv rfl (Nat.le_of_ble_eq_true rfl) dX12_sighsIn_7 (by decide) ?_
    rintro _ rfl
    refine j_iload_n C 2 dX12_sighsIn_10 rfl ?_
    refine j_aload_n C 0 dX12_sighsIn_11 rfl ?_
    refine rg C (v := .int ((upd V 26 (nI (t + 1))) 29)) 29 (by decide) kf12_238 rfl dX12_sighsIn_12 ?_
    refine j_v m (by rw [pk_un (by omega)]; exact h29) ?_
    refine j_isub C dX12_sighsIn_15 ?_
    refine j_iret C dX12_sighsIn_16 ?_
    exact ⟨rfl, rfl⟩
set_option maxHeartbeats 2000000 in
set_option maxRecDepth 20000 in
theorem c_sighsIn_1 {l : Launch} {D : va_G} {cI cG cW : ClassId} {o : Nat} {q : Nat → Nat} {V row kept tried bf fd pk bo so sh mv tr : Nat → Int32} {x : Int32} (t : Nat) (ht : t + 1 ≤ 40) (h26 : V 26 = nI t) {n m : Int32} (h28 : V 28 = n) (h29 : V 29 = m) : Ci l yX12_sighsIn cX12_sighsIn 3 (some .int) 3 D (tyL cI cG cW) (wR cI o q) [.ref o, .int (nI 1), .int x] (sR V row kept tried bf fd pk bo so sh mv tr) (fun r τ => r = vS 1 n m x ∧ τ = sR (upd V 26 (nI (t + 1))) row kept tried bf fd pk bo so sh mv (trW tr t (vSt 1))) := by
  refine Ci.of (by decide) (Nat.le_of_ble_eq_true rfl) ?_
  intro p_ e_ s_ m_ b_ M_ c_ A_ C
  replace C : Cx _ _ _ _ _ _ _ _ RX12 _ _ _ _ := C
  refine j_L [0, 1, 2] [(0, .ref o), (1, .int (nI 1)), (2, .int x)] rfl ?_
  refine j_iload_n C 1 dX12_sighsIn_0 rfl ?_
  refine j_if_ne C 17 dX12_sighsIn_1 (by decide) (fun c1 => ?_) (fun c1 => ?_)
  · rw [show (0 : Int32) = nI 0 from rfl, nI_eq (by omega) (by omega)] at c1
    refine j_iload_n C 1 dX12_sighsIn_17 rfl ?_
    refine j_iconst C (v := (nI 3)) dX12_sighsIn_18 (by decide) ?_
    refine j_icmp_ne C 36 dX12_sighsIn_19 (by decide) (fun c19 => ?_) (fun c19 => ?_)
    · rw [nI_eq (by omega) (by omega)] at c19
      refine j_iload_n C 1 dX12_sighsIn_36 rfl ?_
      refine j_bipush C (v := (nI 6)) dX12_sighsIn_37 (by decide) ?_
      refine j_icmp_ne C 60 dX12_sighsIn_39 (by decide) (fun c39 => ?_) (fun c39 => ?_)
      · rw [nI_eq (by omega) (by omega)] at c39
        refine j_aload_n C 0 dX12_sighsIn_60 rfl ?_
        refine j_iload_n C 1 dX12_sighsIn_61 rfl ?_
        refine j_callS (As := [.int (nI 1)]) (rest := [.ref o]) C vw12_above (c_above 1 (by decide)) rfl (Nat.le_of_ble_eq_true rfl) dX12_sighsIn_62 (by decide) ?_
        rintro _ _ ⟨rfl, rfl⟩
        refine j_v (nI 0) (by decide) ?_
        refine j_iload_n C 2 dX12_sighsIn_65 rfl ?_
        refine j_callV (As := [.int (nI 0), .int x]) (rest := []) C vw12_sighsIn (c_sighsIn_0 (V := V) (n := n) (m := m) t (by omega) h26 h28 h29) rRcv rfl (Nat.le_of_ble_eq_true rfl) dX12_sighsIn_66 (by decide) ?_
        rintro _ _ ⟨rfl, rfl⟩
        refine j_iret C dX12_sighsIn_69 ?_
        exact ⟨rfl, rfl⟩
      · rw [nI_eq (by omega) (by omega)] at c39
        exfalso; omega
    · rw [nI_eq (by omega) (by omega)] at c19
      exfalso; omega
  · rw [show (0 : Int32) = nI 0 from rfl, nI_eq (by omega) (by omega)] at c1
    exfalso; omega
set_option maxHeartbeats 2000000 in
set_option maxRecDepth 20000 in
theorem c_sighsIn_2 {l : Launch} {D : va_G} {cI cG cW : ClassId} {o : Nat} {q : Nat → Nat} {V row kept tried bf fd pk bo so sh mv tr : Nat → Int32} {x : Int32} (t : Nat) (ht : t + 1 ≤ 40) (h26 : V 26 = nI t) {n m : Int32} (h28 : V 28 = n) (h29 : V 29 = m) : Ci l yX12_sighsIn cX12_sighsIn 3 (some .int) 3 D (tyL cI cG cW) (wR cI o q) [.ref o, .int (nI 2), .int x] (sR V row kept tried bf fd pk bo so sh mv tr) (fun r τ => r = vS 2 n m x ∧ τ = sR (upd V 26 (nI (t + 1))) row kept tried bf fd pk bo so sh mv (trW tr t (vSt 2))) := by
  refine Ci.of (by decide) (Nat.le_of_ble_eq_true rfl) ?_
  intro p_ e_ s_ m_ b_ M_ c_ A_ C
  replace C : Cx _ _ _ _ _ _ _ _ RX12 _ _ _ _ := C
  refine j_L [0, 1, 2] [(0, .ref o), (1, .int (nI 2)), (2, .int x)] rfl ?_
  refine j_iload_n C 1 dX12_sighsIn_0 rfl ?_
  refine j_if_ne C 17 dX12_sighsIn_1 (by decide) (fun c1 => ?_) (fun c1 => ?_)
  · rw [show (0 : Int32) = nI 0 from rfl, nI_eq (by omega) (by omega)] at c1
    refine j_iload_n C 1 dX12_sighsIn_17 rfl ?_
    refine j_iconst C (v := (nI 3)) dX12_sighsIn_18 (by decide) ?_
    refine j_icmp_ne C 36 dX12_sighsIn_19 (by decide) (fun c19 => ?_) (fun c19 => ?_)
    · rw [nI_eq (by omega) (by omega)] at c19
      refine j_iload_n C 1 dX12_sighsIn_36 rfl ?_
      refine j_bipush C (v := (nI 6)) dX12_sighsIn_37 (by decide) ?_
      refine j_icmp_ne C 60 dX12_sighsIn_39 (by decide) (fun c39 => ?_) (fun c39 => ?_)
      · rw [nI_eq (by omega) (by omega)] at c39
        refine j_aload_n C 0 dX12_sighsIn_60 rfl ?_
        refine j_iload_n C 1 dX12_sighsIn_61 rfl ?_
        refine j_callS (As := [.int (nI 2)]) (rest := [.ref o]) C vw12_above (c_above 2 (by decide)) rfl (Nat.le_of_ble_eq_true rfl) dX12_sighsIn_62 (by decide) ?_
        rintro _ _ ⟨rfl, rfl⟩
        refine j_v (nI 0) (by decide) ?_
        refine j_iload_n C 2 dX12_sighsIn_65 rfl ?_
        refine j_callV (As := [.int (nI 0), .int x]) (rest := []) C vw12_sighsIn (c_sighsIn_0 (V := V) (n := n) (m := m) t (by omega) h26 h28 h29) rRcv rfl (Nat.le_of_ble_eq_true rfl) dX12_sighsIn_66 (by decide) ?_
        rintro _ _ ⟨rfl, rfl⟩
        refine j_iret C dX12_sighsIn_69 ?_
        exact ⟨rfl, rfl⟩
      · rw [nI_eq (by omega) (by omega)] at c39
        exfalso; omega
    · rw [nI_eq (by omega) (by omega)] at c19
      exfalso; omega
  · rw [show (0 : Int32) = nI 0 from rfl, nI_eq (by omega) (by omega)] at c1
    exfalso; omega
set_option maxHeartbeats 2000000 in
set_option maxRecDepth 20000 in
theorem c_sighsIn_3 {l : Launch} {D : va_G} {cI cG cW : ClassId} {o : Nat} {q : Nat → Nat} {V row kept tried bf fd pk bo so sh mv tr : Nat → Int32} {x : Int32} (t : Nat) (ht : t + 2 ≤ 40) (h26 : V 26 = nI t) {n m : Int32} (h28 : V 28 = n) (h29 : V 29 = m) : Ci l yX12_sighsIn cX12_sighsIn 3 (some .int) 3 D (tyL cI cG cW) (wR cI o q) [.ref o, .int (nI 3), .int x] (sR V row kept tried bf fd pk bo so sh mv tr) (fun r τ => r = vS 3 n m x ∧ τ = sR (upd V 26 (nI (t + 2))) row kept tried bf fd pk bo so sh mv (trW tr t (vSt 3))) := by
  refine Ci.of (by decide) (Nat.le_of_ble_eq_true rfl) ?_
  intro p_ e_ s_ m_ b_ M_ c_ A_ C
  replace C : Cx _ _ _ _ _ _ _ _ RX12 _ _ _ _ := C
  refine j_L [0, 1, 2] [(0, .ref o), (1, .int (nI 3)), (2, .int x)] rfl ?_
  refine j_iload_n C 1 dX12_sighsIn_0 rfl ?_
  refine j_if_ne C 17 dX12_sighsIn_1 (by decide) (fun c1 => ?_) (fun c1 => ?_)
  · rw [show (0 : Int32) = nI 0 from rfl, nI_eq (by omega) (by omega)] at c1
    refine j_iload_n C 1 dX12_sighsIn_17 rfl ?_
    refine j_iconst C (v := (nI 3)) dX12_sighsIn_18 (by decide) ?_
    refine j_icmp_ne C 36 dX12_sighsIn_19 (by decide) (fun c19 => ?_) (fun c19 => ?_)
    · rw [nI_eq (by omega) (by omega)] at c19
      exfalso; omega
    · rw [nI_eq (by omega) (by omega)] at c19
      refine j_aload_n C 0 dX12_sighsIn_22 rfl ?_
      refine j_bipush C (v := (nI 40)) dX12_sighsIn_23 (by decide) ?_
      refine j_callVv (As := [.int (nI 40)]) (rest := []) C vw12_ran (c_ran (V := V) (nI 40) t (by omega) h26) rRcv rfl (Nat.le_of_ble_eq_true rfl) dX12_sighsIn_25 (by decide) ?_
      rintro _ rfl
      refine j_aload_n C 0 dX12_sighsIn_28 rfl ?_
      refine j_iconst C (v := (nI 0)) dX12_sighsIn_29 (by decide) ?_
      refine j_iload_n C 2 dX12_sighsIn_30 rfl ?_
      refine j_callV (As := [.int (nI 0), .int x]) (rest := []) C vw12_sighsIn (c_sighsIn_0 (V := upd V 26 (nI (t + 1))) (n := n) (m := m) (t + 1) (by omega) pk_us (by rw [pk_un (by omega)]; exact h28) (by rw [pk_un (by omega)]; exact h29)) rRcv rfl (Nat.le_of_ble_eq_true rfl) dX12_sighsIn_31 (by decide) ?_
      rintro _ _ ⟨rfl, rfl⟩
      rw [upd_upd]
      refine j_ineg C dX12_sighsIn_34 ?_
      refine j_iret C dX12_sighsIn_35 ?_
      exact ⟨rfl, rfl⟩
  · rw [show (0 : Int32) = nI 0 from rfl, nI_eq (by omega) (by omega)] at c1
    exfalso; omega
set_option maxHeartbeats 2000000 in
set_option maxRecDepth 20000 in
theorem c_sighsIn_4 {l : Launch} {D : va_G} {cI cG cW : ClassId} {o : Nat} {q : Nat → Nat} {V row kept tried bf fd pk bo so sh mv tr : Nat → Int32} {x : Int32} (t : Nat) (ht : t + 1 ≤ 40) (h26 : V 26 = nI t) {n m : Int32} (h28 : V 28 = n) (h29 : V 29 = m) : Ci l yX12_sighsIn cX12_sighsIn 3 (some .int) 4 D (tyL cI cG cW) (wR cI o q) [.ref o, .int (nI 4), .int x] (sR V row kept tried bf fd pk bo so sh mv tr) (fun r τ => r = vS 4 n m x ∧ τ = sR (upd V 26 (nI (t + 1))) row kept tried bf fd pk bo so sh mv (trW tr t (vSt 4))) := by
  refine Ci.of (by decide) (Nat.le_of_ble_eq_true rfl) ?_
  intro p_ e_ s_ m_ b_ M_ c_ A_ C
  replace C : Cx _ _ _ _ _ _ _ _ RX12 _ _ _ _ := C
  refine j_L [0, 1, 2] [(0, .ref o), (1, .int (nI 4)), (2, .int x)] rfl ?_
  refine j_iload_n C 1 dX12_sighsIn_0 rfl ?_
  refine j_if_ne C 17 dX12_sighsIn_1 (by decide) (fun c1 => ?_) (fun c1 => ?_)
  · rw [show (0 : Int32) = nI 0 from rfl, nI_eq (by omega) (by omega)] at c1
    refine j_iload_n C 1 dX12_sighsIn_17 rfl ?_
    refine j_iconst C (v := (nI 3)) dX12_sighsIn_18 (by decide) ?_
    refine j_icmp_ne C 36 dX12_sighsIn_19 (by decide) (fun c19 => ?_) (fun c19 => ?_)
    · rw [nI_eq (by omega) (by omega)] at c19
      refine j_iload_n C 1 dX12_sighsIn_36 rfl ?_
      refine j_bipush C (v := (nI 6)) dX12_sighsIn_37 (by decide) ?_
      refine j_icmp_ne C 60 dX12_sighsIn_39 (by decide) (fun c39 => ?_) (fun c39 => ?_)
      · rw [nI_eq (by omega) (by omega)] at c39
        refine j_aload_n C 0 dX12_sighsIn_60 rfl ?_
        refine j_iload_n C 1 dX12_sighsIn_61 rfl ?_
        refine j_callS (As := [.int (nI 4)]) (rest := [.ref o]) C vw12_above (c_above 4 (by decide)) rfl (Nat.le_of_ble_eq_true rfl) dX12_sighsIn_62 (by decide) ?_
        rintro _ _ ⟨rfl, rfl⟩
        refine j_v (nI 1) (by decide) ?_
        refine j_iload_n C 2 dX12_sighsIn_65 rfl ?_
        refine j_callV (As := [.int (nI 1), .int x]) (rest := []) C vw12_sighsIn (c_sighsIn_1 (V := V) (n := n) (m := m) t (by omega) h26 h28 h29) rRcv rfl (Nat.le_of_ble_eq_true rfl) dX12_sighsIn_66 (by decide) ?_
        rintro _ _ ⟨rfl, rfl⟩
        refine j_iret C dX12_sighsIn_69 ?_
        exact ⟨rfl, rfl⟩
      · rw [nI_eq (by omega) (by omega)] at c39
        exfalso; omega
    · rw [nI_eq (by omega) (by omega)] at c19
      exfalso; omega
  · rw [show (0 : Int32) = nI 0 from rfl, nI_eq (by omega) (by omega)] at c1
    exfalso; omega
set_option maxHeartbeats 2000000 in
set_option maxRecDepth 20000 in
theorem c_sighsIn_5 {l : Launch} {D : va_G} {cI cG cW : ClassId} {o : Nat} {q : Nat → Nat} {V row kept tried bf fd pk bo so sh mv tr : Nat → Int32} {x : Int32} (t : Nat) (ht : t + 1 ≤ 40) (h26 : V 26 = nI t) {n m : Int32} (h28 : V 28 = n) (h29 : V 29 = m) : Ci l yX12_sighsIn cX12_sighsIn 3 (some .int) 4 D (tyL cI cG cW) (wR cI o q) [.ref o, .int (nI 5), .int x] (sR V row kept tried bf fd pk bo so sh mv tr) (fun r τ => r = vS 5 n m x ∧ τ = sR (upd V 26 (nI (t + 1))) row kept tried bf fd pk bo so sh mv (trW tr t (vSt 5))) := by
  refine Ci.of (by decide) (Nat.le_of_ble_eq_true rfl) ?_
  intro p_ e_ s_ m_ b_ M_ c_ A_ C
  replace C : Cx _ _ _ _ _ _ _ _ RX12 _ _ _ _ := C
  refine j_L [0, 1, 2] [(0, .ref o), (1, .int (nI 5)), (2, .int x)] rfl ?_
  refine j_iload_n C 1 dX12_sighsIn_0 rfl ?_
  refine j_if_ne C 17 dX12_sighsIn_1 (by decide) (fun c1 => ?_) (fun c1 => ?_)
  · rw [show (0 : Int32) = nI 0 from rfl, nI_eq (by omega) (by omega)] at c1
    refine j_iload_n C 1 dX12_sighsIn_17 rfl ?_
    refine j_iconst C (v := (nI 3)) dX12_sighsIn_18 (by decide) ?_
    refine j_icmp_ne C 36 dX12_sighsIn_19 (by decide) (fun c19 => ?_) (fun c19 => ?_)
    · rw [nI_eq (by omega) (by omega)] at c19
      refine j_iload_n C 1 dX12_sighsIn_36 rfl ?_
      refine j_bipush C (v := (nI 6)) dX12_sighsIn_37 (by decide) ?_
      refine j_icmp_ne C 60 dX12_sighsIn_39 (by decide) (fun c39 => ?_) (fun c39 => ?_)
      · rw [nI_eq (by omega) (by omega)] at c39
        refine j_aload_n C 0 dX12_sighsIn_60 rfl ?_
        refine j_iload_n C 1 dX12_sighsIn_61 rfl ?_
        refine j_callS (As := [.int (nI 5)]) (rest := [.ref o]) C vw12_above (c_above 5 (by decide)) rfl (Nat.le_of_ble_eq_true rfl) dX12_sighsIn_62 (by decide) ?_
        rintro _ _ ⟨rfl, rfl⟩
        refine j_v (nI 2) (by decide) ?_
        refine j_iload_n C 2 dX12_sighsIn_65 rfl ?_
        refine j_callV (As := [.int (nI 2), .int x]) (rest := []) C vw12_sighsIn (c_sighsIn_2 (V := V) (n := n) (m := m) t (by omega) h26 h28 h29) rRcv rfl (Nat.le_of_ble_eq_true rfl) dX12_sighsIn_66 (by decide) ?_
        rintro _ _ ⟨rfl, rfl⟩
        refine j_iret C dX12_sighsIn_69 ?_
        exact ⟨rfl, rfl⟩
      · rw [nI_eq (by omega) (by omega)] at c39
        exfalso; omega
    · rw [nI_eq (by omega) (by omega)] at c19
      exfalso; omega
  · rw [show (0 : Int32) = nI 0 from rfl, nI_eq (by omega) (by omega)] at c1
    exfalso; omega
set_option maxHeartbeats 2000000 in
set_option maxRecDepth 20000 in
theorem c_sighsIn_6 {l : Launch} {D : va_G} {cI cG cW : ClassId} {o : Nat} {q : Nat → Nat} {V row kept tried bf fd pk bo so sh mv tr : Nat → Int32} {x : Int32} (t : Nat) (ht : t + 3 ≤ 40) (h26 : V 26 = nI t) {n m : Int32} (h28 : V 28 = n) (h29 : V 29 = m) : Ci l yX12_sighsIn cX12_sighsIn 3 (some .int) 4 D (tyL cI cG cW) (wR cI o q) [.ref o, .int (nI 6), .int x] (sR V row kept tried bf fd pk bo so sh mv tr) (fun r τ => r = vS 6 n m x ∧ τ = sR (upd V 26 (nI (t + 3))) row kept tried bf fd pk bo so sh mv (trW tr t (vSt 6))) := by
  refine Ci.of (by decide) (Nat.le_of_ble_eq_true rfl) ?_
  intro p_ e_ s_ m_ b_ M_ c_ A_ C
  replace C : Cx _ _ _ _ _ _ _ _ RX12 _ _ _ _ := C
  refine j_L [0, 1, 2] [(0, .ref o), (1, .int (nI 6)), (2, .int x)] rfl ?_
  refine j_iload_n C 1 dX12_sighsIn_0 rfl ?_
  refine j_if_ne C 17 dX12_sighsIn_1 (by decide) (fun c1 => ?_) (fun c1 => ?_)
  · rw [show (0 : Int32) = nI 0 from rfl, nI_eq (by omega) (by omega)] at c1
    refine j_iload_n C 1 dX12_sighsIn_17 rfl ?_
    refine j_iconst C (v := (nI 3)) dX12_sighsIn_18 (by decide) ?_
    refine j_icmp_ne C 36 dX12_sighsIn_19 (by decide) (fun c19 => ?_) (fun c19 => ?_)
    · rw [nI_eq (by omega) (by omega)] at c19
      refine j_iload_n C 1 dX12_sighsIn_36 rfl ?_
      refine j_bipush C (v := (nI 6)) dX12_sighsIn_37 (by decide) ?_
      refine j_icmp_ne C 60 dX12_sighsIn_39 (by decide) (fun c39 => ?_) (fun c39 => ?_)
      · rw [nI_eq (by omega) (by omega)] at c39
        exfalso; omega
      · rw [nI_eq (by omega) (by omega)] at c39
        refine j_aload_n C 0 dX12_sighsIn_42 rfl ?_
        refine j_bipush C (v := (nI 70)) dX12_sighsIn_43 (by decide) ?_
        refine j_callVv (As := [.int (nI 70)]) (rest := []) C vw12_ran (c_ran (V := V) (nI 70) t (by omega) h26) rRcv rfl (Nat.le_of_ble_eq_true rfl) dX12_sighsIn_45 (by decide) ?_
        rintro _ rfl
        refine j_aload_n C 0 dX12_sighsIn_48 rfl ?_
        refine j_iconst C (v := (nI 3)) dX12_sighsIn_49 (by decide) ?_
        refine j_iload_n C 2 dX12_sighsIn_50 rfl ?_
        refine j_callV (As := [.int (nI 3), .int x]) (rest := []) C vw12_sighsIn (c_sighsIn_3 (V := upd V 26 (nI (t + 1))) (n := n) (m := m) (t + 1) (by omega) pk_us (by rw [pk_un (by omega)]; exact h28) (by rw [pk_un (by omega)]; exact h29)) rRcv rfl (Nat.le_of_ble_eq_true rfl) dX12_sighsIn_51 (by decide) ?_
        rintro _ _ ⟨rfl, rfl⟩
        rw [upd_upd]
        refine j_aload_n C 0 dX12_sighsIn_54 rfl ?_
        refine rg C (v := .int ((upd V 26 (nI (t + 1 + 2))) 28)) 28 (by decide) kf12_232 rfl dX12_sighsIn_55 ?_
        refine j_v n (by rw [pk_un (by omega)]; exact h28) ?_
        refine j_ixor C dX12_sighsIn_58 ?_
        refine j_iret C dX12_sighsIn_59 ?_
        exact ⟨rfl, rfl⟩
    · rw [nI_eq (by omega) (by omega)] at c19
      exfalso; omega
  · rw [show (0 : Int32) = nI 0 from rfl, nI_eq (by omega) (by omega)] at c1
    exfalso; omega
theorem dX12_picksIn_0 : decode cX12_picksIn 0 = .ok (.iload_n 1, 1) := by decide +kernel
theorem dX12_picksIn_1 : decode cX12_picksIn 1 = .ok (.ifCond .ne 21, 3) := by decide +kernel
theorem dX12_picksIn_4 : decode cX12_picksIn 4 = .ok (.aload_n 0, 1) := by decide +kernel
theorem dX12_picksIn_5 : decode cX12_picksIn 5 = .ok (.bipush 11, 2) := by decide +kernel
theorem dX12_picksIn_7 : decode cX12_picksIn 7 = .ok (.invokevirtual 229, 3) := by decide +kernel
theorem dX12_picksIn_10 : decode cX12_picksIn 10 = .ok (.aload_n 0, 1) := by decide +kernel
theorem dX12_picksIn_11 : decode cX12_picksIn 11 = .ok (.aload_n 0, 1) := by decide +kernel
theorem dX12_picksIn_12 : decode cX12_picksIn 12 = .ok (.getfield 244, 3) := by decide +kernel
theorem dX12_picksIn_15 : decode cX12_picksIn 15 = .ok (.iload_n 2, 1) := by decide +kernel
theorem dX12_picksIn_16 : decode cX12_picksIn 16 = .ok (.invokevirtual 235, 3) := by decide +kernel
theorem dX12_picksIn_19 : decode cX12_picksIn 19 = .ok (.iconst 2, 1) := by decide +kernel
theorem dX12_picksIn_20 : decode cX12_picksIn 20 = .ok (.imul, 1) := by decide +kernel
theorem dX12_picksIn_21 : decode cX12_picksIn 21 = .ok (.ireturn, 1) := by decide +kernel
theorem dX12_picksIn_22 : decode cX12_picksIn 22 = .ok (.iload_n 1, 1) := by decide +kernel
theorem dX12_picksIn_23 : decode cX12_picksIn 23 = .ok (.iconst 2, 1) := by decide +kernel
theorem dX12_picksIn_24 : decode cX12_picksIn 24 = .ok (.if_icmp .ne 28, 3) := by decide +kernel
theorem dX12_picksIn_27 : decode cX12_picksIn 27 = .ok (.aload_n 0, 1) := by decide +kernel
theorem dX12_picksIn_28 : decode cX12_picksIn 28 = .ok (.bipush 30, 2) := by decide +kernel
theorem dX12_picksIn_30 : decode cX12_picksIn 30 = .ok (.invokevirtual 229, 3) := by decide +kernel
theorem dX12_picksIn_33 : decode cX12_picksIn 33 = .ok (.aload_n 0, 1) := by decide +kernel
theorem dX12_picksIn_34 : decode cX12_picksIn 34 = .ok (.iconst 0, 1) := by decide +kernel
theorem dX12_picksIn_35 : decode cX12_picksIn 35 = .ok (.iload_n 2, 1) := by decide +kernel
theorem dX12_picksIn_36 : decode cX12_picksIn 36 = .ok (.invokevirtual 247, 3) := by decide +kernel
theorem dX12_picksIn_39 : decode cX12_picksIn 39 = .ok (.istore_n 3, 1) := by decide +kernel
theorem dX12_picksIn_40 : decode cX12_picksIn 40 = .ok (.iload_n 3, 1) := by decide +kernel
theorem dX12_picksIn_41 : decode cX12_picksIn 41 = .ok (.aload_n 0, 1) := by decide +kernel
theorem dX12_picksIn_42 : decode cX12_picksIn 42 = .ok (.aload_n 0, 1) := by decide +kernel
theorem dX12_picksIn_43 : decode cX12_picksIn 43 = .ok (.getfield 244, 3) := by decide +kernel
theorem dX12_picksIn_46 : decode cX12_picksIn 46 = .ok (.iconst 1, 1) := by decide +kernel
theorem dX12_picksIn_47 : decode cX12_picksIn 47 = .ok (.invokevirtual 241, 3) := by decide +kernel
theorem dX12_picksIn_50 : decode cX12_picksIn 50 = .ok (.isub, 1) := by decide +kernel
theorem dX12_picksIn_51 : decode cX12_picksIn 51 = .ok (.ireturn, 1) := by decide +kernel
theorem dX12_picksIn_52 : decode cX12_picksIn 52 = .ok (.iload_n 1, 1) := by decide +kernel
theorem dX12_picksIn_53 : decode cX12_picksIn 53 = .ok (.iconst 5, 1) := by decide +kernel
theorem dX12_picksIn_54 : decode cX12_picksIn 54 = .ok (.if_icmp .ne 18, 3) := by decide +kernel
theorem dX12_picksIn_57 : decode cX12_picksIn 57 = .ok (.aload_n 0, 1) := by decide +kernel
theorem dX12_picksIn_58 : decode cX12_picksIn 58 = .ok (.bipush 60, 2) := by decide +kernel
theorem dX12_picksIn_60 : decode cX12_picksIn 60 = .ok (.invokevirtual 229, 3) := by decide +kernel
theorem dX12_picksIn_63 : decode cX12_picksIn 63 = .ok (.aload_n 0, 1) := by decide +kernel
theorem dX12_picksIn_64 : decode cX12_picksIn 64 = .ok (.iconst 2, 1) := by decide +kernel
theorem dX12_picksIn_65 : decode cX12_picksIn 65 = .ok (.iload_n 2, 1) := by decide +kernel
theorem dX12_picksIn_66 : decode cX12_picksIn 66 = .ok (.iconst 1, 1) := by decide +kernel
theorem dX12_picksIn_67 : decode cX12_picksIn 67 = .ok (.iadd, 1) := by decide +kernel
theorem dX12_picksIn_68 : decode cX12_picksIn 68 = .ok (.invokevirtual 247, 3) := by decide +kernel
theorem dX12_picksIn_71 : decode cX12_picksIn 71 = .ok (.ireturn, 1) := by decide +kernel
theorem dX12_picksIn_72 : decode cX12_picksIn 72 = .ok (.aload_n 0, 1) := by decide +kernel
theorem dX12_picksIn_73 : decode cX12_picksIn 73 = .ok (.iload_n 1, 1) := by decide +kernel
theorem dX12_picksIn_74 : decode cX12_picksIn 74 = .ok (.invokestatic 92, 3) := by decide +kernel
theorem dX12_picksIn_77 : decode cX12_picksIn 77 = .ok (.iload_n 2, 1) := by decide +kernel
theorem dX12_picksIn_78 : decode cX12_picksIn 78 = .ok (.invokevirtual 247, 3) := by decide +kernel
theorem dX12_picksIn_81 : decode cX12_picksIn 81 = .ok (.ireturn, 1) := by decide +kernel
set_option maxHeartbeats 2000000 in
set_option maxRecDepth 20000 in
theorem c_picksIn_0_0 {l : Launch} {D : va_G} {cI cG cW : ClassId} {o : Nat} {q : Nat → Nat} {V row kept tried bf fd pk bo so sh mv tr : Nat → Int32} {x : Int32} (t : Nat) (ht : t + 2 ≤ 40) (h26 : V 26 = nI t) {n m : Int32} (h28 : V 28 = n) (h29 : V 29 = m) (h27 : V 27 = nI 0) : Ci l yX12_picksIn cX12_picksIn 4 (some .int) 8 D (tyL cI cG cW) (wR cI o q) [.ref o, .int (nI 0), .int x] (sR V row kept tried bf fd pk bo so sh mv tr) (fun r τ => r = vP 0 0 n m x ∧ τ = sR (upd V 26 (nI (t + 2))) row kept tried bf fd pk bo so sh mv (trW tr t (vPt 0 0))) := by
  refine Ci.of (by decide) (Nat.le_of_ble_eq_true rfl) ?_
  intro p_ e_ s_ m_ b_ M_ c_ A_ C
  replace C : Cx _ _ _ _ _ _ _ _ RX12 _ _ _ _ := C
  refine j_L [0, 1, 2] [(0, .ref o), (1, .int (nI 0)), (2, .int x)] rfl ?_
  refine j_iload_n C 1 dX12_picksIn_0 rfl ?_
  refine j_if_ne C 22 dX12_picksIn_1 (by decide) (fun c1 => ?_) (fun c1 => ?_)
  · rw [show (0 : Int32) = nI 0 from rfl, nI_eq (by omega) (by omega)] at c1
    exfalso; omega
  · rw [show (0 : Int32) = nI 0 from rfl, nI_eq (by omega) (by omega)] at c1
    refine j_aload_n C 0 dX12_picksIn_4 rfl ?_
    refine j_bipush C (v := (nI 11)) dX12_picksIn_5 (by decide) ?_
    refine j_callVv (As := [.int (nI 11)]) (rest := []) C vw12_ran (c_ran (V := V) (nI 11) t (by omega) h26) rRcv rfl (Nat.le_of_ble_eq_true rfl) dX12_picksIn_7 (by decide) ?_
    rintro _ rfl
    refine j_aload_n C 0 dX12_picksIn_10 rfl ?_
    refine j_aload_n C 0 dX12_picksIn_11 rfl ?_
    refine rg C (v := .int ((upd V 26 (nI (t + 1))) 27)) 27 (by decide) kf12_244 rfl dX12_picksIn_12 ?_
    refine j_v (nI 0) (by rw [pk_un (by omega)]; exact h27) ?_
    refine j_iload_n C 2 dX12_picksIn_15 rfl ?_
    refine j_callV (As := [.int (nI 0), .int x]) (rest := []) C vw12_bowsIn (c_bowsIn_0 (V := upd V 26 (nI (t + 1))) (n := n) (m := m) (t + 1) (by omega) pk_us (by rw [pk_un (by omega)]; exact h28) (by rw [pk_un (by omega)]; exact h29)) rRcv rfl (Nat.le_of_ble_eq_true rfl) dX12_picksIn_16 (by decide) ?_
    rintro _ _ ⟨rfl, rfl⟩
    rw [upd_upd]
    refine j_iconst C (v := (nI 2)) dX12_picksIn_19 (by decide) ?_
    refine j_imul C dX12_picksIn_20 ?_
    refine j_iret C dX12_picksIn_21 ?_
    exact ⟨rfl, rfl⟩
set_option maxHeartbeats 2000000 in
set_option maxRecDepth 20000 in
theorem c_picksIn_0_1 {l : Launch} {D : va_G} {cI cG cW : ClassId} {o : Nat} {q : Nat → Nat} {V row kept tried bf fd pk bo so sh mv tr : Nat → Int32} {x : Int32} (t : Nat) (ht : t + 3 ≤ 40) (h26 : V 26 = nI t) {n m : Int32} (h28 : V 28 = n) (h29 : V 29 = m) (h27 : V 27 = nI 1) : Ci l yX12_picksIn cX12_picksIn 4 (some .int) 8 D (tyL cI cG cW) (wR cI o q) [.ref o, .int (nI 0), .int x] (sR V row kept tried bf fd pk bo so sh mv tr) (fun r τ => r = vP 0 1 n m x ∧ τ = sR (upd V 26 (nI (t + 3))) row kept tried bf fd pk bo so sh mv (trW tr t (vPt 0 1))) := by
  refine Ci.of (by decide) (Nat.le_of_ble_eq_true rfl) ?_
  intro p_ e_ s_ m_ b_ M_ c_ A_ C
  replace C : Cx _ _ _ _ _ _ _ _ RX12 _ _ _ _ := C
  refine j_L [0, 1, 2] [(0, .ref o), (1, .int (nI 0)), (2, .int x)] rfl ?_
  refine j_iload_n C 1 dX12_picksIn_0 rfl ?_
  refine j_if_ne C 22 dX12_picksIn_1 (by decide) (fun c1 => ?_) (fun c1 => ?_)
  · rw [show (0 : Int32) = nI 0 from rfl, nI_eq (by omega) (by omega)] at c1
    exfalso; omega
  · rw [show (0 : Int32) = nI 0 from rfl, nI_eq (by omega) (by omega)] at c1
    refine j_aload_n C 0 dX12_picksIn_4 rfl ?_
    refine j_bipush C (v := (nI 11)) dX12_picksIn_5 (by decide) ?_
    refine j_callVv (As := [.int (nI 11)]) (rest := []) C vw12_ran (c_ran (V := V) (nI 11) t (by omega) h26) rRcv rfl (Nat.le_of_ble_eq_true rfl) dX12_picksIn_7 (by decide) ?_
    rintro _ rfl
    refine j_aload_n C 0 dX12_picksIn_10 rfl ?_
    refine j_aload_n C 0 dX12_picksIn_11 rfl ?_
    refine rg C (v := .int ((upd V 26 (nI (t + 1))) 27)) 27 (by decide) kf12_244 rfl dX12_picksIn_12 ?_
    refine j_v (nI 1) (by rw [pk_un (by omega)]; exact h27) ?_
    refine j_iload_n C 2 dX12_picksIn_15 rfl ?_
    refine j_callV (As := [.int (nI 1), .int x]) (rest := []) C vw12_bowsIn (c_bowsIn_1 (V := upd V 26 (nI (t + 1))) (n := n) (m := m) (t + 1) (by omega) pk_us (by rw [pk_un (by omega)]; exact h28) (by rw [pk_un (by omega)]; exact h29)) rRcv rfl (Nat.le_of_ble_eq_true rfl) dX12_picksIn_16 (by decide) ?_
    rintro _ _ ⟨rfl, rfl⟩
    rw [upd_upd]
    refine j_iconst C (v := (nI 2)) dX12_picksIn_19 (by decide) ?_
    refine j_imul C dX12_picksIn_20 ?_
    refine j_iret C dX12_picksIn_21 ?_
    exact ⟨rfl, rfl⟩
set_option maxHeartbeats 2000000 in
set_option maxRecDepth 20000 in
theorem c_picksIn_1_1 {l : Launch} {D : va_G} {cI cG cW : ClassId} {o : Nat} {q : Nat → Nat} {V row kept tried bf fd pk bo so sh mv tr : Nat → Int32} {x : Int32} (t : Nat) (ht : t + 3 ≤ 40) (h26 : V 26 = nI t) {n m : Int32} (h28 : V 28 = n) (h29 : V 29 = m) (h27 : V 27 = nI 1) : Ci l yX12_picksIn cX12_picksIn 4 (some .int) 9 D (tyL cI cG cW) (wR cI o q) [.ref o, .int (nI 1), .int x] (sR V row kept tried bf fd pk bo so sh mv tr) (fun r τ => r = vP 1 1 n m x ∧ τ = sR (upd V 26 (nI (t + 3))) row kept tried bf fd pk bo so sh mv (trW tr t (vPt 1 1))) := by
  refine Ci.of (by decide) (Nat.le_of_ble_eq_true rfl) ?_
  intro p_ e_ s_ m_ b_ M_ c_ A_ C
  replace C : Cx _ _ _ _ _ _ _ _ RX12 _ _ _ _ := C
  refine j_L [0, 1, 2] [(0, .ref o), (1, .int (nI 1)), (2, .int x)] rfl ?_
  refine j_iload_n C 1 dX12_picksIn_0 rfl ?_
  refine j_if_ne C 22 dX12_picksIn_1 (by decide) (fun c1 => ?_) (fun c1 => ?_)
  · rw [show (0 : Int32) = nI 0 from rfl, nI_eq (by omega) (by omega)] at c1
    refine j_iload_n C 1 dX12_picksIn_22 rfl ?_
    refine j_iconst C (v := (nI 2)) dX12_picksIn_23 (by decide) ?_
    refine j_icmp_ne C 52 dX12_picksIn_24 (by decide) (fun c24 => ?_) (fun c24 => ?_)
    · rw [nI_eq (by omega) (by omega)] at c24
      refine j_iload_n C 1 dX12_picksIn_52 rfl ?_
      refine j_iconst C (v := (nI 5)) dX12_picksIn_53 (by decide) ?_
      refine j_icmp_ne C 72 dX12_picksIn_54 (by decide) (fun c54 => ?_) (fun c54 => ?_)
      · rw [nI_eq (by omega) (by omega)] at c54
        refine j_aload_n C 0 dX12_picksIn_72 rfl ?_
        refine j_iload_n C 1 dX12_picksIn_73 rfl ?_
        refine j_callS (As := [.int (nI 1)]) (rest := [.ref o]) C vw12_above (c_above 1 (by decide)) rfl (Nat.le_of_ble_eq_true rfl) dX12_picksIn_74 (by decide) ?_
        rintro _ _ ⟨rfl, rfl⟩
        refine j_v (nI 0) (by decide) ?_
        refine j_iload_n C 2 dX12_picksIn_77 rfl ?_
        refine j_callV (As := [.int (nI 0), .int x]) (rest := []) C vw12_picksIn (c_picksIn_0_1 (V := V) (n := n) (m := m) t (by omega) h26 h28 h29 h27) rRcv rfl (Nat.le_of_ble_eq_true rfl) dX12_picksIn_78 (by decide) ?_
        rintro _ _ ⟨rfl, rfl⟩
        refine j_iret C dX12_picksIn_81 ?_
        exact ⟨rfl, rfl⟩
      · rw [nI_eq (by omega) (by omega)] at c54
        exfalso; omega
    · rw [nI_eq (by omega) (by omega)] at c24
      exfalso; omega
  · rw [show (0 : Int32) = nI 0 from rfl, nI_eq (by omega) (by omega)] at c1
    exfalso; omega
set_option maxHeartbeats 2000000 in
set_option maxRecDepth 20000 in
theorem c_picksIn_0_2 {l : Launch} {D : va_G} {cI cG cW : ClassId} {o : Nat} {q : Nat → Nat} {V row kept tried bf fd pk bo so sh mv tr : Nat → Int32} {x : Int32} (t : Nat) (ht : t + 2 ≤ 40) (h26 : V 26 = nI t) {n m : Int32} (h28 : V 28 = n) (h29 : V 29 = m) (h27 : V 27 = nI 2) : Ci l yX12_picksIn cX12_picksIn 4 (some .int) 8 D (tyL cI cG cW) (wR cI o q) [.ref o, .int (nI 0), .int x] (sR V row kept tried bf fd pk bo so sh mv tr) (fun r τ => r = vP 0 2 n m x ∧ τ = sR (upd V 26 (nI (t + 2))) row kept tried bf fd pk bo so sh mv (trW tr t (vPt 0 2))) := by
  refine Ci.of (by decide) (Nat.le_of_ble_eq_true rfl) ?_
  intro p_ e_ s_ m_ b_ M_ c_ A_ C
  replace C : Cx _ _ _ _ _ _ _ _ RX12 _ _ _ _ := C
  refine j_L [0, 1, 2] [(0, .ref o), (1, .int (nI 0)), (2, .int x)] rfl ?_
  refine j_iload_n C 1 dX12_picksIn_0 rfl ?_
  refine j_if_ne C 22 dX12_picksIn_1 (by decide) (fun c1 => ?_) (fun c1 => ?_)
  · rw [show (0 : Int32) = nI 0 from rfl, nI_eq (by omega) (by omega)] at c1
    exfalso; omega
  · rw [show (0 : Int32) = nI 0 from rfl, nI_eq (by omega) (by omega)] at c1
    refine j_aload_n C 0 dX12_picksIn_4 rfl ?_
    refine j_bipush C (v := (nI 11)) dX12_picksIn_5 (by decide) ?_
    refine j_callVv (As := [.int (nI 11)]) (rest := []) C vw12_ran (c_ran (V := V) (nI 11) t (by omega) h26) rRcv rfl (Nat.le_of_ble_eq_true rfl) dX12_picksIn_7 (by decide) ?_
    rintro _ rfl
    refine j_aload_n C 0 dX12_picksIn_10 rfl ?_
    refine j_aload_n C 0 dX12_picksIn_11 rfl ?_
    refine rg C (v := .int ((upd V 26 (nI (t + 1))) 27)) 27 (by decide) kf12_244 rfl dX12_picksIn_12 ?_
    refine j_v (nI 2) (by rw [pk_un (by omega)]; exact h27) ?_
    refine j_iload_n C 2 dX12_picksIn_15 rfl ?_
    refine j_callV (As := [.int (nI 2), .int x]) (rest := []) C vw12_bowsIn (c_bowsIn_2 (V := upd V 26 (nI (t + 1))) (n := n) (m := m) (t + 1) (by omega) pk_us (by rw [pk_un (by omega)]; exact h28) (by rw [pk_un (by omega)]; exact h29)) rRcv rfl (Nat.le_of_ble_eq_true rfl) dX12_picksIn_16 (by decide) ?_
    rintro _ _ ⟨rfl, rfl⟩
    rw [upd_upd]
    refine j_iconst C (v := (nI 2)) dX12_picksIn_19 (by decide) ?_
    refine j_imul C dX12_picksIn_20 ?_
    refine j_iret C dX12_picksIn_21 ?_
    exact ⟨rfl, rfl⟩
set_option maxHeartbeats 2000000 in
set_option maxRecDepth 20000 in
theorem c_picksIn_2_2 {l : Launch} {D : va_G} {cI cG cW : ClassId} {o : Nat} {q : Nat → Nat} {V row kept tried bf fd pk bo so sh mv tr : Nat → Int32} {x : Int32} (t : Nat) (ht : t + 4 ≤ 40) (h26 : V 26 = nI t) {n m : Int32} (h28 : V 28 = n) (h29 : V 29 = m) (h27 : V 27 = nI 2) : Ci l yX12_picksIn cX12_picksIn 4 (some .int) 9 D (tyL cI cG cW) (wR cI o q) [.ref o, .int (nI 2), .int x] (sR V row kept tried bf fd pk bo so sh mv tr) (fun r τ => r = vP 2 2 n m x ∧ τ = sR (upd V 26 (nI (t + 4))) row kept tried bf fd pk bo so sh mv (trW tr t (vPt 2 2))) := by
  refine Ci.of (by decide) (Nat.le_of_ble_eq_true rfl) ?_
  intro p_ e_ s_ m_ b_ M_ c_ A_ C
  replace C : Cx _ _ _ _ _ _ _ _ RX12 _ _ _ _ := C
  refine j_L [0, 1, 2] [(0, .ref o), (1, .int (nI 2)), (2, .int x)] rfl ?_
  refine j_iload_n C 1 dX12_picksIn_0 rfl ?_
  refine j_if_ne C 22 dX12_picksIn_1 (by decide) (fun c1 => ?_) (fun c1 => ?_)
  · rw [show (0 : Int32) = nI 0 from rfl, nI_eq (by omega) (by omega)] at c1
    refine j_iload_n C 1 dX12_picksIn_22 rfl ?_
    refine j_iconst C (v := (nI 2)) dX12_picksIn_23 (by decide) ?_
    refine j_icmp_ne C 52 dX12_picksIn_24 (by decide) (fun c24 => ?_) (fun c24 => ?_)
    · rw [nI_eq (by omega) (by omega)] at c24
      exfalso; omega
    · rw [nI_eq (by omega) (by omega)] at c24
      refine j_aload_n C 0 dX12_picksIn_27 rfl ?_
      refine j_bipush C (v := (nI 30)) dX12_picksIn_28 (by decide) ?_
      refine j_callVv (As := [.int (nI 30)]) (rest := []) C vw12_ran (c_ran (V := V) (nI 30) t (by omega) h26) rRcv rfl (Nat.le_of_ble_eq_true rfl) dX12_picksIn_30 (by decide) ?_
      rintro _ rfl
      refine j_aload_n C 0 dX12_picksIn_33 rfl ?_
      refine j_iconst C (v := (nI 0)) dX12_picksIn_34 (by decide) ?_
      refine j_iload_n C 2 dX12_picksIn_35 rfl ?_
      refine j_callV (As := [.int (nI 0), .int x]) (rest := []) C vw12_picksIn (c_picksIn_0_2 (V := upd V 26 (nI (t + 1))) (n := n) (m := m) (t + 1) (by omega) pk_us (by rw [pk_un (by omega)]; exact h28) (by rw [pk_un (by omega)]; exact h29) (by rw [pk_un (by omega)]; exact h27)) rRcv rfl (Nat.le_of_ble_eq_true rfl) dX12_picksIn_36 (by decide) ?_
      rintro _ _ ⟨rfl, rfl⟩
      rw [upd_upd]
      refine j_istore_n C [(3, .int (vP 0 2 n m x)), (0, .ref o), (1, .int (nI 2)), (2, .int x)] dX12_picksIn_39 (by decide) rfl ?_
      refine j_iload_n C 0 dX12_picksIn_40 rfl ?_
      refine j_aload_n C 1 dX12_picksIn_41 rfl ?_
      refine j_aload_n C 1 dX12_picksIn_42 rfl ?_
      refine rg C (v := .int ((upd V 26 (nI (t + 1 + 2))) 27)) 27 (by decide) kf12_244 rfl dX12_picksIn_43 ?_
      refine j_v (nI 2) (by rw [pk_un (by omega)]; exact h27) ?_
      refine j_iconst C (v := (nI 1)) dX12_picksIn_46 (by decide) ?_
      refine j_callV (As := [.int (nI 2), .int (nI 1)]) (rest := [.int (vP 0 2 n m x)]) C vw12_sighsIn (c_sighsIn_2 (V := upd V 26 (nI (t + 1 + 2))) (n := n) (m := m) (t + 1 + 2) (by omega) pk_us (by rw [pk_un (by omega)]; exact h28) (by rw [pk_un (by omega)]; exact h29)) rRcv rfl (Nat.le_of_ble_eq_true rfl) dX12_picksIn_47 (by decide) ?_
      rintro _ _ ⟨rfl, rfl⟩
      rw [upd_upd]
      refine j_isub C dX12_picksIn_50 ?_
      refine j_iret C dX12_picksIn_51 ?_
      exact ⟨rfl, rfl⟩
  · rw [show (0 : Int32) = nI 0 from rfl, nI_eq (by omega) (by omega)] at c1
    exfalso; omega
set_option maxHeartbeats 2000000 in
set_option maxRecDepth 20000 in
theorem c_picksIn_0_3 {l : Launch} {D : va_G} {cI cG cW : ClassId} {o : Nat} {q : Nat → Nat} {V row kept tried bf fd pk bo so sh mv tr : Nat → Int32} {x : Int32} (t : Nat) (ht : t + 2 ≤ 40) (h26 : V 26 = nI t) {n m : Int32} (h28 : V 28 = n) (h29 : V 29 = m) (h27 : V 27 = nI 3) : Ci l yX12_picksIn cX12_picksIn 4 (some .int) 8 D (tyL cI cG cW) (wR cI o q) [.ref o, .int (nI 0), .int x] (sR V row kept tried bf fd pk bo so sh mv tr) (fun r τ => r = vP 0 3 n m x ∧ τ = sR (upd V 26 (nI (t + 2))) row kept tried bf fd pk bo so sh mv (trW tr t (vPt 0 3))) := by
  refine Ci.of (by decide) (Nat.le_of_ble_eq_true rfl) ?_
  intro p_ e_ s_ m_ b_ M_ c_ A_ C
  replace C : Cx _ _ _ _ _ _ _ _ RX12 _ _ _ _ := C
  refine j_L [0, 1, 2] [(0, .ref o), (1, .int (nI 0)), (2, .int x)] rfl ?_
  refine j_iload_n C 1 dX12_picksIn_0 rfl ?_
  refine j_if_ne C 22 dX12_picksIn_1 (by decide) (fun c1 => ?_) (fun c1 => ?_)
  · rw [show (0 : Int32) = nI 0 from rfl, nI_eq (by omega) (by omega)] at c1
    exfalso; omega
  · rw [show (0 : Int32) = nI 0 from rfl, nI_eq (by omega) (by omega)] at c1
    refine j_aload_n C 0 dX12_picksIn_4 rfl ?_
    refine j_bipush C (v := (nI 11)) dX12_picksIn_5 (by decide) ?_
    refine j_callVv (As := [.int (nI 11)]) (rest := []) C vw12_ran (c_ran (V := V) (nI 11) t (by omega) h26) rRcv rfl (Nat.le_of_ble_eq_true rfl) dX12_picksIn_7 (by decide) ?_
    rintro _ rfl
    refine j_aload_n C 0 dX12_picksIn_10 rfl ?_
    refine j_aload_n C 0 dX12_picksIn_11 rfl ?_
    refine rg C (v := .int ((upd V 26 (nI (t + 1))) 27)) 27 (by decide) kf12_244 rfl dX12_picksIn_12 ?_
    refine j_v (nI 3) (by rw [pk_un (by omega)]; exact h27) ?_
    refine j_iload_n C 2 dX12_picksIn_15 rfl ?_
    refine j_callV (As := [.int (nI 3), .int x]) (rest := []) C vw12_bowsIn (c_bowsIn_3 (V := upd V 26 (nI (t + 1))) (n := n) (m := m) (t + 1) (by omega) pk_us (by rw [pk_un (by omega)]; exact h28) (by rw [pk_un (by omega)]; exact h29)) rRcv rfl (Nat.le_of_ble_eq_true rfl) dX12_picksIn_16 (by decide) ?_
    rintro _ _ ⟨rfl, rfl⟩
    rw [upd_upd]
    refine j_iconst C (v := (nI 2)) dX12_picksIn_19 (by decide) ?_
    refine j_imul C dX12_picksIn_20 ?_
    refine j_iret C dX12_picksIn_21 ?_
    exact ⟨rfl, rfl⟩
set_option maxHeartbeats 2000000 in
set_option maxRecDepth 20000 in
theorem c_picksIn_3_3 {l : Launch} {D : va_G} {cI cG cW : ClassId} {o : Nat} {q : Nat → Nat} {V row kept tried bf fd pk bo so sh mv tr : Nat → Int32} {x : Int32} (t : Nat) (ht : t + 2 ≤ 40) (h26 : V 26 = nI t) {n m : Int32} (h28 : V 28 = n) (h29 : V 29 = m) (h27 : V 27 = nI 3) : Ci l yX12_picksIn cX12_picksIn 4 (some .int) 9 D (tyL cI cG cW) (wR cI o q) [.ref o, .int (nI 3), .int x] (sR V row kept tried bf fd pk bo so sh mv tr) (fun r τ => r = vP 3 3 n m x ∧ τ = sR (upd V 26 (nI (t + 2))) row kept tried bf fd pk bo so sh mv (trW tr t (vPt 3 3))) := by
  refine Ci.of (by decide) (Nat.le_of_ble_eq_true rfl) ?_
  intro p_ e_ s_ m_ b_ M_ c_ A_ C
  replace C : Cx _ _ _ _ _ _ _ _ RX12 _ _ _ _ := C
  refine j_L [0, 1, 2] [(0, .ref o), (1, .int (nI 3)), (2, .int x)] rfl ?_
  refine j_iload_n C 1 dX12_picksIn_0 rfl ?_
  refine j_if_ne C 22 dX12_picksIn_1 (by decide) (fun c1 => ?_) (fun c1 => ?_)
  · rw [show (0 : Int32) = nI 0 from rfl, nI_eq (by omega) (by omega)] at c1
    refine j_iload_n C 1 dX12_picksIn_22 rfl ?_
    refine j_iconst C (v := (nI 2)) dX12_picksIn_23 (by decide) ?_
    refine j_icmp_ne C 52 dX12_picksIn_24 (by decide) (fun c24 => ?_) (fun c24 => ?_)
    · rw [nI_eq (by omega) (by omega)] at c24
      refine j_iload_n C 1 dX12_picksIn_52 rfl ?_
      refine j_iconst C (v := (nI 5)) dX12_picksIn_53 (by decide) ?_
      refine j_icmp_ne C 72 dX12_picksIn_54 (by decide) (fun c54 => ?_) (fun c54 => ?_)
      · rw [nI_eq (by omega) (by omega)] at c54
        refine j_aload_n C 0 dX12_picksIn_72 rfl ?_
        refine j_iload_n C 1 dX12_picksIn_73 rfl ?_
        refine j_callS (As := [.int (nI 3)]) (rest := [.ref o]) C vw12_above (c_above 3 (by decide)) rfl (Nat.le_of_ble_eq_true rfl) dX12_picksIn_74 (by decide) ?_
        rintro _ _ ⟨rfl, rfl⟩
        refine j_v (nI 0) (by decide) ?_
        refine j_iload_n C 2 dX12_picksIn_77 rfl ?_
        refine j_callV (As := [.int (nI 0), .int x]) (rest := []) C vw12_picksIn (c_picksIn_0_3 (V := V) (n := n) (m := m) t (by omega) h26 h28 h29 h27) rRcv rfl (Nat.le_of_ble_eq_true rfl) dX12_picksIn_78 (by decide) ?_
        rintro _ _ ⟨rfl, rfl⟩
        refine j_iret C dX12_picksIn_81 ?_
        exact ⟨rfl, rfl⟩
      · rw [nI_eq (by omega) (by omega)] at c54
        exfalso; omega
    · rw [nI_eq (by omega) (by omega)] at c24
      exfalso; omega
  · rw [show (0 : Int32) = nI 0 from rfl, nI_eq (by omega) (by omega)] at c1
    exfalso; omega
set_option maxHeartbeats 2000000 in
set_option maxRecDepth 20000 in
theorem c_picksIn_0_4 {l : Launch} {D : va_G} {cI cG cW : ClassId} {o : Nat} {q : Nat → Nat} {V row kept tried bf fd pk bo so sh mv tr : Nat → Int32} {x : Int32} (t : Nat) (ht : t + 3 ≤ 40) (h26 : V 26 = nI t) {n m : Int32} (h28 : V 28 = n) (h29 : V 29 = m) (h27 : V 27 = nI 4) : Ci l yX12_picksIn cX12_picksIn 4 (some .int) 8 D (tyL cI cG cW) (wR cI o q) [.ref o, .int (nI 0), .int x] (sR V row kept tried bf fd pk bo so sh mv tr) (fun r τ => r = vP 0 4 n m x ∧ τ = sR (upd V 26 (nI (t + 3))) row kept tried bf fd pk bo so sh mv (trW tr t (vPt 0 4))) := by
  refine Ci.of (by decide) (Nat.le_of_ble_eq_true rfl) ?_
  intro p_ e_ s_ m_ b_ M_ c_ A_ C
  replace C : Cx _ _ _ _ _ _ _ _ RX12 _ _ _ _ := C
  refine j_L [0, 1, 2] [(0, .ref o), (1, .int (nI 0)), (2, .int x)] rfl ?_
  refine j_iload_n C 1 dX12_picksIn_0 rfl ?_
  refine j_if_ne C 22 dX12_picksIn_1 (by decide) (fun c1 => ?_) (fun c1 => ?_)
  · rw [show (0 : Int32) = nI 0 from rfl, nI_eq (by omega) (by omega)] at c1
    exfalso; omega
  · rw [show (0 : Int32) = nI 0 from rfl, nI_eq (by omega) (by omega)] at c1
    refine j_aload_n C 0 dX12_picksIn_4 rfl ?_
    refine j_bipush C (v := (nI 11)) dX12_picksIn_5 (by decide) ?_
    refine j_callVv (As := [.int (nI 11)]) (rest := []) C vw12_ran (c_ran (V := V) (nI 11) t (by omega) h26) rRcv rfl (Nat.le_of_ble_eq_true rfl) dX12_picksIn_7 (by decide) ?_
    rintro _ rfl
    refine j_aload_n C 0 dX12_picksIn_10 rfl ?_
    refine j_aload_n C 0 dX12_picksIn_11 rfl ?_
    refine rg C (v := .int ((upd V 26 (nI (t + 1))) 27)) 27 (by decide) kf12_244 rfl dX12_picksIn_12 ?_
    refine j_v (nI 4) (by rw [pk_un (by omega)]; exact h27) ?_
    refine j_iload_n C 2 dX12_picksIn_15 rfl ?_
    refine j_callV (As := [.int (nI 4), .int x]) (rest := []) C vw12_bowsIn (c_bowsIn_4 (V := upd V 26 (nI (t + 1))) (n := n) (m := m) (t + 1) (by omega) pk_us (by rw [pk_un (by omega)]; exact h28) (by rw [pk_un (by omega)]; exact h29)) rRcv rfl (Nat.le_of_ble_eq_true rfl) dX12_picksIn_16 (by decide) ?_
    rintro _ _ ⟨rfl, rfl⟩
    rw [upd_upd]
    refine j_iconst C (v := (nI 2)) dX12_picksIn_19 (by decide) ?_
    refine j_imul C dX12_picksIn_20 ?_
    refine j_iret C dX12_picksIn_21 ?_
    exact ⟨rfl, rfl⟩
set_option maxHeartbeats 2000000 in
set_option maxRecDepth 20000 in
theorem c_picksIn_1_4 {l : Launch} {D : va_G} {cI cG cW : ClassId} {o : Nat} {q : Nat → Nat} {V row kept tried bf fd pk bo so sh mv tr : Nat → Int32} {x : Int32} (t : Nat) (ht : t + 3 ≤ 40) (h26 : V 26 = nI t) {n m : Int32} (h28 : V 28 = n) (h29 : V 29 = m) (h27 : V 27 = nI 4) : Ci l yX12_picksIn cX12_picksIn 4 (some .int) 9 D (tyL cI cG cW) (wR cI o q) [.ref o, .int (nI 1), .int x] (sR V row kept tried bf fd pk bo so sh mv tr) (fun r τ => r = vP 1 4 n m x ∧ τ = sR (upd V 26 (nI (t + 3))) row kept tried bf fd pk bo so sh mv (trW tr t (vPt 1 4))) := by
  refine Ci.of (by decide) (Nat.le_of_ble_eq_true rfl) ?_
  intro p_ e_ s_ m_ b_ M_ c_ A_ C
  replace C : Cx _ _ _ _ _ _ _ _ RX12 _ _ _ _ := C
  refine j_L [0, 1, 2] [(0, .ref o), (1, .int (nI 1)), (2, .int x)] rfl ?_
  refine j_iload_n C 1 dX12_picksIn_0 rfl ?_
  refine j_if_ne C 22 dX12_picksIn_1 (by decide) (fun c1 => ?_) (fun c1 => ?_)
  · rw [show (0 : Int32) = nI 0 from rfl, nI_eq (by omega) (by omega)] at c1
    refine j_iload_n C 1 dX12_picksIn_22 rfl ?_
    refine j_iconst C (v := (nI 2)) dX12_picksIn_23 (by decide) ?_
    refine j_icmp_ne C 52 dX12_picksIn_24 (by decide) (fun c24 => ?_) (fun c24 => ?_)
    · rw [nI_eq (by omega) (by omega)] at c24
      refine j_iload_n C 1 dX12_picksIn_52 rfl ?_
      refine j_iconst C (v := (nI 5)) dX12_picksIn_53 (by decide) ?_
      refine j_icmp_ne C 72 dX12_picksIn_54 (by decide) (fun c54 => ?_) (fun c54 => ?_)
      · rw [nI_eq (by omega) (by omega)] at c54
        refine j_aload_n C 0 dX12_picksIn_72 rfl ?_
        refine j_iload_n C 1 dX12_picksIn_73 rfl ?_
        refine j_callS (As := [.int (nI 1)]) (rest := [.ref o]) C vw12_above (c_above 1 (by decide)) rfl (Nat.le_of_ble_eq_true rfl) dX12_picksIn_74 (by decide) ?_
        rintro _ _ ⟨rfl, rfl⟩
        refine j_v (nI 0) (by decide) ?_
        refine j_iload_n C 2 dX12_picksIn_77 rfl ?_
        refine j_callV (As := [.int (nI 0), .int x]) (rest := []) C vw12_picksIn (c_picksIn_0_4 (V := V) (n := n) (m := m) t (by omega) h26 h28 h29 h27) rRcv rfl (Nat.le_of_ble_eq_true rfl) dX12_picksIn_78 (by decide) ?_
        rintro _ _ ⟨rfl, rfl⟩
        refine j_iret C dX12_picksIn_81 ?_
        exact ⟨rfl, rfl⟩
      · rw [nI_eq (by omega) (by omega)] at c54
        exfalso; omega
    · rw [nI_eq (by omega) (by omega)] at c24
      exfalso; omega
  · rw [show (0 : Int32) = nI 0 from rfl, nI_eq (by omega) (by omega)] at c1
    exfalso; omega
set_option maxHeartbeats 2000000 in
set_option maxRecDepth 20000 in
theorem c_picksIn_4_4 {l : Launch} {D : va_G} {cI cG cW : ClassId} {o : Nat} {q : Nat → Nat} {V row kept tried bf fd pk bo so sh mv tr : Nat → Int32} {x : Int32} (t : Nat) (ht : t + 3 ≤ 40) (h26 : V 26 = nI t) {n m : Int32} (h28 : V 28 = n) (h29 : V 29 = m) (h27 : V 27 = nI 4) : Ci l yX12_picksIn cX12_picksIn 4 (some .int) 10 D (tyL cI cG cW) (wR cI o q) [.ref o, .int (nI 4), .int x] (sR V row kept tried bf fd pk bo so sh mv tr) (fun r τ => r = vP 4 4 n m x ∧ τ = sR (upd V 26 (nI (t + 3))) row kept tried bf fd pk bo so sh mv (trW tr t (vPt 4 4))) := by
  refine Ci.of (by decide) (Nat.le_of_ble_eq_true rfl) ?_
  intro p_ e_ s_ m_ b_ M_ c_ A_ C
  replace C : Cx _ _ _ _ _ _ _ _ RX12 _ _ _ _ := C
  refine j_L [0, 1, 2] [(0, .ref o), (1, .int (nI 4)), (2, .int x)] rfl ?_
  refine j_iload_n C 1 dX12_picksIn_0 rfl ?_
  refine j_if_ne C 22 dX12_picksIn_1 (by decide) (fun c1 => ?_) (fun c1 => ?_)
  · rw [show (0 : Int32) = nI 0 from rfl, nI_eq (by omega) (by omega)] at c1
    refine j_iload_n C 1 dX12_picksIn_22 rfl ?_
    refine j_iconst C (v := (nI 2)) dX12_picksIn_23 (by decide) ?_
    refine j_icmp_ne C 52 dX12_picksIn_24 (by decide) (fun c24 => ?_) (fun c24 => ?_)
    · rw [nI_eq (by omega) (by omega)] at c24
      refine j_iload_n C 1 dX12_picksIn_52 rfl ?_
      refine j_iconst C (v := (nI 5)) dX12_picksIn_53 (by decide) ?_
      refine j_icmp_ne C 72 dX12_picksIn_54 (by decide) (fun c54 => ?_) (fun c54 => ?_)
      · rw [nI_eq (by omega) (by omega)] at c54
        refine j_aload_n C 0 dX12_picksIn_72 rfl ?_
        refine j_iload_n C 1 dX12_picksIn_73 rfl ?_
        refine j_callS (As := [.int (nI 4)]) (rest := [.ref o]) C vw12_above (c_above 4 (by decide)) rfl (Nat.le_of_ble_eq_true rfl) dX12_picksIn_74 (by decide) ?_
        rintro _ _ ⟨rfl, rfl⟩
        refine j_v (nI 1) (by decide) ?_
        refine j_iload_n C 2 dX12_picksIn_77 rfl ?_
        refine j_callV (As := [.int (nI 1), .int x]) (rest := []) C vw12_picksIn (c_picksIn_1_4 (V := V) (n := n) (m := m) t (by omega) h26 h28 h29 h27) rRcv rfl (Nat.le_of_ble_eq_true rfl) dX12_picksIn_78 (by decide) ?_
        rintro _ _ ⟨rfl, rfl⟩
        refine j_iret C dX12_picksIn_81 ?_
        exact ⟨rfl, rfl⟩
      · rw [nI_eq (by omega) (by omega)] at c54
        exfalso; omega
    · rw [nI_eq (by omega) (by omega)] at c24
      exfalso; omega
  · rw [show (0 : Int32) = nI 0 from rfl, nI_eq (by omega) (by omega)] at c1
    exfalso; omega
set_option maxHeartbeats 2000000 in
set_option maxRecDepth 20000 in
theorem c_picksIn_0_5 {l : Launch} {D : va_G} {cI cG cW : ClassId} {o : Nat} {q : Nat → Nat} {V row kept tried bf fd pk bo so sh mv tr : Nat → Int32} {x : Int32} (t : Nat) (ht : t + 2 ≤ 40) (h26 : V 26 = nI t) {n m : Int32} (h28 : V 28 = n) (h29 : V 29 = m) (h27 : V 27 = nI 5) : Ci l yX12_picksIn cX12_picksIn 4 (some .int) 8 D (tyL cI cG cW) (wR cI o q) [.ref o, .int (nI 0), .int x] (sR V row kept tried bf fd pk bo so sh mv tr) (fun r τ => r = vP 0 5 n m x ∧ τ = sR (upd V 26 (nI (t + 2))) row kept tried bf fd pk bo so sh mv (trW tr t (vPt 0 5))) := by
  refine Ci.of (by decide) (Nat.le_of_ble_eq_true rfl) ?_
  intro p_ e_ s_ m_ b_ M_ c_ A_ C
  replace C : Cx _ _ _ _ _ _ _ _ RX12 _ _ _ _ := C
  refine j_L [0, 1, 2] [(0, .ref o), (1, .int (nI 0)), (2, .int x)] rfl ?_
  refine j_iload_n C 1 dX12_picksIn_0 rfl ?_
  refine j_if_ne C 22 dX12_picksIn_1 (by decide) (fun c1 => ?_) (fun c1 => ?_)
  · rw [show (0 : Int32) = nI 0 from rfl, nI_eq (by omega) (by omega)] at c1
    exfalso; omega
  · rw [show (0 : Int32) = nI 0 from rfl, nI_eq (by omega) (by omega)] at c1
    refine j_aload_n C 0 dX12_picksIn_4 rfl ?_
    refine j_bipush C (v := (nI 11)) dX12_picksIn_5 (by decide) ?_
    refine j_callVv (As := [.int (nI 11)]) (rest := []) C vw12_ran (c_ran (V := V) (nI 11) t (by omega) h26) rRcv rfl (Nat.le_of_ble_eq_true rfl) dX12_picksIn_7 (by decide) ?_
    rintro _ rfl
    refine j_aload_n C 0 dX12_picksIn_10 rfl ?_
    refine j_aload_n C 0 dX12_picksIn_11 rfl ?_
    refine rg C (v := .int ((upd V 26 (nI (t + 1))) 27)) 27 (by decide) kf12_244 rfl dX12_picksIn_12 ?_
    refine j_v (nI 5) (by rw [pk_un (by omega)]; exact h27) ?_
    refine j_iload_n C 2 dX12_picksIn_15 rfl ?_
    refine j_callV (As := [.int (nI 5), .int x]) (rest := []) C vw12_bowsIn (c_bowsIn_5 (V := upd V 26 (nI (t + 1))) (n := n) (m := m) (t + 1) (by omega) pk_us (by rw [pk_un (by omega)]; exact h28) (by rw [pk_un (by omega)]; exact h29)) rRcv rfl (Nat.le_of_ble_eq_true rfl) dX12_picksIn_16 (by decide) ?_
    rintro _ _ ⟨rfl, rfl⟩
    rw [upd_upd]
    refine j_iconst C (v := (nI 2)) dX12_picksIn_19 (by decide) ?_
    refine j_imul C dX12_picksIn_20 ?_
    refine j_iret C dX12_picksIn_21 ?_
    exact ⟨rfl, rfl⟩
set_option maxHeartbeats 2000000 in
set_option maxRecDepth 20000 in
theorem c_picksIn_2_5 {l : Launch} {D : va_G} {cI cG cW : ClassId} {o : Nat} {q : Nat → Nat} {V row kept tried bf fd pk bo so sh mv tr : Nat → Int32} {x : Int32} (t : Nat) (ht : t + 4 ≤ 40) (h26 : V 26 = nI t) {n m : Int32} (h28 : V 28 = n) (h29 : V 29 = m) (h27 : V 27 = nI 5) : Ci l yX12_picksIn cX12_picksIn 4 (some .int) 9 D (tyL cI cG cW) (wR cI o q) [.ref o, .int (nI 2), .int x] (sR V row kept tried bf fd pk bo so sh mv tr) (fun r τ => r = vP 2 5 n m x ∧ τ = sR (upd V 26 (nI (t + 4))) row kept tried bf fd pk bo so sh mv (trW tr t (vPt 2 5))) := by
  refine Ci.of (by decide) (Nat.le_of_ble_eq_true rfl) ?_
  intro p_ e_ s_ m_ b_ M_ c_ A_ C
  replace C : Cx _ _ _ _ _ _ _ _ RX12 _ _ _ _ := C
  refine j_L [0, 1, 2] [(0, .ref o), (1, .int (nI 2)), (2, .int x)] rfl ?_
  refine j_iload_n C 1 dX12_picksIn_0 rfl ?_
  refine j_if_ne C 22 dX12_picksIn_1 (by decide) (fun c1 => ?_) (fun c1 => ?_)
  · rw [show (0 : Int32) = nI 0 from rfl, nI_eq (by omega) (by omega)] at c1
    refine j_iload_n C 1 dX12_picksIn_22 rfl ?_
    refine j_iconst C (v := (nI 2)) dX12_picksIn_23 (by decide) ?_
    refine j_icmp_ne C 52 dX12_picksIn_24 (by decide) (fun c24 => ?_) (fun c24 => ?_)
    · rw [nI_eq (by omega) (by omega)] at c24
      exfalso; omega
    · rw [nI_eq (by omega) (by omega)] at c24
      refine j_aload_n C 0 dX12_picksIn_27 rfl ?_
      refine j_bipush C (v := (nI 30)) dX12_picksIn_28 (by decide) ?_
      refine j_callVv (As := [.int (nI 30)]) (rest := []) C vw12_ran (c_ran (V := V) (nI 30) t (by omega) h26) rRcv rfl (Nat.le_of_ble_eq_true rfl) dX12_picksIn_30 (by decide) ?_
      rintro _ rfl
      refine j_aload_n C 0 dX12_picksIn_33 rfl ?_
      refine j_iconst C (v := (nI 0)) dX12_picksIn_34 (by decide) ?_
      refine j_iload_n C 2 dX12_picksIn_35 rfl ?_
      refine j_callV (As := [.int (nI 0), .int x]) (rest := []) C vw12_picksIn (c_picksIn_0_5 (V := upd V 26 (nI (t + 1))) (n := n) (m := m) (t + 1) (by omega) pk_us (by rw [pk_un (by omega)]; exact h28) (by rw [pk_un (by omega)]; exact h29) (by rw [pk_un (by omega)]; exact h27)) rRcv rfl (Nat.le_of_ble_eq_true rfl) dX12_picksIn_36 (by decide) ?_
      rintro _ _ ⟨rfl, rfl⟩
      rw [upd_upd]
      refine j_istore_n C [(3, .int (vP 0 5 n m x)), (0, .ref o), (1, .int (nI 2)), (2, .int x)] dX12_picksIn_39 (by decide) rfl ?_
      refine j_iload_n C 0 dX12_picksIn_40 rfl ?_
      refine j_aload_n C 1 dX12_picksIn_41 rfl ?_
      refine j_aload_n C 1 dX12_picksIn_42 rfl ?_
      refine rg C (v := .int ((upd V 26 (nI (t + 1 + 2))) 27)) 27 (by decide) kf12_244 rfl dX12_picksIn_43 ?_
      refine j_v (nI 5) (by rw [pk_un (by omega)]; exact h27) ?_
      refine j_iconst C (v := (nI 1)) dX12_picksIn_46 (by decide) ?_
      refine j_callV (As := [.int (nI 5), .int (nI 1)]) (rest := [.int (vP 0 5 n m x)]) C vw12_sighsIn (c_sighsIn_5 (V := upd V 26 (nI (t + 1 + 2))) (n := n) (m := m) (t + 1 + 2) (by omega) pk_us (by rw [pk_un (by omega)]; exact h28) (by rw [pk_un (by omega)]; exact h29)) rRcv rfl (Nat.le_of_ble_eq_true rfl) dX12_picksIn_47 (by decide) ?_
      rintro _ _ ⟨rfl, rfl⟩
      rw [upd_upd]
      refine j_isub C dX12_picksIn_50 ?_
      refine j_iret C dX12_picksIn_51 ?_
      exact ⟨rfl, rfl⟩
  · rw [show (0 : Int32) = nI 0 from rfl, nI_eq (by omega) (by omega)] at c1
    exfalso; omega
set_option maxHeartbeats 2000000 in
set_option maxRecDepth 20000 in
theorem c_picksIn_5_5 {l : Launch} {D : va_G} {cI cG cW : ClassId} {o : Nat} {q : Nat → Nat} {V row kept tried bf fd pk bo so sh mv tr : Nat → Int32} {x : Int32} (t : Nat) (ht : t + 5 ≤ 40) (h26 : V 26 = nI t) {n m : Int32} (h28 : V 28 = n) (h29 : V 29 = m) (h27 : V 27 = nI 5) : Ci l yX12_picksIn cX12_picksIn 4 (some .int) 10 D (tyL cI cG cW) (wR cI o q) [.ref o, .int (nI 5), .int x] (sR V row kept tried bf fd pk bo so sh mv tr) (fun r τ => r = vP 5 5 n m x ∧ τ = sR (upd V 26 (nI (t + 5))) row kept tried bf fd pk bo so sh mv (trW tr t (vPt 5 5))) := by
  refine Ci.of (by decide) (Nat.le_of_ble_eq_true rfl) ?_
  intro p_ e_ s_ m_ b_ M_ c_ A_ C
  replace C : Cx _ _ _ _ _ _ _ _ RX12 _ _ _ _ := C
  refine j_L [0, 1, 2] [(0, .ref o), (1, .int (nI 5)), (2, .int x)] rfl ?_
  refine j_iload_n C 1 dX12_picksIn_0 rfl ?_
  refine j_if_ne C 22 dX12_picksIn_1 (by decide) (fun c1 => ?_) (fun c1 => ?_)
  · rw [show (0 : Int32) = nI 0 from rfl, nI_eq (by omega) (by omega)] at c1
    refine j_iload_n C 1 dX12_picksIn_22 rfl ?_
    refine j_iconst C (v := (nI 2)) dX12_picksIn_23 (by decide) ?_
    refine j_icmp_ne C 52 dX12_picksIn_24 (by decide) (fun c24 => ?_) (fun c24 => ?_)
    · rw [nI_eq (by omega) (by omega)] at c24
      refine j_iload_n C 1 dX12_picksIn_52 rfl ?_
      refine j_iconst C (v := (nI 5)) dX12_picksIn_53 (by decide) ?_
      refine j_icmp_ne C 72 dX12_picksIn_54 (by decide) (fun c54 => ?_) (fun c54 => ?_)
      · rw [nI_eq (by omega) (by omega)] at c54
        exfalso; omega
      · rw [nI_eq (by omega) (by omega)] at c54
        refine j_aload_n C 0 dX12_picksIn_57 rfl ?_
        refine j_bipush C (v := (nI 60)) dX12_picksIn_58 (by decide) ?_
        refine j_callVv (As := [.int (nI 60)]) (rest := []) C vw12_ran (c_ran (V := V) (nI 60) t (by omega) h26) rRcv rfl (Nat.le_of_ble_eq_true rfl) dX12_picksIn_60 (by decide) ?_
        rintro _ rfl
        refine j_aload_n C 0 dX12_picksIn_63 rfl ?_
        refine j_iconst C (v := (nI 2)) dX12_picksIn_64 (by decide) ?_
        refine j_iload_n C 2 dX12_picksIn_65 rfl ?_
        refine j_iconst C (v := (nI 1)) dX12_picksIn_66 (by decide) ?_
        refine j_iadd C dX12_picksIn_67 ?_
        refine j_callV (As := [.int (nI 2), .int (x + (nI 1))]) (rest := []) C vw12_picksIn (c_picksIn_2_5 (V := upd V 26 (nI (t + 1))) (n := n) (m := m) (t + 1) (by omega) pk_us (by rw [pk_un (by omega)]; exact h28) (by rw [pk_un (by omega)]; exact h29) (by rw [pk_un (by omega)]; exact h27)) rRcv rfl (Nat.le_of_ble_eq_true rfl) dX12_picksIn_68 (by decide) ?_
        rintro _ _ ⟨rfl, rfl⟩
        rw [upd_upd]
        refine j_iret C dX12_picksIn_71 ?_
        exact ⟨rfl, rfl⟩
    · rw [nI_eq (by omega) (by omega)] at c24
      exfalso; omega
  · rw [show (0 : Int32) = nI 0 from rfl, nI_eq (by omega) (by omega)] at c1
    exfalso; omega
set_option maxHeartbeats 2000000 in
set_option maxRecDepth 20000 in
theorem c_picksIn_0_6 {l : Launch} {D : va_G} {cI cG cW : ClassId} {o : Nat} {q : Nat → Nat} {V row kept tried bf fd pk bo so sh mv tr : Nat → Int32} {x : Int32} (t : Nat) (ht : t + 2 ≤ 40) (h26 : V 26 = nI t) {n m : Int32} (h28 : V 28 = n) (h29 : V 29 = m) (h27 : V 27 = nI 6) : Ci l yX12_picksIn cX12_picksIn 4 (some .int) 8 D (tyL cI cG cW) (wR cI o q) [.ref o, .int (nI 0), .int x] (sR V row kept tried bf fd pk bo so sh mv tr) (fun r τ => r = vP 0 6 n m x ∧ τ = sR (upd V 26 (nI (t + 2))) row kept tried bf fd pk bo so sh mv (trW tr t (vPt 0 6))) := by
  refine Ci.of (by decide) (Nat.le_of_ble_eq_true rfl) ?_
  intro p_ e_ s_ m_ b_ M_ c_ A_ C
  replace C : Cx _ _ _ _ _ _ _ _ RX12 _ _ _ _ := C
  refine j_L [0, 1, 2] [(0, .ref o), (1, .int (nI 0)), (2, .int x)] rfl ?_
  refine j_iload_n C 1 dX12_picksIn_0 rfl ?_
  refine j_if_ne C 22 dX12_picksIn_1 (by decide) (fun c1 => ?_) (fun c1 => ?_)
  · rw [show (0 : Int32) = nI 0 from rfl, nI_eq (by omega) (by omega)] at c1
    exfalso; omega
  · rw [show (0 : Int32) = nI 0 from rfl, nI_eq (by omega) (by omega)] at c1
    refine j_aload_n C 0 dX12_picksIn_4 rfl ?_
    refine j_bipush C (v := (nI 11)) dX12_picksIn_5 (by decide) ?_
    refine j_callVv (As := [.int (nI 11)]) (rest := []) C vw12_ran (c_ran (V := V) (nI 11) t (by omega) h26) rRcv rfl (Nat.le_of_ble_eq_true rfl) dX12_picksIn_7 (by decide) ?_
    rintro _ rfl
    refine j_aload_n C 0 dX12_picksIn_10 rfl ?_
    refine j_aload_n C 0 dX12_picksIn_11 rfl ?_
    refine rg C (v := .int ((upd V 26 (nI (t + 1))) 27)) 27 (by decide) kf12_244 rfl dX12_picksIn_12 ?_
    refine j_v (nI 6) (by rw [pk_un (by omega)]; exact h27) ?_
    refine j_iload_n C 2 dX12_picksIn_15 rfl ?_
    refine j_callV (As := [.int (nI 6), .int x]) (rest := []) C vw12_bowsIn (c_bowsIn_6 (V := upd V 26 (nI (t + 1))) (n := n) (m := m) (t + 1) (by omega) pk_us (by rw [pk_un (by omega)]; exact h28) (by rw [pk_un (by omega)]; exact h29)) rRcv rfl (Nat.le_of_ble_eq_true rfl) dX12_picksIn_16 (by decide) ?_
    rintro _ _ ⟨rfl, rfl⟩
    rw [upd_upd]
    refine j_iconst C (v := (nI 2)) dX12_picksIn_19 (by decide) ?_
    refine j_imul C dX12_picksIn_20 ?_
    refine j_iret C dX12_picksIn_21 ?_
    exact ⟨rfl, rfl⟩
set_option maxHeartbeats 2000000 in
set_option maxRecDepth 20000 in
theorem c_picksIn_3_6 {l : Launch} {D : va_G} {cI cG cW : ClassId} {o : Nat} {q : Nat → Nat} {V row kept tried bf fd pk bo so sh mv tr : Nat → Int32} {x : Int32} (t : Nat) (ht : t + 2 ≤ 40) (h26 : V 26 = nI t) {n m : Int32} (h28 : V 28 = n) (h29 : V 29 = m) (h27 : V 27 = nI 6) : Ci l yX12_picksIn cX12_picksIn 4 (some .int) 9 D (tyL cI cG cW) (wR cI o q) [.ref o, .int (nI 3), .int x] (sR V row kept tried bf fd pk bo so sh mv tr) (fun r τ => r = vP 3 6 n m x ∧ τ = sR (upd V 26 (nI (t + 2))) row kept tried bf fd pk bo so sh mv (trW tr t (vPt 3 6))) := by
  refine Ci.of (by decide) (Nat.le_of_ble_eq_true rfl) ?_
  intro p_ e_ s_ m_ b_ M_ c_ A_ C
  replace C : Cx _ _ _ _ _ _ _ _ RX12 _ _ _ _ := C
  refine j_L [0, 1, 2] [(0, .ref o), (1, .int (nI 3)), (2, .int x)] rfl ?_
  refine j_iload_n C 1 dX12_picksIn_0 rfl ?_
  refine j_if_ne C 22 dX12_picksIn_1 (by decide) (fun c1 => ?_) (fun c1 => ?_)
  · rw [show (0 : Int32) = nI 0 from rfl, nI_eq (by omega) (by omega)] at c1
    refine j_iload_n C 1 dX12_picksIn_22 rfl ?_
    refine j_iconst C (v := (nI 2)) dX12_picksIn_23 (by decide) ?_
    refine j_icmp_ne C 52 dX12_picksIn_24 (by decide) (fun c24 => ?_) (fun c24 => ?_)
    · rw [nI_eq (by omega) (by omega)] at c24
      refine j_iload_n C 1 dX12_picksIn_52 rfl ?_
      refine j_iconst C (v := (nI 5)) dX12_picksIn_53 (by decide) ?_
      refine j_icmp_ne C 72 dX12_picksIn_54 (by decide) (fun c54 => ?_) (fun c54 => ?_)
      · rw [nI_eq (by omega) (by omega)] at c54
        refine j_aload_n C 0 dX12_picksIn_72 rfl ?_
        refine j_iload_n C 1 dX12_picksIn_73 rfl ?_
        refine j_callS (As := [.int (nI 3)]) (rest := [.ref o]) C vw12_above (c_above 3 (by decide)) rfl (Nat.le_of_ble_eq_true rfl) dX12_picksIn_74 (by decide) ?_
        rintro _ _ ⟨rfl, rfl⟩
        refine j_v (nI 0) (by decide) ?_
        refine j_iload_n C 2 dX12_picksIn_77 rfl ?_
        refine j_callV (As := [.int (nI 0), .int x]) (rest := []) C vw12_picksIn (c_picksIn_0_6 (V := V) (n := n) (m := m) t (by omega) h26 h28 h29 h27) rRcv rfl (Nat.le_of_ble_eq_true rfl) dX12_picksIn_78 (by decide) ?_
        rintro _ _ ⟨rfl, rfl⟩
        refine j_iret C dX12_picksIn_81 ?_
        exact ⟨rfl, rfl⟩
      · rw [nI_eq (by omega) (by omega)] at c54
        exfalso; omega
    · rw [nI_eq (by omega) (by omega)] at c24
      exfalso; omega
  · rw [show (0 : Int32) = nI 0 from rfl, nI_eq (by omega) (by omega)] at c1
    exfalso; omega
set_option maxHeartbeats 2000000 in
set_option maxRecDepth 20000 in
theorem c_picksIn_6_6 {l : Launch} {D : va_G} {cI cG cW : ClassId} {o : Nat} {q : Nat → Nat} {V row kept tried bf fd pk bo so sh mv tr : Nat → Int32} {x : Int32} (t : Nat) (ht : t + 2 ≤ 40) (h26 : V 26 = nI t) {n m : Int32} (h28 : V 28 = n) (h29 : V 29 = m) (h27 : V 27 = nI 6) : Ci l yX12_picksIn cX12_picksIn 4 (some .int) 10 D (tyL cI cG cW) (wR cI o q) [.ref o, .int (nI 6), .int x] (sR V row kept tried bf fd pk bo so sh mv tr) (fun r τ => r = vP 6 6 n m x ∧ τ = sR (upd V 26 (nI (t + 2))) row kept tried bf fd pk bo so sh mv (trW tr t (vPt 6 6))) := by
  refine Ci.of (by decide) (Nat.le_of_ble_eq_true rfl) ?_
  intro p_ e_ s_ m_ b_ M_ c_ A_ C
  replace C : Cx _ _ _ _ _ _ _ _ RX12 _ _ _ _ := C
  refine j_L [0, 1, 2] [(0, .ref o), (1, .int (nI 6)), (2, .int x)] rfl ?_
  refine j_iload_n C 1 dX12_picksIn_0 rfl ?_
  refine j_if_ne C 22 dX12_picksIn_1 (by decide) (fun c1 => ?_) (fun c1 => ?_)
  · rw [show (0 : Int32) = nI 0 from rfl, nI_eq (by omega) (by omega)] at c1
    refine j_iload_n C 1 dX12_picksIn_22 rfl ?_
    refine j_iconst C (v := (nI 2)) dX12_picksIn_23 (by decide) ?_
    refine j_icmp_ne C 52 dX12_picksIn_24 (by decide) (fun c24 => ?_) (fun c24 => ?_)
    · rw [nI_eq (by omega) (by omega)] at c24
      refine j_iload_n C 1 dX12_picksIn_52 rfl ?_
      refine j_iconst C (v := (nI 5)) dX12_picksIn_53 (by decide) ?_
      refine j_icmp_ne C 72 dX12_picksIn_54 (by decide) (fun c54 => ?_) (fun c54 => ?_)
      · rw [nI_eq (by omega) (by omega)] at c54
        refine j_aload_n C 0 dX12_picksIn_72 rfl ?_
        refine j_iload_n C 1 dX12_picksIn_73 rfl ?_
        refine j_callS (As := [.int (nI 6)]) (rest := [.ref o]) C vw12_above (c_above 6 (by decide)) rfl (Nat.le_of_ble_eq_true rfl) dX12_picksIn_74 (by decide) ?_
        rintro _ _ ⟨rfl, rfl⟩
        refine j_v (nI 3) (by decide) ?_
        refine j_iload_n C 2 dX12_picksIn_77 rfl ?_
        refine j_callV (As := [.int (nI 3), .int x]) (rest := []) C vw12_picksIn (c_picksIn_3_6 (V := V) (n := n) (m := m) t (by omega) h26 h28 h29 h27) rRcv rfl (Nat.le_of_ble_eq_true rfl) dX12_picksIn_78 (by decide) ?_
        rintro _ _ ⟨rfl, rfl⟩
        refine j_iret C dX12_picksIn_81 ?_
        exact ⟨rfl, rfl⟩
      · rw [nI_eq (by omega) (by omega)] at c54
        exfalso; omega
    · rw [nI_eq (by omega) (by omega)] at c24
      exfalso; omega
  · rw [show (0 : Int32) = nI 0 from rfl, nI_eq (by omega) (by omega)] at c1
    exfalso; omega
theorem dX12_standsIn_0 : decode cX12_standsIn 0 = .ok (.iload_n 1, 1) := by decide +kernel
theorem dX12_standsIn_1 : decode cX12_standsIn 1 = .ok (.ifCond .ne 31, 3) := by decide +kernel
theorem dX12_standsIn_4 : decode cX12_standsIn 4 = .ok (.aload_n 0, 1) := by decide +kernel
theorem dX12_standsIn_5 : decode cX12_standsIn 5 = .ok (.bipush 13, 2) := by decide +kernel
theorem dX12_standsIn_7 : decode cX12_standsIn 7 = .ok (.invokevirtual 229, 3) := by decide +kernel
theorem dX12_standsIn_10 : decode cX12_standsIn 10 = .ok (.aload_n 0, 1) := by decide +kernel
theorem dX12_standsIn_11 : decode cX12_standsIn 11 = .ok (.aload_n 0, 1) := by decide +kernel
theorem dX12_standsIn_12 : decode cX12_standsIn 12 = .ok (.getfield 244, 3) := by decide +kernel
theorem dX12_standsIn_15 : decode cX12_standsIn 15 = .ok (.iload_n 2, 1) := by decide +kernel
theorem dX12_standsIn_16 : decode cX12_standsIn 16 = .ok (.invokevirtual 247, 3) := by decide +kernel
theorem dX12_standsIn_19 : decode cX12_standsIn 19 = .ok (.istore_n 3, 1) := by decide +kernel
theorem dX12_standsIn_20 : decode cX12_standsIn 20 = .ok (.iload_n 3, 1) := by decide +kernel
theorem dX12_standsIn_21 : decode cX12_standsIn 21 = .ok (.aload_n 0, 1) := by decide +kernel
theorem dX12_standsIn_22 : decode cX12_standsIn 22 = .ok (.aload_n 0, 1) := by decide +kernel
theorem dX12_standsIn_23 : decode cX12_standsIn 23 = .ok (.getfield 244, 3) := by decide +kernel
theorem dX12_standsIn_26 : decode cX12_standsIn 26 = .ok (.iload_n 2, 1) := by decide +kernel
theorem dX12_standsIn_27 : decode cX12_standsIn 27 = .ok (.invokevirtual 241, 3) := by decide +kernel
theorem dX12_standsIn_30 : decode cX12_standsIn 30 = .ok (.ixor, 1) := by decide +kernel
theorem dX12_standsIn_31 : decode cX12_standsIn 31 = .ok (.ireturn, 1) := by decide +kernel
theorem dX12_standsIn_32 : decode cX12_standsIn 32 = .ok (.iload_n 1, 1) := by decide +kernel
theorem dX12_standsIn_33 : decode cX12_standsIn 33 = .ok (.iconst 4, 1) := by decide +kernel
theorem dX12_standsIn_34 : decode cX12_standsIn 34 = .ok (.if_icmp .ne 28, 3) := by decide +kernel
theorem dX12_standsIn_37 : decode cX12_standsIn 37 = .ok (.aload_n 0, 1) := by decide +kernel
theorem dX12_standsIn_38 : decode cX12_standsIn 38 = .ok (.bipush 50, 2) := by decide +kernel
theorem dX12_standsIn_40 : decode cX12_standsIn 40 = .ok (.invokevirtual 229, 3) := by decide +kernel
theorem dX12_standsIn_43 : decode cX12_standsIn 43 = .ok (.aload_n 0, 1) := by decide +kernel
theorem dX12_standsIn_44 : decode cX12_standsIn 44 = .ok (.iconst 1, 1) := by decide +kernel
theorem dX12_standsIn_45 : decode cX12_standsIn 45 = .ok (.iload_n 2, 1) := by decide +kernel
theorem dX12_standsIn_46 : decode cX12_standsIn 46 = .ok (.invokevirtual 250, 3) := by decide +kernel
theorem dX12_standsIn_49 : decode cX12_standsIn 49 = .ok (.istore_n 3, 1) := by decide +kernel
theorem dX12_standsIn_50 : decode cX12_standsIn 50 = .ok (.iload_n 3, 1) := by decide +kernel
theorem dX12_standsIn_51 : decode cX12_standsIn 51 = .ok (.aload_n 0, 1) := by decide +kernel
theorem dX12_standsIn_52 : decode cX12_standsIn 52 = .ok (.aload_n 0, 1) := by decide +kernel
theorem dX12_standsIn_53 : decode cX12_standsIn 53 = .ok (.getfield 244, 3) := by decide +kernel
theorem dX12_standsIn_56 : decode cX12_standsIn 56 = .ok (.iconst 2, 1) := by decide +kernel
theorem dX12_standsIn_57 : decode cX12_standsIn 57 = .ok (.invokevirtual 235, 3) := by decide +kernel
theorem dX12_standsIn_60 : decode cX12_standsIn 60 = .ok (.isub, 1) := by decide +kernel
theorem dX12_standsIn_61 : decode cX12_standsIn 61 = .ok (.ireturn, 1) := by decide +kernel
theorem dX12_standsIn_62 : decode cX12_standsIn 62 = .ok (.iload_n 1, 1) := by decide +kernel
theorem dX12_standsIn_63 : decode cX12_standsIn 63 = .ok (.bipush 6, 2) := by decide +kernel
theorem dX12_standsIn_65 : decode cX12_standsIn 65 = .ok (.if_icmp .ne 28, 3) := by decide +kernel
theorem dX12_standsIn_68 : decode cX12_standsIn 68 = .ok (.aload_n 0, 1) := by decide +kernel
theorem dX12_standsIn_69 : decode cX12_standsIn 69 = .ok (.bipush 71, 2) := by decide +kernel
theorem dX12_standsIn_71 : decode cX12_standsIn 71 = .ok (.invokevirtual 229, 3) := by decide +kernel
theorem dX12_standsIn_74 : decode cX12_standsIn 74 = .ok (.aload_n 0, 1) := by decide +kernel
theorem dX12_standsIn_75 : decode cX12_standsIn 75 = .ok (.aload_n 0, 1) := by decide +kernel
theorem dX12_standsIn_76 : decode cX12_standsIn 76 = .ok (.getfield 244, 3) := by decide +kernel
theorem dX12_standsIn_79 : decode cX12_standsIn 79 = .ok (.iload_n 2, 1) := by decide +kernel
theorem dX12_standsIn_80 : decode cX12_standsIn 80 = .ok (.invokevirtual 247, 3) := by decide +kernel
theorem dX12_standsIn_83 : decode cX12_standsIn 83 = .ok (.istore_n 3, 1) := by decide +kernel
theorem dX12_standsIn_84 : decode cX12_standsIn 84 = .ok (.iload_n 3, 1) := by decide +kernel
theorem dX12_standsIn_85 : decode cX12_standsIn 85 = .ok (.aload_n 0, 1) := by decide +kernel
theorem dX12_standsIn_86 : decode cX12_standsIn 86 = .ok (.iconst 3, 1) := by decide +kernel
theorem dX12_standsIn_87 : decode cX12_standsIn 87 = .ok (.iload_n 2, 1) := by decide +kernel
theorem dX12_standsIn_88 : decode cX12_standsIn 88 = .ok (.invokevirtual 250, 3) := by decide +kernel
theorem dX12_standsIn_91 : decode cX12_standsIn 91 = .ok (.isub, 1) := by decide +kernel
theorem dX12_standsIn_92 : decode cX12_standsIn 92 = .ok (.ireturn, 1) := by decide +kernel
theorem dX12_standsIn_93 : decode cX12_standsIn 93 = .ok (.aload_n 0, 1) := by decide +kernel
theorem dX12_standsIn_94 : decode cX12_standsIn 94 = .ok (.iload_n 1, 1) := by decide +kernel
theorem dX12_standsIn_95 : decode cX12_standsIn 95 = .ok (.invokestatic 92, 3) := by decide +kernel
theorem dX12_standsIn_98 : decode cX12_standsIn 98 = .ok (.iload_n 2, 1) := by decide +kernel
theorem dX12_standsIn_99 : decode cX12_standsIn 99 = .ok (.invokevirtual 250, 3) := by decide +kernel
theorem dX12_standsIn_102 : decode cX12_standsIn 102 = .ok (.ireturn, 1) := by decide +kernel
set_option maxHeartbeats 2000000 in
set_option maxRecDepth 20000 in
theorem c_standsIn_0_0 {l : Launch} {D : va_G} {cI cG cW : ClassId} {o : Nat} {q : Nat → Nat} {V row kept tried bf fd pk bo so sh mv tr : Nat → Int32} {x : Int32} (t : Nat) (ht : t + 4 ≤ 40) (h26 : V 26 = nI t) {n m : Int32} (h28 : V 28 = n) (h29 : V 29 = m) (h27 : V 27 = nI 0) : Ci l yX12_standsIn cX12_standsIn 4 (some .int) 14 D (tyL cI cG cW) (wR cI o q) [.ref o, .int (nI 0), .int x] (sR V row kept tried bf fd pk bo so sh mv tr) (fun r τ => r = vT 0 0 n m x ∧ τ = sR (upd V 26 (nI (t + 4))) row kept tried bf fd pk bo so sh mv (trW tr t (vTt 0 0))) := by
  refine Ci.of (by decide) (Nat.le_of_ble_eq_true rfl) ?_
  intro p_ e_ s_ m_ b_ M_ c_ A_ C
  replace C : Cx _ _ _ _ _ _ _ _ RX12 _ _ _ _ := C
  refine j_L [0, 1, 2] [(0, .ref o), (1, .int (nI 0)), (2, .int x)] rfl ?_
  refine j_iload_n C 1 dX12_standsIn_0 rfl ?_
  refine j_if_ne C 32 dX12_standsIn_1 (by decide) (fun c1 => ?_) (fun c1 => ?_)
  · rw [show (0 : Int32) = nI 0 from rfl, nI_eq (by omega) (by omega)] at c1
    exfalso; omega
  · rw [show (0 : Int32) = nI 0 from rfl, nI_eq (by omega) (by omega)] at c1
    refine j_aload_n C 0 dX12_standsIn_4 rfl ?_
    refine j_bipush C (v := (nI 13)) dX12_standsIn_5 (by decide) ?_
    refine j_callVv (As := [.int (nI 13)]) (rest := []) C vw12_ran (c_ran (V := V) (nI 13) t (by omega) h26) rRcv rfl (Nat.le_of_ble_eq_true rfl) dX12_standsIn_7 (by decide) ?_
    rintro _ rfl
    refine j_aload_n C 0 dX12_standsIn_10 rfl ?_
    refine j_aload_n C 0 dX12_standsIn_11 rfl ?_
    refine rg C (v := .int ((upd V 26 (nI (t + 1))) 27)) 27 (by decide) kf12_244 rfl dX12_standsIn_12 ?_
    refine j_v (nI 0) (by rw [pk_un (by omega)]; exact h27) ?_
    refine j_iload_n C 2 dX12_standsIn_15 rfl ?_
    refine j_callV (As := [.int (nI 0), .int x]) (rest := []) C vw12_picksIn (c_picksIn_0_0 (V := upd V 26 (nI (t + 1))) (n := n) (m := m) (t + 1) (by omega) pk_us (by rw [pk_un (by omega)]; exact h28) (by rw [pk_un (by omega)]; exact h29) (by rw [pk_un (by omega)]; exact h27)) rRcv rfl (Nat.le_of_ble_eq_true rfl) dX12_standsIn_16 (by decide) ?_
    rintro _ _ ⟨rfl, rfl⟩
    rw [upd_upd]
    refine j_istore_n C [(3, .int (vP 0 0 n m x)), (0, .ref o), (1, .int (nI 0)), (2, .int x)] dX12_standsIn_19 (by decide) rfl ?_
    refine j_iload_n C 0 dX12_standsIn_20 rfl ?_
    refine j_aload_n C 1 dX12_standsIn_21 rfl ?_
    refine j_aload_n C 1 dX12_standsIn_22 rfl ?_
    refine rg C (v := .int ((upd V 26 (nI (t + 1 + 2))) 27)) 27 (by decide) kf12_244 rfl dX12_standsIn_23 ?_
    refine j_v (nI 0) (by rw [pk_un (by omega)]; exact h27) ?_
    refine j_iload_n C 3 dX12_standsIn_26 rfl ?_
    refine j_callV (As := [.int (nI 0), .int x]) (rest := [.int (vP 0 0 n m x)]) C vw12_sighsIn (c_sighsIn_0 (V := upd V 26 (nI (t + 1 + 2))) (n := n) (m := m) (t + 1 + 2) (by omega) pk_us (by rw [pk_un (by omega)]; exact h28) (by rw [pk_un (by omega)]; exact h29)) rRcv rfl (Nat.le_of_ble_eq_true rfl) dX12_standsIn_27 (by decide) ?_
    rintro _ _ ⟨rfl, rfl⟩
    rw [upd_upd]
    refine j_ixor C dX12_standsIn_30 ?_
    refine j_iret C dX12_standsIn_31 ?_
    exact ⟨rfl, rfl⟩
set_option maxHeartbeats 2000000 in
set_option maxRecDepth 20000 in
theorem c_standsIn_0_1 {l : Launch} {D : va_G} {cI cG cW : ClassId} {o : Nat} {q : Nat → Nat} {V row kept tried bf fd pk bo so sh mv tr : Nat → Int32} {x : Int32} (t : Nat) (ht : t + 5 ≤ 40) (h26 : V 26 = nI t) {n m : Int32} (h28 : V 28 = n) (h29 : V 29 = m) (h27 : V 27 = nI 1) : Ci l yX12_standsIn cX12_standsIn 4 (some .int) 14 D (tyL cI cG cW) (wR cI o q) [.ref o, .int (nI 0), .int x] (sR V row kept tried bf fd pk bo so sh mv tr) (fun r τ => r = vT 0 1 n m x ∧ τ = sR (upd V 26 (nI (t + 5))) row kept tried bf fd pk bo so sh mv (trW tr t (vTt 0 1))) := by
  refine Ci.of (by decide) (Nat.le_of_ble_eq_true rfl) ?_
  intro p_ e_ s_ m_ b_ M_ c_ A_ C
  replace C : Cx _ _ _ _ _ _ _ _ RX12 _ _ _ _ := C
  refine j_L [0, 1, 2] [(0, .ref o), (1, .int (nI 0)), (2, .int x)] rfl ?_
  refine j_iload_n C 1 dX12_standsIn_0 rfl ?_
  refine j_if_ne C 32 dX12_standsIn_1 (by decide) (fun c1 => ?_) (fun c1 => ?_)
  · rw [show (0 : Int32) = nI 0 from rfl, nI_eq (by omega) (by omega)] at c1
    exfalso; omega
  · rw [show (0 : Int32) = nI 0 from rfl, nI_eq (by omega) (by omega)] at c1
    refine j_aload_n C 0 dX12_standsIn_4 rfl ?_
    refine j_bipush C (v := (nI 13)) dX12_standsIn_5 (by decide) ?_
    refine j_callVv (As := [.int (nI 13)]) (rest := []) C vw12_ran (c_ran (V := V) (nI 13) t (by omega) h26) rRcv rfl (Nat.le_of_ble_eq_true rfl) dX12_standsIn_7 (by decide) ?_
    rintro _ rfl
    refine j_aload_n C 0 dX12_standsIn_10 rfl ?_
    refine j_aload_n C 0 dX12_standsIn_11 rfl ?_
    refine rg C (v := .int ((upd V 26 (nI (t + 1))) 27)) 27 (by decide) kf12_244 rfl dX12_standsIn_12 ?_
    refine j_v (nI 1) (by rw [pk_un (by omega)]; exact h27) ?_
    refine j_iload_n C 2 dX12_standsIn_15 rfl ?_
    refine j_callV (As := [.int (nI 1), .int x]) (rest := []) C vw12_picksIn (c_picksIn_1_1 (V := upd V 26 (nI (t + 1))) (n := n) (m := m) (t + 1) (by omega) pk_us (by rw [pk_un (by omega)]; exact h28) (by rw [pk_un (by omega)]; exact h29) (by rw [pk_un (by omega)]; exact h27)) rRcv rfl (Nat.le_of_ble_eq_true rfl) dX12_standsIn_16 (by decide) ?_
    rintro _ _ ⟨rfl, rfl⟩
    rw [upd_upd]
    refine j_istore_n C [(3, .int (vP 1 1 n m x)), (0, .ref o), (1, .int (nI 0)), (2, .int x)] dX12_standsIn_19 (by decide) rfl ?_
    refine j_iload_n C 0 dX12_standsIn_20 rfl ?_
    refine j_aload_n C 1 dX12_standsIn_21 rfl ?_
    refine j_aload_n C 1 dX12_standsIn_22 rfl ?_
    refine rg C (v := .int ((upd V 26 (nI (t + 1 + 3))) 27)) 27 (by decide) kf12_244 rfl dX12_standsIn_23 ?_
    refine j_v (nI 1) (by rw [pk_un (by omega)]; exact h27) ?_
    refine j_iload_n C 3 dX12_standsIn_26 rfl ?_
    refine j_callV (As := [.int (nI 1), .int x]) (rest := [.int (vP 1 1 n m x)]) C vw12_sighsIn (c_sighsIn_1 (V := upd V 26 (nI (t + 1 + 3))) (n := n) (m := m) (t + 1 + 3) (by omega) pk_us (by rw [pk_un (by omega)]; exact h28) (by rw [pk_un (by omega)]; exact h29)) rRcv rfl (Nat.le_of_ble_eq_true rfl) dX12_standsIn_27 (by decide) ?_
    rintro _ _ ⟨rfl, rfl⟩
    rw [upd_upd]
    refine j_ixor C dX12_standsIn_30 ?_
    refine j_iret C dX12_standsIn_31 ?_
    exact ⟨rfl, rfl⟩
set_option maxHeartbeats 2000000 in
set_option maxRecDepth 20000 in
theorem c_standsIn_1_1 {l : Launch} {D : va_G} {cI cG cW : ClassId} {o : Nat} {q : Nat → Nat} {V row kept tried bf fd pk bo so sh mv tr : Nat → Int32} {x : Int32} (t : Nat) (ht : t + 5 ≤ 40) (h26 : V 26 = nI t) {n m : Int32} (h28 : V 28 = n) (h29 : V 29 = m) (h27 : V 27 = nI 1) : Ci l yX12_standsIn cX12_standsIn 4 (some .int) 15 D (tyL cI cG cW) (wR cI o q) [.ref o, .int (nI 1), .int x] (sR V row kept tried bf fd pk bo so sh mv tr) (fun r τ => r = vT 1 1 n m x ∧ τ = sR (upd V 26 (nI (t + 5))) row kept tried bf fd pk bo so sh mv (trW tr t (vTt 1 1))) := by
  refine Ci.of (by decide) (Nat.le_of_ble_eq_true rfl) ?_
  intro p_ e_ s_ m_ b_ M_ c_ A_ C
  replace C : Cx _ _ _ _ _ _ _ _ RX12 _ _ _ _ := C
  refine j_L [0, 1, 2] [(0, .ref o), (1, .int (nI 1)), (2, .int x)] rfl ?_
  refine j_iload_n C 1 dX12_standsIn_0 rfl ?_
  refine j_if_ne C 32 dX12_standsIn_1 (by decide) (fun c1 => ?_) (fun c1 => ?_)
  · rw [show (0 : Int32) = nI 0 from rfl, nI_eq (by omega) (by omega)] at c1
    refine j_iload_n C 1 dX12_standsIn_32 rfl ?_
    refine j_iconst C (v := (nI 4)) dX12_standsIn_33 (by decide) ?_
    refine j_icmp_ne C 62 dX12_standsIn_34 (by decide) (fun c34 => ?_) (fun c34 => ?_)
    · rw [nI_eq (by omega) (by omega)] at c34
      refine j_iload_n C 1 dX12_standsIn_62 rfl ?_
      refine j_bipush C (v := (nI 6)) dX12_standsIn_63 (by decide) ?_
      refine j_icmp_ne C 93 dX12_standsIn_65 (by decide) (fun c65 => ?_) (fun c65 => ?_)
      · rw [nI_eq (by omega) (by omega)] at c65
        refine j_aload_n C 0 dX12_standsIn_93 rfl ?_
        refine j_iload_n C 1 dX12_standsIn_94 rfl ?_
        refine j_callS (As := [.int (nI 1)]) (rest := [.ref o]) C vw12_above (c_above 1 (by decide)) rfl (Nat.le_of_ble_eq_true rfl) dX12_standsIn_95 (by decide) ?_
        rintro _ _ ⟨rfl, rfl⟩
        refine j_v (nI 0) (by decide) ?_
        refine j_iload_n C 2 dX12_standsIn_98 rfl ?_
        refine j_callV (As := [.int (nI 0), .int x]) (rest := []) C vw12_standsIn (c_standsIn_0_1 (V := V) (n := n) (m := m) t (by omega) h26 h28 h29 h27) rRcv rfl (Nat.le_of_ble_eq_true rfl) dX12_standsIn_99 (by decide) ?_
        rintro _ _ ⟨rfl, rfl⟩
        refine j_iret C dX12_standsIn_102 ?_
        exact ⟨rfl, rfl⟩
      · rw [nI_eq (by omega) (by omega)] at c65
        exfalso; omega
    · rw [nI_eq (by omega) (by omega)] at c34
      exfalso; omega
  · rw [show (0 : Int32) = nI 0 from rfl, nI_eq (by omega) (by omega)] at c1
    exfalso; omega
set_option maxHeartbeats 2000000 in
set_option maxRecDepth 20000 in
theorem c_standsIn_0_2 {l : Launch} {D : va_G} {cI cG cW : ClassId} {o : Nat} {q : Nat → Nat} {V row kept tried bf fd pk bo so sh mv tr : Nat → Int32} {x : Int32} (t : Nat) (ht : t + 6 ≤ 40) (h26 : V 26 = nI t) {n m : Int32} (h28 : V 28 = n) (h29 : V 29 = m) (h27 : V 27 = nI 2) : Ci l yX12_standsIn cX12_standsIn 4 (some .int) 14 D (tyL cI cG cW) (wR cI o q) [.ref o, .int (nI 0), .int x] (sR V row kept tried bf fd pk bo so sh mv tr) (fun r τ => r = vT 0 2 n m x ∧ τ = sR (upd V 26 (nI (t + 6))) row kept tried bf fd pk bo so sh mv (trW tr t (vTt 0 2))) := by
  refine Ci.of (by decide) (Nat.le_of_ble_eq_true rfl) ?_
  intro p_ e_ s_ m_ b_ M_ c_ A_ C
  replace C : Cx _ _ _ _ _ _ _ _ RX12 _ _ _ _ := C
  refine j_L [0, 1, 2] [(0, .ref o), (1, .int (nI 0)), (2, .int x)] rfl ?_
  refine j_iload_n C 1 dX12_standsIn_0 rfl ?_
  refine j_if_ne C 32 dX12_standsIn_1 (by decide) (fun c1 => ?_) (fun c1 => ?_)
  · rw [show (0 : Int32) = nI 0 from rfl, nI_eq (by omega) (by omega)] at c1
    exfalso; omega
  · rw [show (0 : Int32) = nI 0 from rfl, nI_eq (by omega) (by omega)] at c1
    refine j_aload_n C 0 dX12_standsIn_4 rfl ?_
    refine j_bipush C (v := (nI 13)) dX12_standsIn_5 (by decide) ?_
    refine j_callVv (As := [.int (nI 13)]) (rest := []) C vw12_ran (c_ran (V := V) (nI 13) t (by omega) h26) rRcv rfl (Nat.le_of_ble_eq_true rfl) dX12_standsIn_7 (by decide) ?_
    rintro _ rfl
    refine j_aload_n C 0 dX12_standsIn_10 rfl ?_
    refine j_aload_n C 0 dX12_standsIn_11 rfl ?_
    refine rg C (v := .int ((upd V 26 (nI (t + 1))) 27)) 27 (by decide) kf12_244 rfl dX12_standsIn_12 ?_
    refine j_v (nI 2) (by rw [pk_un (by omega)]; exact h27) ?_
    refine j_iload_n C 2 dX12_standsIn_15 rfl ?_
    refine j_callV (As := [.int (nI 2), .int x]) (rest := []) C vw12_picksIn (c_picksIn_2_2 (V := upd V 26 (nI (t + 1))) (n := n) (m := m) (t + 1) (by omega) pk_us (by rw [pk_un (by omega)]; exact h28) (by rw [pk_un (by omega)]; exact h29) (by rw [pk_un (by omega)]; exact h27)) rRcv rfl (Nat.le_of_ble_eq_true rfl) dX12_standsIn_16 (by decide) ?_
    rintro _ _ ⟨rfl, rfl⟩
    rw [upd_upd]
    refine j_istore_n C [(3, .int (vP 2 2 n m x)), (0, .ref o), (1, .int (nI 0)), (2, .int x)] dX12_standsIn_19 (by decide) rfl ?_
    refine j_iload_n C 0 dX12_standsIn_20 rfl ?_
    refine j_aload_n C 1 dX12_standsIn_21 rfl ?_
    refine j_aload_n C 1 dX12_standsIn_22 rfl ?_
    refine rg C (v := .int ((upd V 26 (nI (t + 1 + 4))) 27)) 27 (by decide) kf12_244 rfl dX12_standsIn_23 ?_
    refine j_v (nI 2) (by rw [pk_un (by omega)]; exact h27) ?_
    refine j_iload_n C 3 dX12_standsIn_26 rfl ?_
    refine j_callV (As := [.int (nI 2), .int x]) (rest := [.int (vP 2 2 n m x)]) C vw12_sighsIn (c_sighsIn_2 (V := upd V 26 (nI (t + 1 + 4))) (n := n) (m := m) (t + 1 + 4) (by omega) pk_us (by rw [pk_un (by omega)]; exact h28) (by rw [pk_un (by omega)]; exact h29)) rRcv rfl (Nat.le_of_ble_eq_true rfl) dX12_standsIn_27 (by decide) ?_
    rintro _ _ ⟨rfl, rfl⟩
    rw [upd_upd]
    refine j_ixor C dX12_standsIn_30 ?_
    refine j_iret C dX12_standsIn_31 ?_
    exact ⟨rfl, rfl⟩
set_option maxHeartbeats 2000000 in
set_option maxRecDepth 20000 in
theorem c_standsIn_2_2 {l : Launch} {D : va_G} {cI cG cW : ClassId} {o : Nat} {q : Nat → Nat} {V row kept tried bf fd pk bo so sh mv tr : Nat → Int32} {x : Int32} (t : Nat) (ht : t + 6 ≤ 40) (h26 : V 26 = nI t) {n m : Int32} (h28 : V 28 = n) (h29 : V 29 = m) (h27 : V 27 = nI 2) : Ci l yX12_standsIn cX12_standsIn 4 (some .int) 15 D (tyL cI cG cW) (wR cI o q) [.ref o, .int (nI 2), .int x] (sR V row kept tried bf fd pk bo so sh mv tr) (fun r τ => r = vT 2 2 n m x ∧ τ = sR (upd V 26 (nI (t + 6))) row kept tried bf fd pk bo so sh mv (trW tr t (vTt 2 2))) := by
  refine Ci.of (by decide) (Nat.le_of_ble_eq_true rfl) ?_
  intro p_ e_ s_ m_ b_ M_ c_ A_ C
  replace C : Cx _ _ _ _ _ _ _ _ RX12 _ _ _ _ := C
  refine j_L [0, 1, 2] [(0, .ref o), (1, .int (nI 2)), (2, .int x)] rfl ?_
  refine j_iload_n C 1 dX12_standsIn_0 rfl ?_
  refine j_if_ne C 32 dX12_standsIn_1 (by decide) (fun c1 => ?_) (fun c1 => ?_)
  · rw [show (0 : Int32) = nI 0 from rfl, nI_eq (by omega) (by omega)] at c1
    refine j_iload_n C 1 dX12_standsIn_32 rfl ?_
    refine j_iconst C (v := (nI 4)) dX12_standsIn_33 (by decide) ?_
    refine j_icmp_ne C 62 dX12_standsIn_34 (by decide) (fun c34 => ?_) (fun c34 => ?_)
    · rw [nI_eq (by omega) (by omega)] at c34
      refine j_iload_n C 1 dX12_standsIn_62 rfl ?_
      refine j_bipush C (v := (nI 6)) dX12_standsIn_63 (by decide) ?_
      refine j_icmp_ne C 93 dX12_standsIn_65 (by decide) (fun c65 => ?_) (fun c65 => ?_)
      · rw [nI_eq (by omega) (by omega)] at c65
        refine j_aload_n C 0 dX12_standsIn_93 rfl ?_
        refine j_iload_n C 1 dX12_standsIn_94 rfl ?_
        refine j_callS (As := [.int (nI 2)]) (rest := [.ref o]) C vw12_above (c_above 2 (by decide)) rfl (Nat.le_of_ble_eq_true rfl) dX12_standsIn_95 (by decide) ?_
        rintro _ _ ⟨rfl, rfl⟩
        refine j_v (nI 0) (by decide) ?_
        refine j_iload_n C 2 dX12_standsIn_98 rfl ?_
        refine j_callV (As := [.int (nI 0), .int x]) (rest := []) C vw12_standsIn (c_standsIn_0_2 (V := V) (n := n) (m := m) t (by omega) h26 h28 h29 h27) rRcv rfl (Nat.le_of_ble_eq_true rfl) dX12_standsIn_99 (by decide) ?_
        rintro _ _ ⟨rfl, rfl⟩
        refine j_iret C dX12_standsIn_102 ?_
        exact ⟨rfl, rfl⟩
      · rw [nI_eq (by omega) (by omega)] at c65
        exfalso; omega
    · rw [nI_eq (by omega) (by omega)] at c34
      exfalso; omega
  · rw [show (0 : Int32) = nI 0 from rfl, nI_eq (by omega) (by omega)] at c1
    exfalso; omega
set_option maxHeartbeats 2000000 in
set_option maxRecDepth 20000 in
theorem c_standsIn_0_3 {l : Launch} {D : va_G} {cI cG cW : ClassId} {o : Nat} {q : Nat → Nat} {V row kept tried bf fd pk bo so sh mv tr : Nat → Int32} {x : Int32} (t : Nat) (ht : t + 5 ≤ 40) (h26 : V 26 = nI t) {n m : Int32} (h28 : V 28 = n) (h29 : V 29 = m) (h27 : V 27 = nI 3) : Ci l yX12_standsIn cX12_standsIn 4 (some .int) 14 D (tyL cI cG cW) (wR cI o q) [.ref o, .int (nI 0), .int x] (sR V row kept tried bf fd pk bo so sh mv tr) (fun r τ => r = vT 0 3 n m x ∧ τ = sR (upd V 26 (nI (t + 5))) row kept tried bf fd pk bo so sh mv (trW tr t (vTt 0 3))) := by
  refine Ci.of (by decide) (Nat.le_of_ble_eq_true rfl) ?_
  intro p_ e_ s_ m_ b_ M_ c_ A_ C
  replace C : Cx _ _ _ _ _ _ _ _ RX12 _ _ _ _ := C
  refine j_L [0, 1, 2] [(0, .ref o), (1, .int (nI 0)), (2, .int x)] rfl ?_
  refine j_iload_n C 1 dX12_standsIn_0 rfl ?_
  refine j_if_ne C 32 dX12_standsIn_1 (by decide) (fun c1 => ?_) (fun c1 => ?_)
  · rw [show (0 : Int32) = nI 0 from rfl, nI_eq (by omega) (by omega)] at c1
    exfalso; omega
  · rw [show (0 : Int32) = nI 0 from rfl, nI_eq (by omega) (by omega)] at c1
    refine j_aload_n C 0 dX12_standsIn_4 rfl ?_
    refine j_bipush C (v := (nI 13)) dX12_standsIn_5 (by decide) ?_
    refine j_callVv (As := [.int (nI 13)]) (rest := []) C vw12_ran (c_ran (V := V) (nI 13) t (by omega) h26) rRcv rfl (Nat.le_of_ble_eq_true rfl) dX12_standsIn_7 (by decide) ?_
    rintro _ rfl
    refine j_aload_n C 0 dX12_standsIn_10 rfl ?_
    refine j_aload_n C 0 dX12_standsIn_11 rfl ?_
    refine rg C (v := .int ((upd V 26 (nI (t + 1))) 27)) 27 (by decide) kf12_244 rfl dX12_standsIn_12 ?_
    refine j_v (nI 3) (by rw [pk_un (by omega)]; exact h27) ?_
    refine j_iload_n C 2 dX12_standsIn_15 rfl ?_
    refine j_callV (As := [.int (nI 3), .int x]) (rest := []) C vw12_picksIn (c_picksIn_3_3 (V := upd V 26 (nI (t + 1))) (n := n) (m := m) (t + 1) (by omega) pk_us (by rw [pk_un (by omega)]; exact h28) (by rw [pk_un (by omega)]; exact h29) (by rw [pk_un (by omega)]; exact h27)) rRcv rfl (Nat.le_of_ble_eq_true rfl) dX12_standsIn_16 (by decide) ?_
    rintro _ _ ⟨rfl, rfl⟩
    rw [upd_upd]
    refine j_istore_n C [(3, .int (vP 3 3 n m x)), (0, .ref o), (1, .int (nI 0)), (2, .int x)] dX12_standsIn_19 (by decide) rfl ?_
    refine j_iload_n C 0 dX12_standsIn_20 rfl ?_
    refine j_aload_n C 1 dX12_standsIn_21 rfl ?_
    refine j_aload_n C 1 dX12_standsIn_22 rfl ?_
    refine rg C (v := .int ((upd V 26 (nI (t + 1 + 2))) 27)) 27 (by decide) kf12_244 rfl dX12_standsIn_23 ?_
    refine j_v (nI 3) (by rw [pk_un (by omega)]; exact h27) ?_
    refine j_iload_n C 3 dX12_standsIn_26 rfl ?_
    refine j_callV (As := [.int (nI 3), .int x]) (rest := [.int (vP 3 3 n m x)]) C vw12_sighsIn (c_sighsIn_3 (V := upd V 26 (nI (t + 1 + 2))) (n := n) (m := m) (t + 1 + 2) (by omega) pk_us (by rw [pk_un (by omega)]; exact h28) (by rw [pk_un (by omega)]; exact h29)) rRcv rfl (Nat.le_of_ble_eq_true rfl) dX12_standsIn_27 (by decide) ?_
    rintro _ _ ⟨rfl, rfl⟩
    rw [upd_upd]
    refine j_ixor C dX12_standsIn_30 ?_
    refine j_iret C dX12_standsIn_31 ?_
    exact ⟨rfl, rfl⟩
set_option maxHeartbeats 2000000 in
set_option maxRecDepth 20000 in
theorem c_standsIn_3_3 {l : Launch} {D : va_G} {cI cG cW : ClassId} {o : Nat} {q : Nat → Nat} {V row kept tried bf fd pk bo so sh mv tr : Nat → Int32} {x : Int32} (t : Nat) (ht : t + 5 ≤ 40) (h26 : V 26 = nI t) {n m : Int32} (h28 : V 28 = n) (h29 : V 29 = m) (h27 : V 27 = nI 3) : Ci l yX12_standsIn cX12_standsIn 4 (some .int) 15 D (tyL cI cG cW) (wR cI o q) [.ref o, .int (nI 3), .int x] (sR V row kept tried bf fd pk bo so sh mv tr) (fun r τ => r = vT 3 3 n m x ∧ τ = sR (upd V 26 (nI (t + 5))) row kept tried bf fd pk bo so sh mv (trW tr t (vTt 3 3))) := by
  refine Ci.of (by decide) (Nat.le_of_ble_eq_true rfl) ?_
  intro p_ e_ s_ m_ b_ M_ c_ A_ C
  replace C : Cx _ _ _ _ _ _ _ _ RX12 _ _ _ _ := C
  refine j_L [0, 1, 2] [(0, .ref o), (1, .int (nI 3)), (2, .int x)] rfl ?_
  refine j_iload_n C 1 dX12_standsIn_0 rfl ?_
  refine j_if_ne C 32 dX12_standsIn_1 (by decide) (fun c1 => ?_) (fun c1 => ?_)
  · rw [show (0 : Int32) = nI 0 from rfl, nI_eq (by omega) (by omega)] at c1
    refine j_iload_n C 1 dX12_standsIn_32 rfl ?_
    refine j_iconst C (v := (nI 4)) dX12_standsIn_33 (by decide) ?_
    refine j_icmp_ne C 62 dX12_standsIn_34 (by decide) (fun c34 => ?_) (fun c34 => ?_)
    · rw [nI_eq (by omega) (by omega)] at c34
      refine j_iload_n C 1 dX12_standsIn_62 rfl ?_
      refine j_bipush C (v := (nI 6)) dX12_standsIn_63 (by decide) ?_
      refine j_icmp_ne C 93 dX12_standsIn_65 (by decide) (fun c65 => ?_) (fun c65 => ?_)
      · rw [nI_eq (by omega) (by omega)] at c65
        refine j_aload_n C 0 dX12_standsIn_93 rfl ?_
        refine j_iload_n C 1 dX12_standsIn_94 rfl ?_
        refine j_callS (As := [.int (nI 3)]) (rest := [.ref o]) C vw12_above (c_above 3 (by decide)) rfl (Nat.le_of_ble_eq_true rfl) dX12_standsIn_95 (by decide) ?_
        rintro _ _ ⟨rfl, rfl⟩
        refine j_v (nI 0) (by decide) ?_
        refine j_iload_n C 2 dX12_standsIn_98 rfl ?_
        refine j_callV (As := [.int (nI 0), .int x]) (rest := []) C vw12_standsIn (c_standsIn_0_3 (V := V) (n := n) (m := m) t (by omega) h26 h28 h29 h27) rRcv rfl (Nat.le_of_ble_eq_true rfl) dX12_standsIn_99 (by decide) ?_
        rintro _ _ ⟨rfl, rfl⟩
        refine j_iret C dX12_standsIn_102 ?_
        exact ⟨rfl, rfl⟩
      · rw [nI_eq (by omega) (by omega)] at c65
        exfalso; omega
    · rw [nI_eq (by omega) (by omega)] at c34
      exfalso; omega
  · rw [show (0 : Int32) = nI 0 from rfl, nI_eq (by omega) (by omega)] at c1
    exfalso; omega
set_option maxHeartbeats 2000000 in
set_option maxRecDepth 20000 in
theorem c_standsIn_0_4 {l : Launch} {D : va_G} {cI cG cW : ClassId} {o : Nat} {q : Nat → Nat} {V row kept tried bf fd pk bo so sh mv tr : Nat → Int32} {x : Int32} (t : Nat) (ht : t + 5 ≤ 40) (h26 : V 26 = nI t) {n m : Int32} (h28 : V 28 = n) (h29 : V 29 = m) (h27 : V 27 = nI 4) : Ci l yX12_standsIn cX12_standsIn 4 (some .int) 14 D (tyL cI cG cW) (wR cI o q) [.ref o, .int (nI 0), .int x] (sR V row kept tried bf fd pk bo so sh mv tr) (fun r τ => r = vT 0 4 n m x ∧ τ = sR (upd V 26 (nI (t + 5))) row kept tried bf fd pk bo so sh mv (trW tr t (vTt 0 4))) := by
  refine Ci.of (by decide) (Nat.le_of_ble_eq_true rfl) ?_
  intro p_ e_ s_ m_ b_ M_ c_ A_ C
  replace C : Cx _ _ _ _ _ _ _ _ RX12 _ _ _ _ := C
  refine j_L [0, 1, 2] [(0, .ref o), (1, .int (nI 0)), (2, .int x)] rfl ?_
  refine j_iload_n C 1 dX12_standsIn_0 rfl ?_
  refine j_if_ne C 32 dX12_standsIn_1 (by decide) (fun c1 => ?_) (fun c1 => ?_)
  · rw [show (0 : Int32) = nI 0 from rfl, nI_eq (by omega) (by omega)] at c1
    exfalso; omega
  · rw [show (0 : Int32) = nI 0 from rfl, nI_eq (by omega) (by omega)] at c1
    refine j_aload_n C 0 dX12_standsIn_4 rfl ?_
    refine j_bipush C (v := (nI 13)) dX12_standsIn_5 (by decide) ?_
    refine j_callVv (As := [.int (nI 13)]) (rest := []) C vw12_ran (c_ran (V := V) (nI 13) t (by omega) h26) rRcv rfl (Nat.le_of_ble_eq_true rfl) dX12_standsIn_7 (by decide) ?_
    rintro _ rfl
    refine j_aload_n C 0 dX12_standsIn_10 rfl ?_
    refine j_aload_n C 0 dX12_standsIn_11 rfl ?_
    refine rg C (v := .int ((upd V 26 (nI (t + 1))) 27)) 27 (by decide) kf12_244 rfl dX12_standsIn_12 ?_
    refine j_v (nI 4) (by rw [pk_un (by omega)]; exact h27) ?_
    refine j_iload_n C 2 dX12_standsIn_15 rfl ?_
    refine j_callV (As := [.int (nI 4), .int x]) (rest := []) C vw12_picksIn (c_picksIn_4_4 (V := upd V 26 (nI (t + 1))) (n := n) (m := m) (t + 1) (by omega) pk_us (by rw [pk_un (by omega)]; exact h28) (by rw [pk_un (by omega)]; exact h29) (by rw [pk_un (by omega)]; exact h27)) rRcv rfl (Nat.le_of_ble_eq_true rfl) dX12_standsIn_16 (by decide) ?_
    rintro _ _ ⟨rfl, rfl⟩
    rw [upd_upd]
    refine j_istore_n C [(3, .int (vP 4 4 n m x)), (0, .ref o), (1, .int (nI 0)), (2, .int x)] dX12_standsIn_19 (by decide) rfl ?_
    refine j_iload_n C 0 dX12_standsIn_20 rfl ?_
    refine j_aload_n C 1 dX12_standsIn_21 rfl ?_
    refine j_aload_n C 1 dX12_standsIn_22 rfl ?_
    refine rg C (v := .int ((upd V 26 (nI (t + 1 + 3))) 27)) 27 (by decide) kf12_244 rfl dX12_standsIn_23 ?_
    refine j_v (nI 4) (by rw [pk_un (by omega)]; exact h27) ?_
    refine j_iload_n C 3 dX12_standsIn_26 rfl ?_
    refine j_callV (As := [.int (nI 4), .int x]) (rest := [.int (vP 4 4 n m x)]) C vw12_sighsIn (c_sighsIn_4 (V := upd V 26 (nI (t + 1 + 3))) (n := n) (m := m) (t + 1 + 3) (by omega) pk_us (by rw [pk_un (by omega)]; exact h28) (by rw [pk_un (by omega)]; exact h29)) rRcv rfl (Nat.le_of_ble_eq_true rfl) dX12_standsIn_27 (by decide) ?_
    rintro _ _ ⟨rfl, rfl⟩
    rw [upd_upd]
    refine j_ixor C dX12_standsIn_30 ?_
    refine j_iret C dX12_standsIn_31 ?_
    exact ⟨rfl, rfl⟩
set_option maxHeartbeats 2000000 in
set_option maxRecDepth 20000 in
theorem c_standsIn_1_4 {l : Launch} {D : va_G} {cI cG cW : ClassId} {o : Nat} {q : Nat → Nat} {V row kept tried bf fd pk bo so sh mv tr : Nat → Int32} {x : Int32} (t : Nat) (ht : t + 5 ≤ 40) (h26 : V 26 = nI t) {n m : Int32} (h28 : V 28 = n) (h29 : V 29 = m) (h27 : V 27 = nI 4) : Ci l yX12_standsIn cX12_standsIn 4 (some .int) 15 D (tyL cI cG cW) (wR cI o q) [.ref o, .int (nI 1), .int x] (sR V row kept tried bf fd pk bo so sh mv tr) (fun r τ => r = vT 1 4 n m x ∧ τ = sR (upd V 26 (nI (t + 5))) row kept tried bf fd pk bo so sh mv (trW tr t (vTt 1 4))) := by
  refine Ci.of (by decide) (Nat.le_of_ble_eq_true rfl) ?_
  intro p_ e_ s_ m_ b_ M_ c_ A_ C
  replace C : Cx _ _ _ _ _ _ _ _ RX12 _ _ _ _ := C
  refine j_L [0, 1, 2] [(0, .ref o), (1, .int (nI 1)), (2, .int x)] rfl ?_
  refine j_iload_n C 1 dX12_standsIn_0 rfl ?_
  refine j_if_ne C 32 dX12_standsIn_1 (by decide) (fun c1 => ?_) (fun c1 => ?_)
  · rw [show (0 : Int32) = nI 0 from rfl, nI_eq (by omega) (by omega)] at c1
    refine j_iload_n C 1 dX12_standsIn_32 rfl ?_
    refine j_iconst C (v := (nI 4)) dX12_standsIn_33 (by decide) ?_
    refine j_icmp_ne C 62 dX12_standsIn_34 (by decide) (fun c34 => ?_) (fun c34 => ?_)
    · rw [nI_eq (by omega) (by omega)] at c34
      refine j_iload_n C 1 dX12_standsIn_62 rfl ?_
      refine j_bipush C (v := (nI 6)) dX12_standsIn_63 (by decide) ?_
      refine j_icmp_ne C 93 dX12_standsIn_65 (by decide) (fun c65 => ?_) (fun c65 => ?_)
      · rw [nI_eq (by omega) (by omega)] at c65
        refine j_aload_n C 0 dX12_standsIn_93 rfl ?_
        refine j_iload_n C 1 dX12_standsIn_94 rfl ?_
        refine j_callS (As := [.int (nI 1)]) (rest := [.ref o]) C vw12_above (c_above 1 (by decide)) rfl (Nat.le_of_ble_eq_true rfl) dX12_standsIn_95 (by decide) ?_
        rintro _ _ ⟨rfl, rfl⟩
        refine j_v (nI 0) (by decide) ?_
        refine j_iload_n C 2 dX12_standsIn_98 rfl ?_
        refine j_callV (As := [.int (nI 0), .int x]) (rest := []) C vw12_standsIn (c_standsIn_0_4 (V := V) (n := n) (m := m) t (by omega) h26 h28 h29 h27) rRcv rfl (Nat.le_of_ble_eq_true rfl) dX12_standsIn_99 (by decide) ?_
        rintro _ _ ⟨rfl, rfl⟩
        refine j_iret C dX12_standsIn_102 ?_
        exact ⟨rfl, rfl⟩
      · rw [nI_eq (by omega) (by omega)] at c65
        exfalso; omega
    · rw [nI_eq (by omega) (by omega)] at c34
      exfalso; omega
  · rw [show (0 : Int32) = nI 0 from rfl, nI_eq (by omega) (by omega)] at c1
    exfalso; omega
set_option maxHeartbeats 2000000 in
set_option maxRecDepth 20000 in
theorem c_standsIn_4_4 {l : Launch} {D : va_G} {cI cG cW : ClassId} {o : Nat} {q : Nat → Nat} {V row kept tried bf fd pk bo so sh mv tr : Nat → Int32} {x : Int32} (t : Nat) (ht : t + 8 ≤ 40) (h26 : V 26 = nI t) {n m : Int32} (h28 : V 28 = n) (h29 : V 29 = m) (h27 : V 27 = nI 4) : Ci l yX12_standsIn cX12_standsIn 4 (some .int) 16 D (tyL cI cG cW) (wR cI o q) [.ref o, .int (nI 4), .int x] (sR V row kept tried bf fd pk bo so sh mv tr) (fun r τ => r = vT 4 4 n m x ∧ τ = sR (upd V 26 (nI (t + 8))) row kept tried bf fd pk bo so sh mv (trW tr t (vTt 4 4))) := by
  refine Ci.of (by decide) (Nat.le_of_ble_eq_true rfl) ?_
  intro p_ e_ s_ m_ b_ M_ c_ A_ C
  replace C : Cx _ _ _ _ _ _ _ _ RX12 _ _ _ _ := C
  refine j_L [0, 1, 2] [(0, .ref o), (1, .int (nI 4)), (2, .int x)] rfl ?_
  refine j_iload_n C 1 dX12_standsIn_0 rfl ?_
  refine j_if_ne C 32 dX12_standsIn_1 (by decide) (fun c1 => ?_) (fun c1 => ?_)
  · rw [show (0 : Int32) = nI 0 from rfl, nI_eq (by omega) (by omega)] at c1
    refine j_iload_n C 1 dX12_standsIn_32 rfl ?_
    refine j_iconst C (v := (nI 4)) dX12_standsIn_33 (by decide) ?_
    refine j_icmp_ne C 62 dX12_standsIn_34 (by decide) (fun c34 => ?_) (fun c34 => ?_)
    · rw [nI_eq (by omega) (by omega)] at c34
      exfalso; omega
    · rw [nI_eq (by omega) (by omega)] at c34
      refine j_aload_n C 0 dX12_standsIn_37 rfl ?_
      refine j_bipush C (v := (nI 50)) dX12_standsIn_38 (by decide) ?_
      refine j_callVv (As := [.int (nI 50)]) (rest := []) C vw12_ran (c_ran (V := V) (nI 50) t (by omega) h26) rRcv rfl (Nat.le_of_ble_eq_true rfl) dX12_standsIn_40 (by decide) ?_
      rintro _ rfl
      refine j_aload_n C 0 dX12_standsIn_43 rfl ?_
      refine j_iconst C (v := (nI 1)) dX12_standsIn_44 (by decide) ?_
      refine j_iload_n C 2 dX12_standsIn_45 rfl ?_
      refine j_callV (As := [.int (nI 1), .int x]) (rest := []) C vw12_standsIn (c_standsIn_1_4 (V := upd V 26 (nI (t + 1))) (n := n) (m := m) (t + 1) (by omega) pk_us (by rw [pk_un (by omega)]; exact h28) (by rw [pk_un (by omega)]; exact h29) (by rw [pk_un (by omega)]; exact h27)) rRcv rfl (Nat.le_of_ble_eq_true rfl) dX12_standsIn_46 (by decide) ?_
      rintro _ _ ⟨rfl, rfl⟩
      rw [upd_upd]
      refine j_istore_n C [(3, .int (vT 1 4 n m x)), (0, .ref o), (1, .int (nI 4)), (2, .int x)] dX12_standsIn_49 (by decide) rfl ?_
      refine j_iload_n C 0 dX12_standsIn_50 rfl ?_
      refine j_aload_n C 1 dX12_standsIn_51 rfl ?_
      refine j_aload_n C 1 dX12_standsIn_52 rfl ?_
      refine rg C (v := .int ((upd V 26 (nI (t + 1 + 5))) 27)) 27 (by decide) kf12_244 rfl dX12_standsIn_53 ?_
      refine j_v (nI 4) (by rw [pk_un (by omega)]; exact h27) ?_
      refine j_iconst C (v := (nI 2)) dX12_standsIn_56 (by decide) ?_
      refine j_callV (As := [.int (nI 4), .int (nI 2)]) (rest := [.int (vT 1 4 n m x)]) C vw12_bowsIn (c_bowsIn_4 (V := upd V 26 (nI (t + 1 + 5))) (n := n) (m := m) (t + 1 + 5) (by omega) pk_us (by rw [pk_un (by omega)]; exact h28) (by rw [pk_un (by omega)]; exact h29)) rRcv rfl (Nat.le_of_ble_eq_true rfl) dX12_standsIn_57 (by decide) ?_
      rintro _ _ ⟨rfl, rfl⟩
      rw [upd_upd]
      refine j_isub C dX12_standsIn_60 ?_
      refine j_iret C dX12_standsIn_61 ?_
      exact ⟨rfl, rfl⟩
  · rw [show (0 : Int32) = nI 0 from rfl, nI_eq (by omega) (by omega)] at c1
    exfalso; omega
set_option maxHeartbeats 2000000 in
set_option maxRecDepth 20000 in
theorem c_standsIn_0_5 {l : Launch} {D : va_G} {cI cG cW : ClassId} {o : Nat} {q : Nat → Nat} {V row kept tried bf fd pk bo so sh mv tr : Nat → Int32} {x : Int32} (t : Nat) (ht : t + 7 ≤ 40) (h26 : V 26 = nI t) {n m : Int32} (h28 : V 28 = n) (h29 : V 29 = m) (h27 : V 27 = nI 5) : Ci l yX12_standsIn cX12_standsIn 4 (some .int) 14 D (tyL cI cG cW) (wR cI o q) [.ref o, .int (nI 0), .int x] (sR V row kept tried bf fd pk bo so sh mv tr) (fun r τ => r = vT 0 5 n m x ∧ τ = sR (upd V 26 (nI (t + 7))) row kept tried bf fd pk bo so sh mv (trW tr t (vTt 0 5))) := by
  refine Ci.of (by decide) (Nat.le_of_ble_eq_true rfl) ?_
  intro p_ e_ s_ m_ b_ M_ c_ A_ C
  replace C : Cx _ _ _ _ _ _ _ _ RX12 _ _ _ _ := C
  refine j_L [0, 1, 2] [(0, .ref o), (1, .int (nI 0)), (2, .int x)] rfl ?_
  refine j_iload_n C 1 dX12_standsIn_0 rfl ?_
  refine j_if_ne C 32 dX12_standsIn_1 (by decide) (fun c1 => ?_) (fun c1 => ?_)
  · rw [show (0 : Int32) = nI 0 from rfl, nI_eq (by omega) (by omega)] at c1
    exfalso; omega
  · rw [show (0 : Int32) = nI 0 from rfl, nI_eq (by omega) (by omega)] at c1
    refine j_aload_n C 0 dX12_standsIn_4 rfl ?_
    refine j_bipush C (v := (nI 13)) dX12_standsIn_5 (by decide) ?_
    refine j_callVv (As := [.int (nI 13)]) (rest := []) C vw12_ran (c_ran (V := V) (nI 13) t (by omega) h26) rRcv rfl (Nat.le_of_ble_eq_true rfl) dX12_standsIn_7 (by decide) ?_
    rintro _ rfl
    refine j_aload_n C 0 dX12_standsIn_10 rfl ?_
    refine j_aload_n C 0 dX12_standsIn_11 rfl ?_
    refine rg C (v := .int ((upd V 26 (nI (t + 1))) 27)) 27 (by decide) kf12_244 rfl dX12_standsIn_12 ?_
    refine j_v (nI 5) (by rw [pk_un (by omega)]; exact h27) ?_
    refine j_iload_n C 2 dX12_standsIn_15 rfl ?_
    refine j_callV (As := [.int (nI 5), .int x]) (rest := []) C vw12_picksIn (c_picksIn_5_5 (V := upd V 26 (nI (t + 1))) (n := n) (m := m) (t + 1) (by omega) pk_us (by rw [pk_un (by omega)]; exact h28) (by rw [pk_un (by omega)]; exact h29) (by rw [pk_un (by omega)]; exact h27)) rRcv rfl (Nat.le_of_ble_eq_true rfl) dX12_standsIn_16 (by decide) ?_
    rintro _ _ ⟨rfl, rfl⟩
    rw [upd_upd]
    refine j_istore_n C [(3, .int (vP 5 5 n m x)), (0, .ref o), (1, .int (nI 0)), (2, .int x)] dX12_standsIn_19 (by decide) rfl ?_
    refine j_iload_n C 0 dX12_standsIn_20 rfl ?_
    refine j_aload_n C 1 dX12_standsIn_21 rfl ?_
    refine j_aload_n C 1 dX12_standsIn_22 rfl ?_
    refine rg C (v := .int ((upd V 26 (nI (t + 1 + 5))) 27)) 27 (by decide) kf12_244 rfl dX12_standsIn_23 ?_
    refine j_v (nI 5) (by rw [pk_un (by omega)]; exact h27) ?_
    refine j_iload_n C 3 dX12_standsIn_26 rfl ?_
    refine j_callV (As := [.int (nI 5), .int x]) (rest := [.int (vP 5 5 n m x)]) C vw12_sighsIn (c_sighsIn_5 (V := upd V 26 (nI (t + 1 + 5))) (n := n) (m := m) (t + 1 + 5) (by omega) pk_us (by rw [pk_un (by omega)]; exact h28) (by rw [pk_un (by omega)]; exact h29)) rRcv rfl (Nat.le_of_ble_eq_true rfl) dX12_standsIn_27 (by decide) ?_
    rintro _ _ ⟨rfl, rfl⟩
    rw [upd_upd]
    refine j_ixor C dX12_standsIn_30 ?_
    refine j_iret C dX12_standsIn_31 ?_
    exact ⟨rfl, rfl⟩
set_option maxHeartbeats 2000000 in
set_option maxRecDepth 20000 in
theorem c_standsIn_2_5 {l : Launch} {D : va_G} {cI cG cW : ClassId} {o : Nat} {q : Nat → Nat} {V row kept tried bf fd pk bo so sh mv tr : Nat → Int32} {x : Int32} (t : Nat) (ht : t + 7 ≤ 40) (h26 : V 26 = nI t) {n m : Int32} (h28 : V 28 = n) (h29 : V 29 = m) (h27 : V 27 = nI 5) : Ci l yX12_standsIn cX12_standsIn 4 (some .int) 15 D (tyL cI cG cW) (wR cI o q) [.ref o, .int (nI 2), .int x] (sR V row kept tried bf fd pk bo so sh mv tr) (fun r τ => r = vT 2 5 n m x ∧ τ = sR (upd V 26 (nI (t + 7))) row kept tried bf fd pk bo so sh mv (trW tr t (vTt 2 5))) := by
  refine Ci.of (by decide) (Nat.le_of_ble_eq_true rfl) ?_
  intro p_ e_ s_ m_ b_ M_ c_ A_ C
  replace C : Cx _ _ _ _ _ _ _ _ RX12 _ _ _ _ := C
  refine j_L [0, 1, 2] [(0, .ref o), (1, .int (nI 2)), (2, .int x)] rfl ?_
  refine j_iload_n C 1 dX12_standsIn_0 rfl ?_
  refine j_if_ne C 32 dX12_standsIn_1 (by decide) (fun c1 => ?_) (fun c1 => ?_)
  · rw [show (0 : Int32) = nI 0 from rfl, nI_eq (by omega) (by omega)] at c1
    refine j_iload_n C 1 dX12_standsIn_32 rfl ?_
    refine j_iconst C (v := (nI 4)) dX12_standsIn_33 (by decide) ?_
    refine j_icmp_ne C 62 dX12_standsIn_34 (by decide) (fun c34 => ?_) (fun c34 => ?_)
    · rw [nI_eq (by omega) (by omega)] at c34
      refine j_iload_n C 1 dX12_standsIn_62 rfl ?_
      refine j_bipush C (v := (nI 6)) dX12_standsIn_63 (by decide) ?_
      refine j_icmp_ne C 93 dX12_standsIn_65 (by decide) (fun c65 => ?_) (fun c65 => ?_)
      · rw [nI_eq (by omega) (by omega)] at c65
        refine j_aload_n C 0 dX12_standsIn_93 rfl ?_
        refine j_iload_n C 1 dX12_standsIn_94 rfl ?_
        refine j_callS (As := [.int (nI 2)]) (rest := [.ref o]) C vw12_above (c_above 2 (by decide)) rfl (Nat.le_of_ble_eq_true rfl) dX12_standsIn_95 (by decide) ?_
        rintro _ _ ⟨rfl, rfl⟩
        refine j_v (nI 0) (by decide) ?_
        refine j_iload_n C 2 dX12_standsIn_98 rfl ?_
        refine j_callV (As := [.int (nI 0), .int x]) (rest := []) C vw12_standsIn (c_standsIn_0_5 (V := V) (n := n) (m := m) t (by omega) h26 h28 h29 h27) rRcv rfl (Nat.le_of_ble_eq_true rfl) dX12_standsIn_99 (by decide) ?_
        rintro _ _ ⟨rfl, rfl⟩
        refine j_iret C dX12_standsIn_102 ?_
        exact ⟨rfl, rfl⟩
      · rw [nI_eq (by omega) (by omega)] at c65
        exfalso; omega
    · rw [nI_eq (by omega) (by omega)] at c34
      exfalso; omega
  · rw [show (0 : Int32) = nI 0 from rfl, nI_eq (by omega) (by omega)] at c1
    exfalso; omega
set_option maxHeartbeats 2000000 in
set_option maxRecDepth 20000 in
theorem c_standsIn_5_5 {l : Launch} {D : va_G} {cI cG cW : ClassId} {o : Nat} {q : Nat → Nat} {V row kept tried bf fd pk bo so sh mv tr : Nat → Int32} {x : Int32} (t : Nat) (ht : t + 7 ≤ 40) (h26 : V 26 = nI t) {n m : Int32} (h28 : V 28 = n) (h29 : V 29 = m) (h27 : V 27 = nI 5) : Ci l yX12_standsIn cX12_standsIn 4 (some .int) 16 D (tyL cI cG cW) (wR cI o q) [.ref o, .int (nI 5), .int x] (sR V row kept tried bf fd pk bo so sh mv tr) (fun r τ => r = vT 5 5 n m x ∧ τ = sR (upd V 26 (nI (t + 7))) row kept tried bf fd pk bo so sh mv (trW tr t (vTt 5 5))) := by
  refine Ci.of (by decide) (Nat.le_of_ble_eq_true rfl) ?_
  intro p_ e_ s_ m_ b_ M_ c_ A_ C
  replace C : Cx _ _ _ _ _ _ _ _ RX12 _ _ _ _ := C
  refine j_L [0, 1, 2] [(0, .ref o), (1, .int (nI 5)), (2, .int x)] rfl ?_
  refine j_iload_n C 1 dX12_standsIn_0 rfl ?_
  refine j_if_ne C 32 dX12_standsIn_1 (by decide) (fun c1 => ?_) (fun c1 => ?_)
  · rw [show (0 : Int32) = nI 0 from rfl, nI_eq (by omega) (by omega)] at c1
    refine j_iload_n C 1 dX12_standsIn_32 rfl ?_
    refine j_iconst C (v := (nI 4)) dX12_standsIn_33 (by decide) ?_
    refine j_icmp_ne C 62 dX12_standsIn_34 (by decide) (fun c34 => ?_) (fun c34 => ?_)
    · rw [nI_eq (by omega) (by omega)] at c34
      refine j_iload_n C 1 dX12_standsIn_62 rfl ?_
      refine j_bipush C (v := (nI 6)) dX12_standsIn_63 (by decide) ?_
      refine j_icmp_ne C 93 dX12_standsIn_65 (by decide) (fun c65 => ?_) (fun c65 => ?_)
      · rw [nI_eq (by omega) (by omega)] at c65
        refine j_aload_n C 0 dX12_standsIn_93 rfl ?_
        refine j_iload_n C 1 dX12_standsIn_94 rfl ?_
        refine j_callS (As := [.int (nI 5)]) (rest := [.ref o]) C vw12_above (c_above 5 (by decide)) rfl (Nat.le_of_ble_eq_true rfl) dX12_standsIn_95 (by decide) ?_
        rintro _ _ ⟨rfl, rfl⟩
        refine j_v (nI 2) (by decide) ?_
        refine j_iload_n C 2 dX12_standsIn_98 rfl ?_
        refine j_callV (As := [.int (nI 2), .int x]) (rest := []) C vw12_standsIn (c_standsIn_2_5 (V := V) (n := n) (m := m) t (by omega) h26 h28 h29 h27) rRcv rfl (Nat.le_of_ble_eq_true rfl) dX12_standsIn_99 (by decide) ?_
        rintro _ _ ⟨rfl, rfl⟩
        refine j_iret C dX12_standsIn_102 ?_
        exact ⟨rfl, rfl⟩
      · rw [nI_eq (by omega) (by omega)] at c65
        exfalso; omega
    · rw [nI_eq (by omega) (by omega)] at c34
      exfalso; omega
  · rw [show (0 : Int32) = nI 0 from rfl, nI_eq (by omega) (by omega)] at c1
    exfalso; omega
set_option maxHeartbeats 2000000 in
set_option maxRecDepth 20000 in
theorem c_standsIn_0_6 {l : Launch} {D : va_G} {cI cG cW : ClassId} {o : Nat} {q : Nat → Nat} {V row kept tried bf fd pk bo so sh mv tr : Nat → Int32} {x : Int32} (t : Nat) (ht : t + 6 ≤ 40) (h26 : V 26 = nI t) {n m : Int32} (h28 : V 28 = n) (h29 : V 29 = m) (h27 : V 27 = nI 6) : Ci l yX12_standsIn cX12_standsIn 4 (some .int) 14 D (tyL cI cG cW) (wR cI o q) [.ref o, .int (nI 0), .int x] (sR V row kept tried bf fd pk bo so sh mv tr) (fun r τ => r = vT 0 6 n m x ∧ τ = sR (upd V 26 (nI (t + 6))) row kept tried bf fd pk bo so sh mv (trW tr t (vTt 0 6))) := by
  refine Ci.of (by decide) (Nat.le_of_ble_eq_true rfl) ?_
  intro p_ e_ s_ m_ b_ M_ c_ A_ C
  replace C : Cx _ _ _ _ _ _ _ _ RX12 _ _ _ _ := C
  refine j_L [0, 1, 2] [(0, .ref o), (1, .int (nI 0)), (2, .int x)] rfl ?_
  refine j_iload_n C 1 dX12_standsIn_0 rfl ?_
  refine j_if_ne C 32 dX12_standsIn_1 (by decide) (fun c1 => ?_) (fun c1 => ?_)
  · rw [show (0 : Int32) = nI 0 from rfl, nI_eq (by omega) (by omega)] at c1
    exfalso; omega
  · rw [show (0 : Int32) = nI 0 from rfl, nI_eq (by omega) (by omega)] at c1
    refine j_aload_n C 0 dX12_standsIn_4 rfl ?_
    refine j_bipush C (v := (nI 13)) dX12_standsIn_5 (by decide) ?_
    refine j_callVv (As := [.int (nI 13)]) (rest := []) C vw12_ran (c_ran (V := V) (nI 13) t (by omega) h26) rRcv rfl (Nat.le_of_ble_eq_true rfl) dX12_standsIn_7 (by decide) ?_
    rintro _ rfl
    refine j_aload_n C 0 dX12_standsIn_10 rfl ?_
    refine j_aload_n C 0 dX12_standsIn_11 rfl ?_
    refine rg C (v := .int ((upd V 26 (nI (t + 1))) 27)) 27 (by decide) kf12_244 rfl dX12_standsIn_12 ?_
    refine j_v (nI 6) (by rw [pk_un (by omega)]; exact h27) ?_
    refine j_iload_n C 2 dX12_standsIn_15 rfl ?_
    refine j_callV (As := [.int (nI 6), .int x]) (rest := []) C vw12_picksIn (c_picksIn_6_6 (V := upd V 26 (nI (t + 1))) (n := n) (m := m) (t + 1) (by omega) pk_us (by rw [pk_un (by omega)]; exact h28) (by rw [pk_un (by omega)]; exact h29) (by rw [pk_un (by omega)]; exact h27)) rRcv rfl (Nat.le_of_ble_eq_true rfl) dX12_standsIn_16 (by decide) ?_
    rintro _ _ ⟨rfl, rfl⟩
    rw [upd_upd]
    refine j_istore_n C [(3, .int (vP 6 6 n m x)), (0, .ref o), (1, .int (nI 0)), (2, .int x)] dX12_standsIn_19 (by decide) rfl ?_
    refine j_iload_n C 0 dX12_standsIn_20 rfl ?_
    refine j_aload_n C 1 dX12_standsIn_21 rfl ?_
    refine j_aload_n C 1 dX12_standsIn_22 rfl ?_
    refine rg C (v := .int ((upd V 26 (nI (t + 1 + 2))) 27)) 27 (by decide) kf12_244 rfl dX12_standsIn_23 ?_
    refine j_v (nI 6) (by rw [pk_un (by omega)]; exact h27) ?_
    refine j_iload_n C 3 dX12_standsIn_26 rfl ?_
    refine j_callV (As := [.int (nI 6), .int x]) (rest := [.int (vP 6 6 n m x)]) C vw12_sighsIn (c_sighsIn_6 (V := upd V 26 (nI (t + 1 + 2))) (n := n) (m := m) (t + 1 + 2) (by omega) pk_us (by rw [pk_un (by omega)]; exact h28) (by rw [pk_un (by omega)]; exact h29)) rRcv rfl (Nat.le_of_ble_eq_true rfl) dX12_standsIn_27 (by decide) ?_
    rintro _ _ ⟨rfl, rfl⟩
    rw [upd_upd]
    refine j_ixor C dX12_standsIn_30 ?_
    refine j_iret C dX12_standsIn_31 ?_
    exact ⟨rfl, rfl⟩
set_option maxHeartbeats 2000000 in
set_option maxRecDepth 20000 in
theorem c_standsIn_3_6 {l : Launch} {D : va_G} {cI cG cW : ClassId} {o : Nat} {q : Nat → Nat} {V row kept tried bf fd pk bo so sh mv tr : Nat → Int32} {x : Int32} (t : Nat) (ht : t + 6 ≤ 40) (h26 : V 26 = nI t) {n m : Int32} (h28 : V 28 = n) (h29 : V 29 = m) (h27 : V 27 = nI 6) : Ci l yX12_standsIn cX12_standsIn 4 (some .int) 15 D (tyL cI cG cW) (wR cI o q) [.ref o, .int (nI 3), .int x] (sR V row kept tried bf fd pk bo so sh mv tr) (fun r τ => r = vT 3 6 n m x ∧ τ = sR (upd V 26 (nI (t + 6))) row kept tried bf fd pk bo so sh mv (trW tr t (vTt 3 6))) := by
  refine Ci.of (by decide) (Nat.le_of_ble_eq_true rfl) ?_
  intro p_ e_ s_ m_ b_ M_ c_ A_ C
  replace C : Cx _ _ _ _ _ _ _ _ RX12 _ _ _ _ := C
  refine j_L [0, 1, 2] [(0, .ref o), (1, .int (nI 3)), (2, .int x)] rfl ?_
  refine j_iload_n C 1 dX12_standsIn_0 rfl ?_
  refine j_if_ne C 32 dX12_standsIn_1 (by decide) (fun c1 => ?_) (fun c1 => ?_)
  · rw [show (0 : Int32) = nI 0 from rfl, nI_eq (by omega) (by omega)] at c1
    refine j_iload_n C 1 dX12_standsIn_32 rfl ?_
    refine j_iconst C (v := (nI 4)) dX12_standsIn_33 (by decide) ?_
    refine j_icmp_ne C 62 dX12_standsIn_34 (by decide) (fun c34 => ?_) (fun c34 => ?_)
    · rw [nI_eq (by omega) (by omega)] at c34
      refine j_iload_n C 1 dX12_standsIn_62 rfl ?_
      refine j_bipush C (v := (nI 6)) dX12_standsIn_63 (by decide) ?_
      refine j_icmp_ne C 93 dX12_standsIn_65 (by decide) (fun c65 => ?_) (fun c65 => ?_)
      · rw [nI_eq (by omega) (by omega)] at c65
        refine j_aload_n C 0 dX12_standsIn_93 rfl ?_
        refine j_iload_n C 1 dX12_standsIn_94 rfl ?_
        refine j_callS (As := [.int (nI 3)]) (rest := [.ref o]) C vw12_above (c_above 3 (by decide)) rfl (Nat.le_of_ble_eq_true rfl) dX12_standsIn_95 (by decide) ?_
        rintro _ _ ⟨rfl, rfl⟩
        refine j_v (nI 0) (by decide) ?_
        refine j_iload_n C 2 dX12_standsIn_98 rfl ?_
        refine j_callV (As := [.int (nI 0), .int x]) (rest := []) C vw12_standsIn (c_standsIn_0_6 (V := V) (n := n) (m := m) t (by omega) h26 h28 h29 h27) rRcv rfl (Nat.le_of_ble_eq_true rfl) dX12_standsIn_99 (by decide) ?_
        rintro _ _ ⟨rfl, rfl⟩
        refine j_iret C dX12_standsIn_102 ?_
        exact ⟨rfl, rfl⟩
      · rw [nI_eq (by omega) (by omega)] at c65
        exfalso; omega
    · rw [nI_eq (by omega) (by omega)] at c34
      exfalso; omega
  · rw [show (0 : Int32) = nI 0 from rfl, nI_eq (by omega) (by omega)] at c1
    exfalso; omega
set_option maxHeartbeats 2000000 in
set_option maxRecDepth 20000 in
theorem c_standsIn_6_6 {l : Launch} {D : va_G} {cI cG cW : ClassId} {o : Nat} {q : Nat → Nat} {V row kept tried bf fd pk bo so sh mv tr : Nat → Int32} {x : Int32} (t : Nat) (ht : t + 9 ≤ 40) (h26 : V 26 = nI t) {n m : Int32} (h28 : V 28 = n) (h29 : V 29 = m) (h27 : V 27 = nI 6) : Ci l yX12_standsIn cX12_standsIn 4 (some .int) 16 D (tyL cI cG cW) (wR cI o q) [.ref o, .int (nI 6), .int x] (sR V row kept tried bf fd pk bo so sh mv tr) (fun r τ => r = vT 6 6 n m x ∧ τ = sR (upd V 26 (nI (t + 9))) row kept tried bf fd pk bo so sh mv (trW tr t (vTt 6 6))) := by
  refine Ci.of (by decide) (Nat.le_of_ble_eq_true rfl) ?_
  intro p_ e_ s_ m_ b_ M_ c_ A_ C
  replace C : Cx _ _ _ _ _ _ _ _ RX12 _ _ _ _ := C
  refine j_L [0, 1, 2] [(0, .ref o), (1, .int (nI 6)), (2, .int x)] rfl ?_
  refine j_iload_n C 1 dX12_standsIn_0 rfl ?_
  refine j_if_ne C 32 dX12_standsIn_1 (by decide) (fun c1 => ?_) (fun c1 => ?_)
  · rw [show (0 : Int32) = nI 0 from rfl, nI_eq (by omega) (by omega)] at c1
    refine j_iload_n C 1 dX12_standsIn_32 rfl ?_
    refine j_iconst C (v := (nI 4)) dX12_standsIn_33 (by decide) ?_
    refine j_icmp_ne C 62 dX12_standsIn_34 (by decide) (fun c34 => ?_) (fun c34 => ?_)
    · rw [nI_eq (by omega) (by omega)] at c34
      refine j_iload_n C 1 dX12_standsIn_62 rfl ?_
      refine j_bipush C (v := (nI 6)) dX12_standsIn_63 (by decide) ?_
      refine j_icmp_ne C 93 dX12_standsIn_65 (by decide) (fun c65 => ?_) (fun c65 => ?_)
      · rw [nI_eq (by omega) (by omega)] at c65
        exfalso; omega
      · rw [nI_eq (by omega) (by omega)] at c65
        refine j_aload_n C 0 dX12_standsIn_68 rfl ?_
        refine j_bipush C (v := (nI 71)) dX12_standsIn_69 (by decide) ?_
        refine j_callVv (As := [.int (nI 71)]) (rest := []) C vw12_ran (c_ran (V := V) (nI 71) t (by omega) h26) rRcv rfl (Nat.le_of_ble_eq_true rfl) dX12_standsIn_71 (by decide) ?_
        rintro _ rfl
        refine j_aload_n C 0 dX12_standsIn_74 rfl ?_
        refine j_aload_n C 0 dX12_standsIn_75 rfl ?_
        refine rg C (v := .int ((upd V 26 (nI (t + 1))) 27)) 27 (by decide) kf12_244 rfl dX12_standsIn_76 ?_
        refine j_v (nI 6) (by rw [pk_un (by omega)]; exact h27) ?_
        refine j_iload_n C 2 dX12_standsIn_79 rfl ?_
        refine j_callV (As := [.int (nI 6), .int x]) (rest := []) C vw12_picksIn (c_picksIn_6_6 (V := upd V 26 (nI (t + 1))) (n := n) (m := m) (t + 1) (by omega) pk_us (by rw [pk_un (by omega)]; exact h28) (by rw [pk_un (by omega)]; exact h29) (by rw [pk_un (by omega)]; exact h27)) rRcv rfl (Nat.le_of_ble_eq_true rfl) dX12_standsIn_80 (by decide) ?_
        rintro _ _ ⟨rfl, rfl⟩
        rw [upd_upd]
        refine j_istore_n C [(3, .int (vP 6 6 n m x)), (0, .ref o), (1, .int (nI 6)), (2, .int x)] dX12_standsIn_83 (by decide) rfl ?_
        refine j_iload_n C 0 dX12_standsIn_84 rfl ?_
        refine j_aload_n C 1 dX12_standsIn_85 rfl ?_
        refine j_iconst C (v := (nI 3)) dX12_standsIn_86 (by decide) ?_
        refine j_iload_n C 3 dX12_standsIn_87 rfl ?_
        refine j_callV (As := [.int (nI 3), .int x]) (rest := [.int (vP 6 6 n m x)]) C vw12_standsIn (c_standsIn_3_6 (V := upd V 26 (nI (t + 1 + 2))) (n := n) (m := m) (t + 1 + 2) (by omega) pk_us (by rw [pk_un (by omega)]; exact h28) (by rw [pk_un (by omega)]; exact h29) (by rw [pk_un (by omega)]; exact h27)) rRcv rfl (Nat.le_of_ble_eq_true rfl) dX12_standsIn_88 (by decide) ?_
        rintro _ _ ⟨rfl, rfl⟩
        rw [upd_upd]
        refine j_isub C dX12_standsIn_91 ?_
        refine j_iret C dX12_standsIn_92 ?_
        exact ⟨rfl, rfl⟩
    · rw [nI_eq (by omega) (by omega)] at c34
      exfalso; omega
  · rw [show (0 : Int32) = nI 0 from rfl, nI_eq (by omega) (by omega)] at c1
    exfalso; omega
theorem dX12_voice_0 : decode cX12_voice 0 = .ok (.aload_n 0, 1) := by decide +kernel
theorem dX12_voice_1 : decode cX12_voice 1 = .ok (.iload_n 1, 1) := by decide +kernel
theorem dX12_voice_2 : decode cX12_voice 2 = .ok (.invokevirtual 80, 3) := by decide +kernel
theorem dX12_voice_5 : decode cX12_voice 5 = .ok (.ifCond .eq 12, 3) := by decide +kernel
theorem dX12_voice_8 : decode cX12_voice 8 = .ok (.iload_n 2, 1) := by decide +kernel
theorem dX12_voice_9 : decode cX12_voice 9 = .ok (.iconst 0, 1) := by decide +kernel
theorem dX12_voice_10 : decode cX12_voice 10 = .ok (.iconst 3, 1) := by decide +kernel
theorem dX12_voice_11 : decode cX12_voice 11 = .ok (.invokestatic 51, 3) := by decide +kernel
theorem dX12_voice_14 : decode cX12_voice 14 = .ok (.ifCond .ne 10, 3) := by decide +kernel
theorem dX12_voice_17 : decode cX12_voice 17 = .ok (.aload_n 0, 1) := by decide +kernel
theorem dX12_voice_18 : decode cX12_voice 18 = .ok (.ldc 55, 2) := by decide +kernel
theorem dX12_voice_20 : decode cX12_voice 20 = .ok (.invokevirtual 56, 3) := by decide +kernel
theorem dX12_voice_23 : decode cX12_voice 23 = .ok (.ireturn, 1) := by decide +kernel
theorem dX12_voice_24 : decode cX12_voice 24 = .ok (.aload_n 0, 1) := by decide +kernel
theorem dX12_voice_25 : decode cX12_voice 25 = .ok (.iconst 0, 1) := by decide +kernel
theorem dX12_voice_26 : decode cX12_voice 26 = .ok (.putfield 226, 3) := by decide +kernel
theorem dX12_voice_29 : decode cX12_voice 29 = .ok (.aload_n 0, 1) := by decide +kernel
theorem dX12_voice_30 : decode cX12_voice 30 = .ok (.aload_n 0, 1) := by decide +kernel
theorem dX12_voice_31 : decode cX12_voice 31 = .ok (.iload_n 1, 1) := by decide +kernel
theorem dX12_voice_32 : decode cX12_voice 32 = .ok (.iconst 0, 1) := by decide +kernel
theorem dX12_voice_33 : decode cX12_voice 33 = .ok (.invokevirtual 69, 3) := by decide +kernel
theorem dX12_voice_36 : decode cX12_voice 36 = .ok (.putfield 244, 3) := by decide +kernel
theorem dX12_voice_39 : decode cX12_voice 39 = .ok (.aload_n 0, 1) := by decide +kernel
theorem dX12_voice_40 : decode cX12_voice 40 = .ok (.iload_n 1, 1) := by decide +kernel
theorem dX12_voice_41 : decode cX12_voice 41 = .ok (.putfield 232, 3) := by decide +kernel
theorem dX12_voice_44 : decode cX12_voice 44 = .ok (.aload_n 0, 1) := by decide +kernel
theorem dX12_voice_45 : decode cX12_voice 45 = .ok (.aload_n 0, 1) := by decide +kernel
theorem dX12_voice_46 : decode cX12_voice 46 = .ok (.iload_n 1, 1) := by decide +kernel
theorem dX12_voice_47 : decode cX12_voice 47 = .ok (.iconst 1, 1) := by decide +kernel
theorem dX12_voice_48 : decode cX12_voice 48 = .ok (.invokevirtual 69, 3) := by decide +kernel
theorem dX12_voice_51 : decode cX12_voice 51 = .ok (.putfield 238, 3) := by decide +kernel
theorem dX12_voice_54 : decode cX12_voice 54 = .ok (.iload_n 2, 1) := by decide +kernel
theorem dX12_voice_55 : decode cX12_voice 55 = .ok (.tableswitch 55 0 2 #[25, 35, 45], 25) := by decide +kernel
theorem dX12_voice_80 : decode cX12_voice 80 = .ok (.aload_n 0, 1) := by decide +kernel
theorem dX12_voice_81 : decode cX12_voice 81 = .ok (.aload_n 0, 1) := by decide +kernel
theorem dX12_voice_82 : decode cX12_voice 82 = .ok (.getfield 244, 3) := by decide +kernel
theorem dX12_voice_85 : decode cX12_voice 85 = .ok (.iload_n 3, 1) := by decide +kernel
theorem dX12_voice_86 : decode cX12_voice 86 = .ok (.invokevirtual 235, 3) := by decide +kernel
theorem dX12_voice_89 : decode cX12_voice 89 = .ok (.ireturn, 1) := by decide +kernel
theorem dX12_voice_90 : decode cX12_voice 90 = .ok (.aload_n 0, 1) := by decide +kernel
theorem dX12_voice_91 : decode cX12_voice 91 = .ok (.aload_n 0, 1) := by decide +kernel
theorem dX12_voice_92 : decode cX12_voice 92 = .ok (.getfield 244, 3) := by decide +kernel
theorem dX12_voice_95 : decode cX12_voice 95 = .ok (.iload_n 3, 1) := by decide +kernel
theorem dX12_voice_96 : decode cX12_voice 96 = .ok (.invokevirtual 247, 3) := by decide +kernel
theorem dX12_voice_99 : decode cX12_voice 99 = .ok (.ireturn, 1) := by decide +kernel
theorem dX12_voice_100 : decode cX12_voice 100 = .ok (.aload_n 0, 1) := by decide +kernel
theorem dX12_voice_101 : decode cX12_voice 101 = .ok (.aload_n 0, 1) := by decide +kernel
theorem dX12_voice_102 : decode cX12_voice 102 = .ok (.getfield 244, 3) := by decide +kernel
theorem dX12_voice_105 : decode cX12_voice 105 = .ok (.iload_n 3, 1) := by decide +kernel
theorem dX12_voice_106 : decode cX12_voice 106 = .ok (.invokevirtual 241, 3) := by decide +kernel
theorem dX12_voice_109 : decode cX12_voice 109 = .ok (.ireturn, 1) := by decide +kernel
theorem dX12_voice_110 : decode cX12_voice 110 = .ok (.aload_n 0, 1) := by decide +kernel
theorem dX12_voice_111 : decode cX12_voice 111 = .ok (.aload_n 0, 1) := by decide +kernel
theorem dX12_voice_112 : decode cX12_voice 112 = .ok (.getfield 244, 3) := by decide +kernel
theorem dX12_voice_115 : decode cX12_voice 115 = .ok (.iload_n 3, 1) := by decide +kernel
theorem dX12_voice_116 : decode cX12_voice 116 = .ok (.invokevirtual 250, 3) := by decide +kernel
theorem dX12_voice_119 : decode cX12_voice 119 = .ok (.ireturn, 1) := by decide +kernel
set_option maxHeartbeats 2000000 in
set_option maxRecDepth 20000 in
theorem c_voice {l : Launch} {D : va_G} {cI cG cW : ClassId} {o : Nat} {q : Nat → Nat} {V row kept tried bf fd pk bo so sh mv tr : Nat → Int32} {p act x : Int32} {nc np nw d nt nq : Nat} (hR : RKx row nc np nw d nt nq) : Ci l yX12_voice cX12_voice 4 (some .int) 30 D (tyL cI cG cW) (wR cI o q) [.ref o, .int p, .int act, .int x] (sR V row kept tried bf fd pk bo so sh mv tr) (fun r τ => r = (sp_voice V row kept tried bf fd pk bo so sh mv tr p act x).1 ∧ EQ τ (sp_voice V row kept tried bf fd pk bo so sh mv tr p act x).2) := by
  refine Ci.of (by decide) (Nat.le_of_ble_eq_true rfl) ?_
  intro p_ e_ s_ m_ b_ M_ c_ A_ C
  replace C : Cx _ _ _ _ _ _ _ _ RX12 _ _ _ _ := C
  refine j_L [0, 1, 2, 3] [(0, .ref o), (1, .int p), (2, .int act), (3, .int x)] rfl ?_
  obtain ⟨hI, hW, ⟨e0, hd⟩, ⟨e4, ht⟩, ⟨e5, hq⟩, hB⟩ := id hR
  obtain ⟨⟨e2, hc2, hc10⟩, ⟨e3, hn6⟩, ⟨e8, hw8⟩, hP, hE, hLo, hT0, hT1⟩ := id hI
  have hIc := hI
  refine j_aload_n C 0 dX12_voice_0 rfl ?_
  refine j_iload_n C 1 dX12_voice_1 rfl ?_
  refine j_callV (As := [.int p]) (rest := []) C vw12_isPerson (c_isPerson) rRcv rfl (Nat.le_of_ble_eq_true rfl) dX12_voice_2 (by decide) ?_
  rintro _ _ ⟨rfl, rfl⟩
  refine j_if_eq C 17 dX12_voice_5 (by decide) (fun c5 => ?_) (fun c5 => ?_)
  · replace c5 := bI_f c5
    refine j_aload_n C 0 dX12_voice_17 rfl ?_
    refine j_ldc C (-1000000001) dX12_voice_18 kc12_55 ?_
    refine j_callV (As := [.int (-1000000001)]) (rest := []) C vw12_errs (c_errs 1 (by decide) (by decide)) rRcv rfl (Nat.le_of_ble_eq_true rfl) dX12_voice_20 (by decide) ?_
    rintro _ _ ⟨rfl, rfl⟩
    refine j_iret C dX12_voice_23 ?_
    unfold sp_voice
    rw [if_neg (fun h => c5 h.1)]
    exact ⟨rfl, EQ.rf⟩
  · replace c5 := bI_t c5
    obtain ⟨pn, hpn, rfl⟩ := inn_row c5 e3 (by omega)
    refine j_iload_n C 2 dX12_voice_8 rfl ?_
    refine j_iconst C (v := (nI 0)) dX12_voice_9 (by decide) ?_
    refine j_iconst C (v := (nI 3)) dX12_voice_10 (by decide) ?_
    refine j_callS (As := [.int act, .int (nI 0), .int (nI 3)]) (rest := []) C vw12_in (c_in) rfl (Nat.le_of_ble_eq_true rfl) dX12_voice_11 (by decide) ?_
    rintro _ _ ⟨rfl, rfl⟩
    refine j_if_ne C 24 dX12_voice_14 (by decide) (fun c14 => ?_) (fun c14 => ?_)
    · replace c14 := bI_t c14
      obtain ⟨an, gan, han, rfl⟩ := inn_lit c14 (by omega)
      obtain ⟨⟨k, hk, ek⟩, ⟨mm, hm, em⟩, -⟩ := hP pn hpn
      rcases (show k = 0 ∨ k = 1 ∨ k = 2 ∨ k = 3 ∨ k = 4 ∨ k = 5 ∨ k = 6 by omega) with rfl | rfl | rfl | rfl | rfl | rfl | rfl
      · refine j_aload_n C 0 dX12_voice_24 rfl ?_
        refine j_iconst C (v := (nI 0)) dX12_voice_25 (by decide) ?_
        refine rp_26 C kf12_226 dX12_voice_26 ?_
        refine j_aload_n C 0 dX12_voice_29 rfl ?_
        refine j_aload_n C 0 dX12_voice_30 rfl ?_
        refine j_iload_n C 1 dX12_voice_31 rfl ?_
        refine j_iconst C (v := (nI 0)) dX12_voice_32 (by decide) ?_
        refine j_callV (As := [.int (nI pn), .int (nI 0)]) (rest := [.ref o]) C vw12_its (c_its pn 0 (by omega)) rRcv rfl (Nat.le_of_ble_eq_true rfl) dX12_voice_33 (by decide) ?_
        rintro _ _ ⟨rfl, rfl⟩
        refine j_v (nI 0) ek ?_
        refine rp_27 C kf12_244 dX12_voice_36 ?_
        refine j_aload_n C 0 dX12_voice_39 rfl ?_
        refine j_iload_n C 1 dX12_voice_40 rfl ?_
        refine rp_28 C kf12_232 dX12_voice_41 ?_
        refine j_aload_n C 0 dX12_voice_44 rfl ?_
        refine j_aload_n C 0 dX12_voice_45 rfl ?_
        refine j_iload_n C 1 dX12_voice_46 rfl ?_
        refine j_iconst C (v := (nI 1)) dX12_voice_47 (by decide) ?_
        refine j_callV (As := [.int (nI pn), .int (nI 1)]) (rest := [.ref o]) C vw12_its (c_its pn 1 (by omega)) rRcv rfl (Nat.le_of_ble_eq_true rfl) dX12_voice_48 (by decide) ?_
        rintro _ _ ⟨rfl, rfl⟩
        refine rp_29 C kf12_238 dX12_voice_51 ?_
        refine j_iload_n C 2 dX12_voice_54 rfl ?_
        rcases (show an = 0 ∨ an = 1 ∨ an = 2 ∨ an = 3 by omega) with rfl | rfl | rfl | rfl
        · refine j_tblIn C (off := 25) 80 dX12_voice_55 (by decide) (by decide) (by decide) (by decide) ?_
          refine j_aload_n C 0 dX12_voice_80 rfl ?_
          refine j_aload_n C 0 dX12_voice_81 rfl ?_
          refine rg C (v := .int (nI 0)) 27 (by decide) kf12_244 rfl dX12_voice_82 ?_
          refine j_iload_n C 3 dX12_voice_85 rfl ?_
          refine j_callV (As := [.int (nI 0), .int x]) (rest := []) C vw12_bowsIn (c_bowsIn_0 (V := upd (upd (upd (upd V 26 (nI 0)) 27 (nI 0)) 28 (nI pn)) 29 (row (30 + 6 * pn + 1))) (n := nI pn) (m := row (30 + 6 * pn + 1)) 0 (by omega) (by rw [pk_un (by omega), pk_un (by omega), pk_un (by omega), pk_us]) (by rw [pk_un (by omega), pk_us]) pk_us) rRcv rfl (Nat.le_of_ble_eq_true rfl) dX12_voice_86 (by decide) ?_
          rintro _ _ ⟨rfl, rfl⟩
          refine j_iret C dX12_voice_89 ?_
          unfold sp_voice
          rw [if_pos ⟨c5, c14⟩, tN_nI (n := pn) (by omega), tN_nI (n := 0) (by decide), ek, tN_nI (n := 0) (by decide)]
          exact ⟨rfl, EQ.of6 rfl rfl rfl rfl rfl rfl⟩
        · refine j_tblIn C (off := 35) 90 dX12_voice_55 (by decide) (by decide) (by decide) (by decide) ?_
          refine j_aload_n C 0 dX12_voice_90 rfl ?_
          refine j_aload_n C 0 dX12_voice_91 rfl ?_
          refine rg C (v := .int (nI 0)) 27 (by decide) kf12_244 rfl dX12_voice_92 ?_
          refine j_iload_n C 3 dX12_voice_95 rfl ?_
          refine j_callV (As := [.int (nI 0), .int x]) (rest := []) C vw12_picksIn (c_picksIn_0_0 (V := upd (upd (upd (upd V 26 (nI 0)) 27 (nI 0)) 28 (nI pn)) 29 (row (30 + 6 * pn + 1))) (n := nI pn) (m := row (30 + 6 * pn + 1)) 0 (by omega) (by rw [pk_un (by omega), pk_un (by omega), pk_un (by omega), pk_us]) (by rw [pk_un (by omega), pk_us]) pk_us (by rw [pk_un (by omega), pk_un (by omega), pk_us])) rRcv rfl (Nat.le_of_ble_eq_true rfl) dX12_voice_96 (by decide) ?_
          rintro _ _ ⟨rfl, rfl⟩
          refine j_iret C dX12_voice_99 ?_
          unfold sp_voice
          rw [if_pos ⟨c5, c14⟩, tN_nI (n := pn) (by omega), tN_nI (n := 1) (by decide), ek, tN_nI (n := 0) (by decide)]
          exact ⟨rfl, EQ.of6 rfl rfl rfl rfl rfl rfl⟩
        · refine j_tblIn C (off := 45) 100 dX12_voice_55 (by decide) (by decide) (by decide) (by decide) ?_
          refine j_aload_n C 0 dX12_voice_100 rfl ?_
          refine j_aload_n C 0 dX12_voice_101 rfl ?_
          refine rg C (v := .int (nI 0)) 27 (by decide) kf12_244 rfl dX12_voice_102 ?_
          refine j_iload_n C 3 dX12_voice_105 rfl ?_
          refine j_callV (As := [.int (nI 0), .int x]) (rest := []) C vw12_sighsIn (c_sighsIn_0 (V := upd (upd (upd (upd V 26 (nI 0)) 27 (nI 0)) 28 (nI pn)) 29 (row (30 + 6 * pn + 1))) (n := nI pn) (m := row (30 + 6 * pn + 1)) 0 (by omega) (by rw [pk_un (by omega), pk_un (by omega), pk_un (by omega), pk_us]) (by rw [pk_un (by omega), pk_us]) pk_us) rRcv rfl (Nat.le_of_ble_eq_true rfl) dX12_voice_106 (by decide) ?_
          rintro _ _ ⟨rfl, rfl⟩
          refine j_iret C dX12_voice_109 ?_
          unfold sp_voice
          rw [if_pos ⟨c5, c14⟩, tN_nI (n := pn) (by omega), tN_nI (n := 2) (by decide), ek, tN_nI (n := 0) (by decide)]
          exact ⟨rfl, EQ.of6 rfl rfl rfl rfl rfl rfl⟩
        · refine j_tblOut C 110 dX12_voice_55 (by decide) (by decide) ?_
          refine j_aload_n C 0 dX12_voice_110 rfl ?_
          refine j_aload_n C 0 dX12_voice_111 rfl ?_
          refine rg C (v := .int (nI 0)) 27 (by decide) kf12_244 rfl dX12_voice_112 ?_
          refine j_iload_n C 3 dX12_voice_115 rfl ?_
          refine j_callV (As := [.int (nI 0), .int x]) (rest := []) C vw12_standsIn (c_standsIn_0_0 (V := upd (upd (upd (upd V 26 (nI 0)) 27 (nI 0)) 28 (nI pn)) 29 (row (30 + 6 * pn + 1))) (n := nI pn) (m := row (30 + 6 * pn + 1)) 0 (by omega) (by rw [pk_un (by omega), pk_un (by omega), pk_un (by omega), pk_us]) (by rw [pk_un (by omega), pk_us]) pk_us (by rw [pk_un (by omega), pk_un (by omega), pk_us])) rRcv rfl (Nat.le_of_ble_eq_true rfl) dX12_voice_116 (by decide) ?_
          rintro _ _ ⟨rfl, rfl⟩
          refine j_iret C dX12_voice_119 ?_
          unfold sp_voice
          rw [if_pos ⟨c5, c14⟩, tN_nI (n := pn) (by omega), tN_nI (n := 3) (by decide), ek, tN_nI (n := 0) (by decide)]
          exact ⟨rfl, EQ.of6 rfl rfl rfl rfl rfl rfl⟩
      · refine j_aload_n C 0 dX12_voice_24 rfl ?_
        refine j_iconst C (v := (nI 0)) dX12_voice_25 (by decide) ?_
        refine rp_26 C kf12_226 dX12_voice_26 ?_
        refine j_aload_n C 0 dX12_voice_29 rfl ?_
        refine j_aload_n C 0 dX12_voice_30 rfl ?_
        refine j_iload_n C 1 dX12_voice_31 rfl ?_
        refine j_iconst C (v := (nI 0)) dX12_voice_32 (by decide) ?_
        refine j_callV (As := [.int (nI pn), .int (nI 0)]) (rest := [.ref o]) C vw12_its (c_its pn 0 (by omega)) rRcv rfl (Nat.le_of_ble_eq_true rfl) dX12_voice_33 (by decide) ?_
        rintro _ _ ⟨rfl, rfl⟩
        refine j_v (nI 1) ek ?_
        refine rp_27 C kf12_244 dX12_voice_36 ?_
        refine j_aload_n C 0 dX12_voice_39 rfl ?_
        refine j_iload_n C 1 dX12_voice_40 rfl ?_
        refine rp_28 C kf12_232 dX12_voice_41 ?_
        refine j_aload_n C 0 dX12_voice_44 rfl ?_
        refine j_aload_n C 0 dX12_voice_45 rfl ?_
        refine j_iload_n C 1 dX12_voice_46 rfl ?_
        refine j_iconst C (v := (nI 1)) dX12_voice_47 (by decide) ?_
        refine j_callV (As := [.int (nI pn), .int (nI 1)]) (rest := [.ref o]) C vw12_its (c_its pn 1 (by omega)) rRcv rfl (Nat.le_of_ble_eq_true rfl) dX12_voice_48 (by decide) ?_
        rintro _ _ ⟨rfl, rfl⟩
        refine rp_29 C kf12_238 dX12_voice_51 ?_
        refine j_iload_n C 2 dX12_voice_54 rfl ?_
        rcases (show an = 0 ∨ an = 1 ∨ an = 2 ∨ an = 3 by omega) with rfl | rfl | rfl | rfl
        · refine j_tblIn C (off := 25) 80 dX12_voice_55 (by decide) (by decide) (by decide) (by decide) ?_
          refine j_aload_n C 0 dX12_voice_80 rfl ?_
          refine j_aload_n C 0 dX12_voice_81 rfl ?_
          refine rg C (v := .int (nI 1)) 27 (by decide) kf12_244 rfl dX12_voice_82 ?_
          refine j_iload_n C 3 dX12_voice_85 rfl ?_
          refine j_callV (As := [.int (nI 1), .int x]) (rest := []) C vw12_bowsIn (c_bowsIn_1 (V := upd (upd (upd (upd V 26 (nI 0)) 27 (nI 1)) 28 (nI pn)) 29 (row (30 + 6 * pn + 1))) (n := nI pn) (m := row (30 + 6 * pn + 1)) 0 (by omega) (by rw [pk_un (by omega), pk_un (by omega), pk_un (by omega), pk_us]) (by rw [pk_un (by omega), pk_us]) pk_us) rRcv rfl (Nat.le_of_ble_eq_true rfl) dX12_voice_86 (by decide) ?_
          rintro _ _ ⟨rfl, rfl⟩
          refine j_iret C dX12_voice_89 ?_
          unfold sp_voice
          rw [if_pos ⟨c5, c14⟩, tN_nI (n := pn) (by omega), tN_nI (n := 0) (by decide), ek, tN_nI (n := 1) (by decide)]
          exact ⟨rfl, EQ.of6 rfl rfl rfl rfl rfl rfl⟩
        · refine j_tblIn C (off := 35) 90 dX12_voice_55 (by decide) (by decide) (by decide) (by decide) ?_
          refine j_aload_n C 0 dX12_voice_90 rfl ?_
          refine j_aload_n C 0 dX12_voice_91 rfl ?_
          refine rg C (v := .int (nI 1)) 27 (by decide) kf12_244 rfl dX12_voice_92 ?_
          refine j_iload_n C 3 dX12_voice_95 rfl ?_
          refine j_callV (As := [.int (nI 1), .int x]) (rest := []) C vw12_picksIn (c_picksIn_1_1 (V := upd (upd (upd (upd V 26 (nI 0)) 27 (nI 1)) 28 (nI pn)) 29 (row (30 + 6 * pn + 1))) (n := nI pn) (m := row (30 + 6 * pn + 1)) 0 (by omega) (by rw [pk_un (by omega), pk_un (by omega), pk_un (by omega), pk_us]) (by rw [pk_un (by omega), pk_us]) pk_us (by rw [pk_un (by omega), pk_un (by omega), pk_us])) rRcv rfl (Nat.le_of_ble_eq_true rfl) dX12_voice_96 (by decide) ?_
          rintro _ _ ⟨rfl, rfl⟩
          refine j_iret C dX12_voice_99 ?_
          unfold sp_voice
          rw [if_pos ⟨c5, c14⟩, tN_nI (n := pn) (by omega), tN_nI (n := 1) (by decide), ek, tN_nI (n := 1) (by decide)]
          exact ⟨rfl, EQ.of6 rfl rfl rfl rfl rfl rfl⟩
        · refine j_tblIn C (off := 45) 100 dX12_voice_55 (by decide) (by decide) (by decide) (by decide) ?_
          refine j_aload_n C 0 dX12_voice_100 rfl ?_
          refine j_aload_n C 0 dX12_voice_101 rfl ?_
          refine rg C (v := .int (nI 1)) 27 (by decide) kf12_244 rfl dX12_voice_102 ?_
          refine j_iload_n C 3 dX12_voice_105 rfl ?_
          refine j_callV (As := [.int (nI 1), .int x]) (rest := []) C vw12_sighsIn (c_sighsIn_1 (V := upd (upd (upd (upd V 26 (nI 0)) 27 (nI 1)) 28 (nI pn)) 29 (row (30 + 6 * pn + 1))) (n := nI pn) (m := row (30 + 6 * pn + 1)) 0 (by omega) (by rw [pk_un (by omega), pk_un (by omega), pk_un (by omega), pk_us]) (by rw [pk_un (by omega), pk_us]) pk_us) rRcv rfl (Nat.le_of_ble_eq_true rfl) dX12_voice_106 (by decide) ?_
          rintro _ _ ⟨rfl, rfl⟩
          refine j_iret C dX12_voice_109 ?_
          unfold sp_voice
          rw [if_pos ⟨c5, c14⟩, tN_nI (n := pn) (by omega), tN_nI (n := 2) (by decide), ek, tN_nI (n := 1) (by decide)]
          exact ⟨rfl, EQ.of6 rfl rfl rfl rfl rfl rfl⟩
        · refine j_tblOut C 110 dX12_voice_55 (by decide) (by decide) ?_
          refine j_aload_n C 0 dX12_voice_110 rfl ?_
          refine j_aload_n C 0 dX12_voice_111 rfl ?_
          refine rg C (v := .int (nI 1)) 27 (by decide) kf12_244 rfl dX12_voice_112 ?_
          refine j_iload_n C 3 dX12_voice_115 rfl ?_
          refine j_callV (As := [.int (nI 1), .int x]) (rest := []) C vw12_standsIn (c_standsIn_1_1 (V := upd (upd (upd (upd V 26 (nI 0)) 27 (nI 1)) 28 (nI pn)) 29 (row (30 + 6 * pn + 1))) (n := nI pn) (m := row (30 + 6 * pn + 1)) 0 (by omega) (by rw [pk_un (by omega), pk_un (by omega), pk_un (by omega), pk_us]) (by rw [pk_un (by omega), pk_us]) pk_us (by rw [pk_un (by omega), pk_un (by omega), pk_us])) rRcv rfl (Nat.le_of_ble_eq_true rfl) dX12_voice_116 (by decide) ?_
          rintro _ _ ⟨rfl, rfl⟩
          refine j_iret C dX12_voice_119 ?_
          unfold sp_voice
          rw [if_pos ⟨c5, c14⟩, tN_nI (n := pn) (by omega), tN_nI (n := 3) (by decide), ek, tN_nI (n := 1) (by decide)]
          exact ⟨rfl, EQ.of6 rfl rfl rfl rfl rfl rfl⟩
      · refine j_aload_n C 0 dX12_voice_24 rfl ?_
        refine j_iconst C (v := (nI 0)) dX12_voice_25 (by decide) ?_
        refine rp_26 C kf12_226 dX12_voice_26 ?_
        refine j_aload_n C 0 dX12_voice_29 rfl ?_
        refine j_aload_n C 0 dX12_voice_30 rfl ?_
        refine j_iload_n C 1 dX12_voice_31 rfl ?_
        refine j_iconst C (v := (nI 0)) dX12_voice_32 (by decide) ?_
        refine j_callV (As := [.int (nI pn), .int (nI 0)]) (rest := [.ref o]) C vw12_its (c_its pn 0 (by omega)) rRcv rfl (Nat.le_of_ble_eq_true rfl) dX12_voice_33 (by decide) ?_
        rintro _ _ ⟨rfl, rfl⟩
        refine j_v (nI 2) ek ?_
        refine rp_27 C kf12_244 dX12_voice_36 ?_
        refine j_aload_n C 0 dX12_voice_39 rfl ?_
        refine j_iload_n C 1 dX12_voice_40 rfl ?_
        refine rp_28 C kf12_232 dX12_voice_41 ?_
        refine j_aload_n C 0 dX12_voice_44 rfl ?_
        refine j_aload_n C 0 dX12_voice_45 rfl ?_
        refine j_iload_n C 1 dX12_voice_46 rfl ?_
        refine j_iconst C (v := (nI 1)) dX12_voice_47 (by decide) ?_
        refine j_callV (As := [.int (nI pn), .int (nI 1)]) (rest := [.ref o]) C vw12_its (c_its pn 1 (by omega)) rRcv rfl (Nat.le_of_ble_eq_true rfl) dX12_voice_48 (by decide) ?_
        rintro _ _ ⟨rfl, rfl⟩
        refine rp_29 C kf12_238 dX12_voice_51 ?_
        refine j_iload_n C 2 dX12_voice_54 rfl ?_
        rcases (show an = 0 ∨ an = 1 ∨ an = 2 ∨ an = 3 by omega) with rfl | rfl | rfl | rfl
        · refine j_tblIn C (off := 25) 80 dX12_voice_55 (by decide) (by decide) (by decide) (by decide) ?_
          refine j_aload_n C 0 dX12_voice_80 rfl ?_
          refine j_aload_n C 0 dX12_voice_81 rfl ?_
          refine rg C (v := .int (nI 2)) 27 (by decide) kf12_244 rfl dX12_voice_82 ?_
          refine j_iload_n C 3 dX12_voice_85 rfl ?_
          refine j_callV (As := [.int (nI 2), .int x]) (rest := []) C vw12_bowsIn (c_bowsIn_2 (V := upd (upd (upd (upd V 26 (nI 0)) 27 (nI 2)) 28 (nI pn)) 29 (row (30 + 6 * pn + 1))) (n := nI pn) (m := row (30 + 6 * pn + 1)) 0 (by omega) (by rw [pk_un (by omega), pk_un (by omega), pk_un (by omega), pk_us]) (by rw [pk_un (by omega), pk_us]) pk_us) rRcv rfl (Nat.le_of_ble_eq_true rfl) dX12_voice_86 (by decide) ?_
          rintro _ _ ⟨rfl, rfl⟩
          refine j_iret C dX12_voice_89 ?_
          unfold sp_voice
          rw [if_pos ⟨c5, c14⟩, tN_nI (n := pn) (by omega), tN_nI (n := 0) (by decide), ek, tN_nI (n := 2) (by decide)]
          exact ⟨rfl, EQ.of6 rfl rfl rfl rfl rfl rfl⟩
        · refine j_tblIn C (off := 35) 90 dX12_voice_55 (by decide) (by decide) (by decide) (by decide) ?_
          refine j_aload_n C 0 dX12_voice_90 rfl ?_
          refine j_aload_n C 0 dX12_voice_91 rfl ?_
          refine rg C (v := .int (nI 2)) 27 (by decide) kf12_244 rfl dX12_voice_92 ?_
          refine j_iload_n C 3 dX12_voice_95 rfl ?_
          refine j_callV (As := [.int (nI 2), .int x]) (rest := []) C vw12_picksIn (c_picksIn_2_2 (V := upd (upd (upd (upd V 26 (nI 0)) 27 (nI 2)) 28 (nI pn)) 29 (row (30 + 6 * pn + 1))) (n := nI pn) (m := row (30 + 6 * pn + 1)) 0 (by omega) (by rw [pk_un (by omega), pk_un (by omega), pk_un (by omega), pk_us]) (by rw [pk_un (by omega), pk_us]) pk_us (by rw [pk_un (by omega), pk_un (by omega), pk_us])) rRcv rfl (Nat.le_of_ble_eq_true rfl) dX12_voice_96 (by decide) ?_
          rintro _ _ ⟨rfl, rfl⟩
          refine j_iret C dX12_voice_99 ?_
          unfold sp_voice
          rw [if_pos ⟨c5, c14⟩, tN_nI (n := pn) (by omega), tN_nI (n := 1) (by decide), ek, tN_nI (n := 2) (by decide)]
          exact ⟨rfl, EQ.of6 rfl rfl rfl rfl rfl rfl⟩
        · refine j_tblIn C (off := 45) 100 dX12_voice_55 (by decide) (by decide) (by decide) (by decide) ?_
          refine j_aload_n C 0 dX12_voice_100 rfl ?_
          refine j_aload_n C 0 dX12_voice_101 rfl ?_
          refine rg C (v := .int (nI 2)) 27 (by decide) kf12_244 rfl dX12_voice_102 ?_
          refine j_iload_n C 3 dX12_voice_105 rfl ?_
          refine j_callV (As := [.int (nI 2), .int x]) (rest := []) C vw12_sighsIn (c_sighsIn_2 (V := upd (upd (upd (upd V 26 (nI 0)) 27 (nI 2)) 28 (nI pn)) 29 (row (30 + 6 * pn + 1))) (n := nI pn) (m := row (30 + 6 * pn + 1)) 0 (by omega) (by rw [pk_un (by omega), pk_un (by omega), pk_un (by omega), pk_us]) (by rw [pk_un (by omega), pk_us]) pk_us) rRcv rfl (Nat.le_of_ble_eq_true rfl) dX12_voice_106 (by decide) ?_
          rintro _ _ ⟨rfl, rfl⟩
          refine j_iret C dX12_voice_109 ?_
          unfold sp_voice
          rw [if_pos ⟨c5, c14⟩, tN_nI (n := pn) (by omega), tN_nI (n := 2) (by decide), ek, tN_nI (n := 2) (by decide)]
          exact ⟨rfl, EQ.of6 rfl rfl rfl rfl rfl rfl⟩
        · refine j_tblOut C 110 dX12_voice_55 (by decide) (by decide) ?_
          refine j_aload_n C 0 dX12_voice_110 rfl ?_
          refine j_aload_n C 0 dX12_voice_111 rfl ?_
          refine rg C (v := .int (nI 2)) 27 (by decide) kf12_244 rfl dX12_voice_112 ?_
          refine j_iload_n C 3 dX12_voice_115 rfl ?_
          refine j_callV (As := [.int (nI 2), .int x]) (rest := []) C vw12_standsIn (c_standsIn_2_2 (V := upd (upd (upd (upd V 26 (nI 0)) 27 (nI 2)) 28 (nI pn)) 29 (row (30 + 6 * pn + 1))) (n := nI pn) (m := row (30 + 6 * pn + 1)) 0 (by omega) (by rw [pk_un (by omega), pk_un (by omega), pk_un (by omega), pk_us]) (by rw [pk_un (by omega), pk_us]) pk_us (by rw [pk_un (by omega), pk_un (by omega), pk_us])) rRcv rfl (Nat.le_of_ble_eq_true rfl) dX12_voice_116 (by decide) ?_
          rintro _ _ ⟨rfl, rfl⟩
          refine j_iret C dX12_voice_119 ?_
          unfold sp_voice
          rw [if_pos ⟨c5, c14⟩, tN_nI (n := pn) (by omega), tN_nI (n := 3) (by decide), ek, tN_nI (n := 2) (by decide)]
          exact ⟨rfl, EQ.of6 rfl rfl rfl rfl rfl rfl⟩
      · refine j_aload_n C 0 dX12_voice_24 rfl ?_
        refine j_iconst C (v := (nI 0)) dX12_voice_25 (by decide) ?_
        refine rp_26 C kf12_226 dX12_voice_26 ?_
        refine j_aload_n C 0 dX12_voice_29 rfl ?_
        refine j_aload_n C 0 dX12_voice_30 rfl ?_
        refine j_iload_n C 1 dX12_voice_31 rfl ?_
        refine j_iconst C (v := (nI 0)) dX12_voice_32 (by decide) ?_
        refine j_callV (As := [.int (nI pn), .int (nI 0)]) (rest := [.ref o]) C vw12_its (c_its pn 0 (by omega)) rRcv rfl (Nat.le_of_ble_eq_true rfl) dX12_voice_33 (by decide) ?_
        rintro _ _ ⟨rfl, rfl⟩
        refine j_v (nI 3) ek ?_
        refine rp_27 C kf12_244 dX12_voice_36 ?_
        refine j_aload_n C 0 dX12_voice_39 rfl ?_
        refine j_iload_n C 1 dX12_voice_40 rfl ?_
        refine rp_28 C kf12_232 dX12_voice_41 ?_
        refine j_aload_n C 0 dX12_voice_44 rfl ?_
        refine j_aload_n C 0 dX12_voice_45 rfl ?_
        refine j_iload_n C 1 dX12_voice_46 rfl ?_
        refine j_iconst C (v := (nI 1)) dX12_voice_47 (by decide) ?_
        refine j_callV (As := [.int (nI pn), .int (nI 1)]) (rest := [.ref o]) C vw12_its (c_its pn 1 (by omega)) rRcv rfl (Nat.le_of_ble_eq_true rfl) dX12_voice_48 (by decide) ?_
        rintro _ _ ⟨rfl, rfl⟩
        refine rp_29 C kf12_238 dX12_voice_51 ?_
        refine j_iload_n C 2 dX12_voice_54 rfl ?_
        rcases (show an = 0 ∨ an = 1 ∨ an = 2 ∨ an = 3 by omega) with rfl | rfl | rfl | rfl
        · refine j_tblIn C (off := 25) 80 dX12_voice_55 (by decide) (by decide) (by decide) (by decide) ?_
          refine j_aload_n C 0 dX12_voice_80 rfl ?_
          refine j_aload_n C 0 dX12_voice_81 rfl ?_
          refine rg C (v := .int (nI 3)) 27 (by decide) kf12_244 rfl dX12_voice_82 ?_
          refine j_iload_n C 3 dX12_voice_85 rfl ?_
          refine j_callV (As := [.int (nI 3), .int x]) (rest := []) C vw12_bowsIn (c_bowsIn_3 (V := upd (upd (upd (upd V 26 (nI 0)) 27 (nI 3)) 28 (nI pn)) 29 (row (30 + 6 * pn + 1))) (n := nI pn) (m := row (30 + 6 * pn + 1)) 0 (by omega) (by rw [pk_un (by omega), pk_un (by omega), pk_un (by omega), pk_us]) (by rw [pk_un (by omega), pk_us]) pk_us) rRcv rfl (Nat.le_of_ble_eq_true rfl) dX12_voice_86 (by decide) ?_
          rintro _ _ ⟨rfl, rfl⟩
          refine j_iret C dX12_voice_89 ?_
          unfold sp_voice
          rw [if_pos ⟨c5, c14⟩, tN_nI (n := pn) (by omega), tN_nI (n := 0) (by decide), ek, tN_nI (n := 3) (by decide)]
          exact ⟨rfl, EQ.of6 rfl rfl rfl rfl rfl rfl⟩
        · refine j_tblIn C (off := 35) 90 dX12_voice_55 (by decide) (by decide) (by decide) (by decide) ?_
          refine j_aload_n C 0 dX12_voice_90 rfl ?_
          refine j_aload_n C 0 dX12_voice_91 rfl ?_
          refine rg C (v := .int (nI 3)) 27 (by decide) kf12_244 rfl dX12_voice_92 ?_
          refine j_iload_n C 3 dX12_voice_95 rfl ?_
          refine j_callV (As := [.int (nI 3), .int x]) (rest := []) C vw12_picksIn (c_picksIn_3_3 (V := upd (upd (upd (upd V 26 (nI 0)) 27 (nI 3)) 28 (nI pn)) 29 (row (30 + 6 * pn + 1))) (n := nI pn) (m := row (30 + 6 * pn + 1)) 0 (by omega) (by rw [pk_un (by omega), pk_un (by omega), pk_un (by omega), pk_us]) (by rw [pk_un (by omega), pk_us]) pk_us (by rw [pk_un (by omega), pk_un (by omega), pk_us])) rRcv rfl (Nat.le_of_ble_eq_true rfl) dX12_voice_96 (by decide) ?_
          rintro _ _ ⟨rfl, rfl⟩
          refine j_iret C dX12_voice_99 ?_
          unfold sp_voice
          rw [if_pos ⟨c5, c14⟩, tN_nI (n := pn) (by omega), tN_nI (n := 1) (by decide), ek, tN_nI (n := 3) (by decide)]
          exact ⟨rfl, EQ.of6 rfl rfl rfl rfl rfl rfl⟩
        · refine j_tblIn C (off := 45) 100 dX12_voice_55 (by decide) (by decide) (by decide) (by decide) ?_
          refine j_aload_n C 0 dX12_voice_100 rfl ?_
          refine j_aload_n C 0 dX12_voice_101 rfl ?_
          refine rg C (v := .int (nI 3)) 27 (by decide) kf12_244 rfl dX12_voice_102 ?_
          refine j_iload_n C 3 dX12_voice_105 rfl ?_
          refine j_callV (As := [.int (nI 3), .int x]) (rest := []) C vw12_sighsIn (c_sighsIn_3 (V := upd (upd (upd (upd V 26 (nI 0)) 27 (nI 3)) 28 (nI pn)) 29 (row (30 + 6 * pn + 1))) (n := nI pn) (m := row (30 + 6 * pn + 1)) 0 (by omega) (by rw [pk_un (by omega), pk_un (by omega), pk_un (by omega), pk_us]) (by rw [pk_un (by omega), pk_us]) pk_us) rRcv rfl (Nat.le_of_ble_eq_true rfl) dX12_voice_106 (by decide) ?_
          rintro _ _ ⟨rfl, rfl⟩
          refine j_iret C dX12_voice_109 ?_
          unfold sp_voice
          rw [if_pos ⟨c5, c14⟩, tN_nI (n := pn) (by omega), tN_nI (n := 2) (by decide), ek, tN_nI (n := 3) (by decide)]
          exact ⟨rfl, EQ.of6 rfl rfl rfl rfl rfl rfl⟩
        · refine j_tblOut C 110 dX12_voice_55 (by decide) (by decide) ?_
          refine j_aload_n C 0 dX12_voice_110 rfl ?_
          refine j_aload_n C 0 dX12_voice_111 rfl ?_
          refine rg C (v := .int (nI 3)) 27 (by decide) kf12_244 rfl dX12_voice_112 ?_
          refine j_iload_n C 3 dX12_voice_115 rfl ?_
          refine j_callV (As := [.int (nI 3), .int x]) (rest := []) C vw12_standsIn (c_standsIn_3_3 (V := upd (upd (upd (upd V 26 (nI 0)) 27 (nI 3)) 28 (nI pn)) 29 (row (30 + 6 * pn + 1))) (n := nI pn) (m := row (30 + 6 * pn + 1)) 0 (by omega) (by rw [pk_un (by omega), pk_un (by omega), pk_un (by omega), pk_us]) (by rw [pk_un (by omega), pk_us]) pk_us (by rw [pk_un (by omega), pk_un (by omega), pk_us])) rRcv rfl (Nat.le_of_ble_eq_true rfl) dX12_voice_116 (by decide) ?_
          rintro _ _ ⟨rfl, rfl⟩
          refine j_iret C dX12_voice_119 ?_
          unfold sp_voice
          rw [if_pos ⟨c5, c14⟩, tN_nI (n := pn) (by omega), tN_nI (n := 3) (by decide), ek, tN_nI (n := 3) (by decide)]
          exact ⟨rfl, EQ.of6 rfl rfl rfl rfl rfl rfl⟩
      · refine j_aload_n C 0 dX12_voice_24 rfl ?_
        refine j_iconst C (v := (nI 0)) dX12_voice_25 (by decide) ?_
        refine rp_26 C kf12_226 dX12_voice_26 ?_
        refine j_aload_n C 0 dX12_voice_29 rfl ?_
        refine j_aload_n C 0 dX12_voice_30 rfl ?_
        refine j_iload_n C 1 dX12_voice_31 rfl ?_
        refine j_iconst C (v := (nI 0)) dX12_voice_32 (by decide) ?_
        refine j_callV (As := [.int (nI pn), .int (nI 0)]) (rest := [.ref o]) C vw12_its (c_its pn 0 (by omega)) rRcv rfl (Nat.le_of_ble_eq_true rfl) dX12_voice_33 (by decide) ?_
        rintro _ _ ⟨rfl, rfl⟩
        refine j_v (nI 4) ek ?_
        refine rp_27 C kf12_244 dX12_voice_36 ?_
        refine j_aload_n C 0 dX12_voice_39 rfl ?_
        refine j_iload_n C 1 dX12_voice_40 rfl ?_
        refine rp_28 C kf12_232 dX12_voice_41 ?_
        refine j_aload_n C 0 dX12_voice_44 rfl ?_
        refine j_aload_n C 0 dX12_voice_45 rfl ?_
        refine j_iload_n C 1 dX12_voice_46 rfl ?_
        refine j_iconst C (v := (nI 1)) dX12_voice_47 (by decide) ?_
        refine j_callV (As := [.int (nI pn), .int (nI 1)]) (rest := [.ref o]) C vw12_its (c_its pn 1 (by omega)) rRcv rfl (Nat.le_of_ble_eq_true rfl) dX12_voice_48 (by decide) ?_
        rintro _ _ ⟨rfl, rfl⟩
        refine rp_29 C kf12_238 dX12_voice_51 ?_
        refine j_iload_n C 2 dX12_voice_54 rfl ?_
        rcases (show an = 0 ∨ an = 1 ∨ an = 2 ∨ an = 3 by omega) with rfl | rfl | rfl | rfl
        · refine j_tblIn C (off := 25) 80 dX12_voice_55 (by decide) (by decide) (by decide) (by decide) ?_
          refine j_aload_n C 0 dX12_voice_80 rfl ?_
          refine j_aload_n C 0 dX12_voice_81 rfl ?_
          refine rg C (v := .int (nI 4)) 27 (by decide) kf12_244 rfl dX12_voice_82 ?_
          refine j_iload_n C 3 dX12_voice_85 rfl ?_
          refine j_callV (As := [.int (nI 4), .int x]) (rest := []) C vw12_bowsIn (c_bowsIn_4 (V := upd (upd (upd (upd V 26 (nI 0)) 27 (nI 4)) 28 (nI pn)) 29 (row (30 + 6 * pn + 1))) (n := nI pn) (m := row (30 + 6 * pn + 1)) 0 (by omega) (by rw [pk_un (by omega), pk_un (by omega), pk_un (by omega), pk_us]) (by rw [pk_un (by omega), pk_us]) pk_us) rRcv rfl (Nat.le_of_ble_eq_true rfl) dX12_voice_86 (by decide) ?_
          rintro _ _ ⟨rfl, rfl⟩
          refine j_iret C dX12_voice_89 ?_
          unfold sp_voice
          rw [if_pos ⟨c5, c14⟩, tN_nI (n := pn) (by omega), tN_nI (n := 0) (by decide), ek, tN_nI (n := 4) (by decide)]
          exact ⟨rfl, EQ.of6 rfl rfl rfl rfl rfl rfl⟩
        · refine j_tblIn C (off := 35) 90 dX12_voice_55 (by decide) (by decide) (by decide) (by decide) ?_
          refine j_aload_n C 0 dX12_voice_90 rfl ?_
          refine j_aload_n C 0 dX12_voice_91 rfl ?_
          refine rg C (v := .int (nI 4)) 27 (by decide) kf12_244 rfl dX12_voice_92 ?_
          refine j_iload_n C 3 dX12_voice_95 rfl ?_
          refine j_callV (As := [.int (nI 4), .int x]) (rest := []) C vw12_picksIn (c_picksIn_4_4 (V := upd (upd (upd (upd V 26 (nI 0)) 27 (nI 4)) 28 (nI pn)) 29 (row (30 + 6 * pn + 1))) (n := nI pn) (m := row (30 + 6 * pn + 1)) 0 (by omega) (by rw [pk_un (by omega), pk_un (by omega), pk_un (by omega), pk_us]) (by rw [pk_un (by omega), pk_us]) pk_us (by rw [pk_un (by omega), pk_un (by omega), pk_us])) rRcv rfl (Nat.le_of_ble_eq_true rfl) dX12_voice_96 (by decide) ?_
          rintro _ _ ⟨rfl, rfl⟩
          refine j_iret C dX12_voice_99 ?_
          unfold sp_voice
          rw [if_pos ⟨c5, c14⟩, tN_nI (n := pn) (by omega), tN_nI (n := 1) (by decide), ek, tN_nI (n := 4) (by decide)]
          exact ⟨rfl, EQ.of6 rfl rfl rfl rfl rfl rfl⟩
        · refine j_tblIn C (off := 45) 100 dX12_voice_55 (by decide) (by decide) (by decide) (by decide) ?_
          refine j_aload_n C 0 dX12_voice_100 rfl ?_
          refine j_aload_n C 0 dX12_voice_101 rfl ?_
          refine rg C (v := .int (nI 4)) 27 (by decide) kf12_244 rfl dX12_voice_102 ?_
          refine j_iload_n C 3 dX12_voice_105 rfl ?_
          refine j_callV (As := [.int (nI 4), .int x]) (rest := []) C vw12_sighsIn (c_sighsIn_4 (V := upd (upd (upd (upd V 26 (nI 0)) 27 (nI 4)) 28 (nI pn)) 29 (row (30 + 6 * pn + 1))) (n := nI pn) (m := row (30 + 6 * pn + 1)) 0 (by omega) (by rw [pk_un (by omega), pk_un (by omega), pk_un (by omega), pk_us]) (by rw [pk_un (by omega), pk_us]) pk_us) rRcv rfl (Nat.le_of_ble_eq_true rfl) dX12_voice_106 (by decide) ?_
          rintro _ _ ⟨rfl, rfl⟩
          refine j_iret C dX12_voice_109 ?_
          unfold sp_voice
          rw [if_pos ⟨c5, c14⟩, tN_nI (n := pn) (by omega), tN_nI (n := 2) (by decide), ek, tN_nI (n := 4) (by decide)]
          exact ⟨rfl, EQ.of6 rfl rfl rfl rfl rfl rfl⟩
        · refine j_tblOut C 110 dX12_voice_55 (by decide) (by decide) ?_
          refine j_aload_n C 0 dX12_voice_110 rfl ?_
          refine j_aload_n C 0 dX12_voice_111 rfl ?_
          refine rg C (v := .int (nI 4)) 27 (by decide) kf12_244 rfl dX12_voice_112 ?_
          refine j_iload_n C 3 dX12_voice_115 rfl ?_
          refine j_callV (As := [.int (nI 4), .int x]) (rest := []) C vw12_standsIn (c_standsIn_4_4 (V := upd (upd (upd (upd V 26 (nI 0)) 27 (nI 4)) 28 (nI pn)) 29 (row (30 + 6 * pn + 1))) (n := nI pn) (m := row (30 + 6 * pn + 1)) 0 (by omega) (by rw [pk_un (by omega), pk_un (by omega), pk_un (by omega), pk_us]) (by rw [pk_un (by omega), pk_us]) pk_us (by rw [pk_un (by omega), pk_un (by omega), pk_us])) rRcv rfl (Nat.le_of_ble_eq_true rfl) dX12_voice_116 (by decide) ?_
          rintro _ _ ⟨rfl, rfl⟩
          refine j_iret C dX12_voice_119 ?_
          unfold sp_voice
          rw [if_pos ⟨c5, c14⟩, tN_nI (n := pn) (by omega), tN_nI (n := 3) (by decide), ek, tN_nI (n := 4) (by decide)]
          exact ⟨rfl, EQ.of6 rfl rfl rfl rfl rfl rfl⟩
      · refine j_aload_n C 0 dX12_voice_24 rfl ?_
        refine j_iconst C (v := (nI 0)) dX12_voice_25 (by decide) ?_
        refine rp_26 C kf12_226 dX12_voice_26 ?_
        refine j_aload_n C 0 dX12_voice_29 rfl ?_
        refine j_aload_n C 0 dX12_voice_30 rfl ?_
        refine j_iload_n C 1 dX12_voice_31 rfl ?_
        refine j_iconst C (v := (nI 0)) dX12_voice_32 (by decide) ?_
        refine j_callV (As := [.int (nI pn), .int (nI 0)]) (rest := [.ref o]) C vw12_its (c_its pn 0 (by omega)) rRcv rfl (Nat.le_of_ble_eq_true rfl) dX12_voice_33 (by decide) ?_
        rintro _ _ ⟨rfl, rfl⟩
        refine j_v (nI 5) ek ?_
        refine rp_27 C kf12_244 dX12_voice_36 ?_
        refine j_aload_n C 0 dX12_voice_39 rfl ?_
        refine j_iload_n C 1 dX12_voice_40 rfl ?_
        refine rp_28 C kf12_232 dX12_voice_41 ?_
        refine j_aload_n C 0 dX12_voice_44 rfl ?_
        refine j_aload_n C 0 dX12_voice_45 rfl ?_
        refine j_iload_n C 1 dX12_voice_46 rfl ?_
        refine j_iconst C (v := (nI 1)) dX12_voice_47 (by decide) ?_
        refine j_callV (As := [.int (nI pn), .int (nI 1)]) (rest := [.ref o]) C vw12_its (c_its pn 1 (by omega)) rRcv rfl (Nat.le_of_ble_eq_true rfl) dX12_voice_48 (by decide) ?_
        rintro _ _ ⟨rfl, rfl⟩
        refine rp_29 C kf12_238 dX12_voice_51 ?_
        refine j_iload_n C 2 dX12_voice_54 rfl ?_
        rcases (show an = 0 ∨ an = 1 ∨ an = 2 ∨ an = 3 by omega) with rfl | rfl | rfl | rfl
        · refine j_tblIn C (off := 25) 80 dX12_voice_55 (by decide) (by decide) (by decide) (by decide) ?_
          refine j_aload_n C 0 dX12_voice_80 rfl ?_
          refine j_aload_n C 0 dX12_voice_81 rfl ?_
          refine rg C (v := .int (nI 5)) 27 (by decide) kf12_244 rfl dX12_voice_82 ?_
          refine j_iload_n C 3 dX12_voice_85 rfl ?_
          refine j_callV (As := [.int (nI 5), .int x]) (rest := []) C vw12_bowsIn (c_bowsIn_5 (V := upd (upd (upd (upd V 26 (nI 0)) 27 (nI 5)) 28 (nI pn)) 29 (row (30 + 6 * pn + 1))) (n := nI pn) (m := row (30 + 6 * pn + 1)) 0 (by omega) (by rw [pk_un (by omega), pk_un (by omega), pk_un (by omega), pk_us]) (by rw [pk_un (by omega), pk_us]) pk_us) rRcv rfl (Nat.le_of_ble_eq_true rfl) dX12_voice_86 (by decide) ?_
          rintro _ _ ⟨rfl, rfl⟩
          refine j_iret C dX12_voice_89 ?_
          unfold sp_voice
          rw [if_pos ⟨c5, c14⟩, tN_nI (n := pn) (by omega), tN_nI (n := 0) (by decide), ek, tN_nI (n := 5) (by decide)]
          exact ⟨rfl, EQ.of6 rfl rfl rfl rfl rfl rfl⟩
        · refine j_tblIn C (off := 35) 90 dX12_voice_55 (by decide) (by decide) (by decide) (by decide) ?_
          refine j_aload_n C 0 dX12_voice_90 rfl ?_
          refine j_aload_n C 0 dX12_voice_91 rfl ?_
          refine rg C (v := .int (nI 5)) 27 (by decide) kf12_244 rfl dX12_voice_92 ?_
          refine j_iload_n C 3 dX12_voice_95 rfl ?_
          refine j_callV (As := [.int (nI 5), .int x]) (rest := []) C vw12_picksIn (c_picksIn_5_5 (V := upd (upd (upd (upd V 26 (nI 0)) 27 (nI 5)) 28 (nI pn)) 29 (row (30 + 6 * pn + 1))) (n := nI pn) (m := row (30 + 6 * pn + 1)) 0 (by omega) (by rw [pk_un (by omega), pk_un (by omega), pk_un (by omega), pk_us]) (by rw [pk_un (by omega), pk_us]) pk_us (by rw [pk_un (by omega), pk_un (by omega), pk_us])) rRcv rfl (Nat.le_of_ble_eq_true rfl) dX12_voice_96 (by decide) ?_
          rintro _ _ ⟨rfl, rfl⟩
          refine j_iret C dX12_voice_99 ?_
          unfold sp_voice
          rw [if_pos ⟨c5, c14⟩, tN_nI (n := pn) (by omega), tN_nI (n := 1) (by decide), ek, tN_nI (n := 5) (by decide)]
          exact ⟨rfl, EQ.of6 rfl rfl rfl rfl rfl rfl⟩
        · refine j_tblIn C (off := 45) 100 dX12_voice_55 (by decide) (by decide) (by decide) (by decide) ?_
          refine j_aload_n C 0 dX12_voice_100 rfl ?_
          refine j_aload_n C 0 dX12_voice_101 rfl ?_
          refine rg C (v := .int (nI 5)) 27 (by decide) kf12_244 rfl dX12_voice_102 ?_
          refine j_iload_n C 3 dX12_voice_105 rfl ?_
          refine j_callV (As := [.int (nI 5), .int x]) (rest := []) C vw12_sighsIn (c_sighsIn_5 (V := upd (upd (upd (upd V 26 (nI 0)) 27 (nI 5)) 28 (nI pn)) 29 (row (30 + 6 * pn + 1))) (n := nI pn) (m := row (30 + 6 * pn + 1)) 0 (by omega) (by rw [pk_un (by omega), pk_un (by omega), pk_un (by omega), pk_us]) (by rw [pk_un (by omega), pk_us]) pk_us) rRcv rfl (Nat.le_of_ble_eq_true rfl) dX12_voice_106 (by decide) ?_
          rintro _ _ ⟨rfl, rfl⟩
          refine j_iret C dX12_voice_109 ?_
          unfold sp_voice
          rw [if_pos ⟨c5, c14⟩, tN_nI (n := pn) (by omega), tN_nI (n := 2) (by decide), ek, tN_nI (n := 5) (by decide)]
          exact ⟨rfl, EQ.of6 rfl rfl rfl rfl rfl rfl⟩
        · refine j_tblOut C 110 dX12_voice_55 (by decide) (by decide) ?_
          refine j_aload_n C 0 dX12_voice_110 rfl ?_
          refine j_aload_n C 0 dX12_voice_111 rfl ?_
          refine rg C (v := .int (nI 5)) 27 (by decide) kf12_244 rfl dX12_voice_112 ?_
          refine j_iload_n C 3 dX12_voice_115 rfl ?_
          refine j_callV (As := [.int (nI 5), .int x]) (rest := []) C vw12_standsIn (c_standsIn_5_5 (V := upd (upd (upd (upd V 26 (nI 0)) 27 (nI 5)) 28 (nI pn)) 29 (row (30 + 6 * pn + 1))) (n := nI pn) (m := row (30 + 6 * pn + 1)) 0 (by omega) (by rw [pk_un (by omega), pk_un (by omega), pk_un (by omega), pk_us]) (by rw [pk_un (by omega), pk_us]) pk_us (by rw [pk_un (by omega), pk_un (by omega), pk_us])) rRcv rfl (Nat.le_of_ble_eq_true rfl) dX12_voice_116 (by decide) ?_
          rintro _ _ ⟨rfl, rfl⟩
          refine j_iret C dX12_voice_119 ?_
          unfold sp_voice
          rw [if_pos ⟨c5, c14⟩, tN_nI (n := pn) (by omega), tN_nI (n := 3) (by decide), ek, tN_nI (n := 5) (by decide)]
          exact ⟨rfl, EQ.of6 rfl rfl rfl rfl rfl rfl⟩
      · refine j_aload_n C 0 dX12_voice_24 rfl ?_
        refine j_iconst C (v := (nI 0)) dX12_voice_25 (by decide) ?_
        refine rp_26 C kf12_226 dX12_voice_26 ?_
        refine j_aload_n C 0 dX12_voice_29 rfl ?_
        refine j_aload_n C 0 dX12_voice_30 rfl ?_
        refine j_iload_n C 1 dX12_voice_31 rfl ?_
        refine j_iconst C (v := (nI 0)) dX12_voice_32 (by decide) ?_
        refine j_callV (As := [.int (nI pn), .int (nI 0)]) (rest := [.ref o]) C vw12_its (c_its pn 0 (by omega)) rRcv rfl (Nat.le_of_ble_eq_true rfl) dX12_voice_33 (by decide) ?_
        rintro _ _ ⟨rfl, rfl⟩
        refine j_v (nI 6) ek ?_
        refine rp_27 C kf12_244 dX12_voice_36 ?_
        refine j_aload_n C 0 dX12_voice_39 rfl ?_
        refine j_iload_n C 1 dX12_voice_40 rfl ?_
        refine rp_28 C kf12_232 dX12_voice_41 ?_
        refine j_aload_n C 0 dX12_voice_44 rfl ?_
        refine j_aload_n C 0 dX12_voice_45 rfl ?_
        refine j_iload_n C 1 dX12_voice_46 rfl ?_
        refine j_iconst C (v := (nI 1)) dX12_voice_47 (by decide) ?_
        refine j_callV (As := [.int (nI pn), .int (nI 1)]) (rest := [.ref o]) C vw12_its (c_its pn 1 (by omega)) rRcv rfl (Nat.le_of_ble_eq_true rfl) dX12_voice_48 (by decide) ?_
        rintro _ _ ⟨rfl, rfl⟩
        refine rp_29 C kf12_238 dX12_voice_51 ?_
        refine j_iload_n C 2 dX12_voice_54 rfl ?_
        rcases (show an = 0 ∨ an = 1 ∨ an = 2 ∨ an = 3 by omega) with rfl | rfl | rfl | rfl
        · refine j_tblIn C (off := 25) 80 dX12_voice_55 (by decide) (by decide) (by decide) (by decide) ?_
          refine j_aload_n C 0 dX12_voice_80 rfl ?_
          refine j_aload_n C 0 dX12_voice_81 rfl ?_
          refine rg C (v := .int (nI 6)) 27 (by decide) kf12_244 rfl dX12_voice_82 ?_
          refine j_iload_n C 3 dX12_voice_85 rfl ?_
          refine j_callV (As := [.int (nI 6), .int x]) (rest := []) C vw12_bowsIn (c_bowsIn_6 (V := upd (upd (upd (upd V 26 (nI 0)) 27 (nI 6)) 28 (nI pn)) 29 (row (30 + 6 * pn + 1))) (n := nI pn) (m := row (30 + 6 * pn + 1)) 0 (by omega) (by rw [pk_un (by omega), pk_un (by omega), pk_un (by omega), pk_us]) (by rw [pk_un (by omega), pk_us]) pk_us) rRcv rfl (Nat.le_of_ble_eq_true rfl) dX12_voice_86 (by decide) ?_
          rintro _ _ ⟨rfl, rfl⟩
          refine j_iret C dX12_voice_89 ?_
          unfold sp_voice
          rw [if_pos ⟨c5, c14⟩, tN_nI (n := pn) (by omega), tN_nI (n := 0) (by decide), ek, tN_nI (n := 6) (by decide)]
          exact ⟨rfl, EQ.of6 rfl rfl rfl rfl rfl rfl⟩
        · refine j_tblIn C (off := 35) 90 dX12_voice_55 (by decide) (by decide) (by decide) (by decide) ?_
          refine j_aload_n C 0 dX12_voice_90 rfl ?_
          refine j_aload_n C 0 dX12_voice_91 rfl ?_
          refine rg C (v := .int (nI 6)) 27 (by decide) kf12_244 rfl dX12_voice_92 ?_
          refine j_iload_n C 3 dX12_voice_95 rfl ?_
          refine j_callV (As := [.int (nI 6), .int x]) (rest := []) C vw12_picksIn (c_picksIn_6_6 (V := upd (upd (upd (upd V 26 (nI 0)) 27 (nI 6)) 28 (nI pn)) 29 (row (30 + 6 * pn + 1))) (n := nI pn) (m := row (30 + 6 * pn + 1)) 0 (by omega) (by rw [pk_un (by omega), pk_un (by omega), pk_un (by omega), pk_us]) (by rw [pk_un (by omega), pk_us]) pk_us (by rw [pk_un (by omega), pk_un (by omega), pk_us])) rRcv rfl (Nat.le_of_ble_eq_true rfl) dX12_voice_96 (by decide) ?_
          rintro _ _ ⟨rfl, rfl⟩
          refine j_iret C dX12_voice_99 ?_
          unfold sp_voice
          rw [if_pos ⟨c5, c14⟩, tN_nI (n := pn) (by omega), tN_nI (n := 1) (by decide), ek, tN_nI (n := 6) (by decide)]
          exact ⟨rfl, EQ.of6 rfl rfl rfl rfl rfl rfl⟩
        · refine j_tblIn C (off := 45) 100 dX12_voice_55 (by decide) (by decide) (by decide) (by decide) ?_
          refine j_aload_n C 0 dX12_voice_100 rfl ?_
          refine j_aload_n C 0 dX12_voice_101 rfl ?_
          refine rg C (v := .int (nI 6)) 27 (by decide) kf12_244 rfl dX12_voice_102 ?_
          refine j_iload_n C 3 dX12_voice_105 rfl ?_
          refine j_callV (As := [.int (nI 6), .int x]) (rest := []) C vw12_sighsIn (c_sighsIn_6 (V := upd (upd (upd (upd V 26 (nI 0)) 27 (nI 6)) 28 (nI pn)) 29 (row (30 + 6 * pn + 1))) (n := nI pn) (m := row (30 + 6 * pn + 1)) 0 (by omega) (by rw [pk_un (by omega), pk_un (by omega), pk_un (by omega), pk_us]) (by rw [pk_un (by omega), pk_us]) pk_us) rRcv rfl (Nat.le_of_ble_eq_true rfl) dX12_voice_106 (by decide) ?_
          rintro _ _ ⟨rfl, rfl⟩
          refine j_iret C dX12_voice_109 ?_
          unfold sp_voice
          rw [if_pos ⟨c5, c14⟩, tN_nI (n := pn) (by omega), tN_nI (n := 2) (by decide), ek, tN_nI (n := 6) (by decide)]
          exact ⟨rfl, EQ.of6 rfl rfl rfl rfl rfl rfl⟩
        · refine j_tblOut C 110 dX12_voice_55 (by decide) (by decide) ?_
          refine j_aload_n C 0 dX12_voice_110 rfl ?_
          refine j_aload_n C 0 dX12_voice_111 rfl ?_
          refine rg C (v := .int (nI 6)) 27 (by decide) kf12_244 rfl dX12_voice_112 ?_
          refine j_iload_n C 3 dX12_voice_115 rfl ?_
          refine j_callV (As := [.int (nI 6), .int x]) (rest := []) C vw12_standsIn (c_standsIn_6_6 (V := upd (upd (upd (upd V 26 (nI 0)) 27 (nI 6)) 28 (nI pn)) 29 (row (30 + 6 * pn + 1))) (n := nI pn) (m := row (30 + 6 * pn + 1)) 0 (by omega) (by rw [pk_un (by omega), pk_un (by omega), pk_un (by omega), pk_us]) (by rw [pk_un (by omega), pk_us]) pk_us (by rw [pk_un (by omega), pk_un (by omega), pk_us])) rRcv rfl (Nat.le_of_ble_eq_true rfl) dX12_voice_116 (by decide) ?_
          rintro _ _ ⟨rfl, rfl⟩
          refine j_iret C dX12_voice_119 ?_
          unfold sp_voice
          rw [if_pos ⟨c5, c14⟩, tN_nI (n := pn) (by omega), tN_nI (n := 3) (by decide), ek, tN_nI (n := 6) (by decide)]
          exact ⟨rfl, EQ.of6 rfl rfl rfl rfl rfl rfl⟩
    · replace c14 := bI_f c14
      refine j_aload_n C 0 dX12_voice_17 rfl ?_
      refine j_ldc C (-1000000001) dX12_voice_18 kc12_55 ?_
      refine j_callV (As := [.int (-1000000001)]) (rest := []) C vw12_errs (c_errs 1 (by decide) (by decide)) rRcv rfl (Nat.le_of_ble_eq_true rfl) dX12_voice_20 (by decide) ?_
      rintro _ _ ⟨rfl, rfl⟩
      refine j_iret C dX12_voice_23 ?_
      unfold sp_voice
      rw [if_neg (fun h => c14 h.2)]
      exact ⟨rfl, EQ.rf⟩

/-! The reference's reader of texts. -/
theorem join_124 (a b : Int32) : joinF 124 a b = bI (a ≠ 0 ∨ b ≠ 0) := by unfold joinF; rw [if_pos rfl]
theorem join_38 (a b : Int32) : joinF 38 a b = bI (a ≠ 0 ∧ b ≠ 0) := by unfold joinF; rw [if_neg (by decide), if_pos rfl]
theorem join_60 (a b : Int32) : joinF 60 a b = bI (a < b) := by unfold joinF; rw [if_neg (by decide), if_neg (by decide), if_pos rfl]
theorem join_61 (a b : Int32) : joinF 61 a b = bI (a = b) := by unfold joinF; rw [if_neg (by decide), if_neg (by decide), if_neg (by decide), if_pos rfl]
theorem join_62 (a b : Int32) : joinF 62 a b = bI (b < a) := by unfold joinF; rw [if_neg (by decide), if_neg (by decide), if_neg (by decide), if_neg (by decide), if_pos rfl]
theorem join_43 (a b : Int32) : joinF 43 a b = a + b := by unfold joinF; rw [if_neg (by decide), if_neg (by decide), if_neg (by decide), if_neg (by decide), if_neg (by decide), if_pos rfl]
theorem join_45 (a b : Int32) : joinF 45 a b = a - b := by unfold joinF; rw [if_neg (by decide), if_neg (by decide), if_neg (by decide), if_neg (by decide), if_neg (by decide), if_neg (by decide), if_pos rfl]
theorem join_42 (a b : Int32) : joinF 42 a b = a * b := by unfold joinF; rw [if_neg (by decide), if_neg (by decide), if_neg (by decide), if_neg (by decide), if_neg (by decide), if_neg (by decide), if_neg (by decide), if_pos rfl]
theorem join_47 (a b : Int32) : joinF 47 a b = (if b = 0 then 0 else a / b) := by unfold joinF; rw [if_neg (by decide), if_neg (by decide), if_neg (by decide), if_neg (by decide), if_neg (by decide), if_neg (by decide), if_neg (by decide), if_neg (by decide), if_pos rfl]
theorem join_37 (a b : Int32) : joinF 37 a b = (if b = 0 then 0 else rem a b) := by unfold joinF; rw [if_neg (by decide), if_neg (by decide), if_neg (by decide), if_neg (by decide), if_neg (by decide), if_neg (by decide), if_neg (by decide), if_neg (by decide), if_neg (by decide), if_pos rfl]
theorem lv_eq0 {x : Int32} (h : x = 124) : lvF x = 0 := by
  subst h; decide
theorem lv_ne0 {x : Int32} (h124 : ¬ x = 124) : ¬ lvF x = 0 := by
  unfold lvF
  repeat (first | (split; first | (rename_i g; first | (exact absurd g (by assumption)) | (rcases g with g | g <;> exact absurd g (by assumption)) | (rcases g with g | g | g <;> exact absurd g (by assumption)) | decide) | decide) | decide)
theorem lv_eq1 {x : Int32} (h : x = 38) : lvF x = 1 := by
  subst h; decide
theorem lv_ne1 {x : Int32} (h38 : ¬ x = 38) : ¬ lvF x = 1 := by
  unfold lvF
  repeat (first | (split; first | (rename_i g; first | (exact absurd g (by assumption)) | (rcases g with g | g <;> exact absurd g (by assumption)) | (rcases g with g | g | g <;> exact absurd g (by assumption)) | decide) | decide) | decide)
theorem lv_eq2 {x : Int32} (h : x = 60 ∨ x = 61 ∨ x = 62) : lvF x = 2 := by
  rcases h with rfl | rfl | rfl <;> decide
theorem lv_ne2 {x : Int32} (h60 : ¬ x = 60) (h61 : ¬ x = 61) (h62 : ¬ x = 62) : ¬ lvF x = 2 := by
  unfold lvF
  repeat (first | (split; first | (rename_i g; first | (exact absurd g (by assumption)) | (rcases g with g | g <;> exact absurd g (by assumption)) | (rcases g with g | g | g <;> exact absurd g (by assumption)) | decide) | decide) | decide)
theorem lv_eq3 {x : Int32} (h : x = 43 ∨ x = 45) : lvF x = 3 := by
  rcases h with rfl | rfl <;> decide
theorem lv_ne3 {x : Int32} (h43 : ¬ x = 43) (h45 : ¬ x = 45) : ¬ lvF x = 3 := by
  unfold lvF
  repeat (first | (split; first | (rename_i g; first | (exact absurd g (by assumption)) | (rcases g with g | g <;> exact absurd g (by assumption)) | (rcases g with g | g | g <;> exact absurd g (by assumption)) | decide) | decide) | decide)
theorem lv_eq4 {x : Int32} (h : x = 42 ∨ x = 47 ∨ x = 37) : lvF x = 4 := by
  rcases h with rfl | rfl | rfl <;> decide
theorem lv_ne4 {x : Int32} (h42 : ¬ x = 42) (h47 : ¬ x = 47) (h37 : ¬ x = 37) : ¬ lvF x = 4 := by
  unfold lvF
  repeat (first | (split; first | (rename_i g; first | (exact absurd g (by assumption)) | (rcases g with g | g <;> exact absurd g (by assumption)) | (rcases g with g | g | g <;> exact absurd g (by assumption)) | decide) | decide) | decide)
def dP (op lvl : Nat) : Nat := 7 * (5 - op) + (6 - lvl) + 4
/-- the reader's numbers -/
def Pst (V : Nat → Int32) (u n op k : Nat) (a b c : Int32) (g : Bool) : Prop := V 7 = nI u ∧ V 8 = nI k ∧ V 9 = nI n ∧ V 10 = nI op ∧ V 11 = a ∧ V 12 = b ∧ V 13 = c ∧ V 14 = bI (g = true)
section PS
variable {V V1 : Nat → Int32} {u n op k : Nat} {a b c : Int32} {g : Bool}
theorem Pst.sk (h : Pst V u n op k a b c g) (k' : Nat) : Pst (upd V 8 (nI k')) u n op k' a b c g := by
  obtain ⟨h7, h8, h9, h10, h11, h12, h13, h14⟩ := h
  refine ⟨?_, pk_us, ?_, ?_, ?_, ?_, ?_, ?_⟩ <;> rw [pk_un (by omega)] <;> assumption
theorem Pst.so (h : Pst V u n op k a b c g) (op' : Nat) : Pst (upd V 10 (nI op')) u n op' k a b c g := by
  obtain ⟨h7, h8, h9, h10, h11, h12, h13, h14⟩ := h
  refine ⟨?_, ?_, ?_, pk_us, ?_, ?_, ?_, ?_⟩ <;> rw [pk_un (by omega)] <;> assumption
theorem Pst.sg (h : Pst V u n op k a b c g) : Pst (upd V 14 0) u n op k a b c false := by
  obtain ⟨h7, h8, h9, h10, h11, h12, h13, h14⟩ := h
  refine ⟨?_, ?_, ?_, ?_, ?_, ?_, ?_, pk_us⟩ <;> rw [pk_un (by omega)] <;> assumption
theorem VE.s2 (h : VE V1 V) (j : Nat) (x : Int32) (hj : 7 ≤ j ∧ j ≤ 14) : VE (upd V1 j x) V := fun i hi => by rw [pk_un (by omega)]; exact h i hi
theorem bfal {x : Bool} (h : ¬ x = true) : x = false := by cases x; rfl; exact absurd rfl h
theorem g_1 (h : Pst V u n op k a b c true) : V 14 = nI 1 := h.2.2.2.2.2.2.2.trans (by decide)
theorem g_0 (h : Pst V u n op k a b c g) (e : g = false) : V 14 = nI 0 := by subst e; exact h.2.2.2.2.2.2.2.trans (by decide)
theorem g_t (h : Pst V u n op k a b c g) (e : g = true) : Pst V u n op k a b c true := by subst e; exact h
end PS
abbrev PP (V row kept tried bf fd pk bo so sh mv tr : Nat → Int32) (u n op : Nat) (a b c : Int32) (code : List Int32) (res : Bool × Nat × List Int32) (r : Int32) (τ : RS) : Prop := ∃ V1, VE V1 V ∧ Pst V1 u n op res.2.1 a b c res.1 ∧ (res.1 = true → ∃ seg, res.2.2 = code ++ seg ∧ Seg a b c seg r) ∧ τ = sR V1 row kept tried bf fd pk bo so sh mv tr
def PC (l : Launch) (D : va_G) (cI cG cW : ClassId) (o : Nat) (q : Nat → Nat) (row kept tried bf fd pk bo so sh mv tr : Nat → Int32) (u n : Nat) (a b c : Int32) (y : MethodName) (cc : ByteArray) (mx lvl f : Nat) : Prop :=
  ∀ (V : Nat → Int32) (op k : Nat) (code : List Int32), Pst V u n op k a b c true → op ≤ 5 → k ≤ n → 8 * (n - k) + (6 - lvl) ≤ f → Ci l y cc mx (some .int) (dP op lvl) D (tyL cI cG cW) (wR cI o q) [.ref o] (sR V row kept tried bf fd pk bo so sh mv tr) (PP V row kept tried bf fd pk bo so sh mv tr u n op a b c code (prs (txF row u) n u f lvl false op k code))

theorem dX12_byteAt_0 : decode cX12_byteAt 0 = .ok (.iload_n 1, 1) := by decide +kernel
theorem dX12_byteAt_1 : decode cX12_byteAt 1 = .ok (.aload_n 0, 1) := by decide +kernel
theorem dX12_byteAt_2 : decode cX12_byteAt 2 = .ok (.getfield 99, 3) := by decide +kernel
theorem dX12_byteAt_5 : decode cX12_byteAt 5 = .ok (.if_icmp .ge 24, 3) := by decide +kernel
theorem dX12_byteAt_8 : decode cX12_byteAt 8 = .ok (.aload_n 0, 1) := by decide +kernel
theorem dX12_byteAt_9 : decode cX12_byteAt 9 = .ok (.getfield 7, 3) := by decide +kernel
theorem dX12_byteAt_12 : decode cX12_byteAt 12 = .ok (.sipush 160, 3) := by decide +kernel
theorem dX12_byteAt_15 : decode cX12_byteAt 15 = .ok (.bipush 50, 2) := by decide +kernel
theorem dX12_byteAt_17 : decode cX12_byteAt 17 = .ok (.aload_n 0, 1) := by decide +kernel
theorem dX12_byteAt_18 : decode cX12_byteAt 18 = .ok (.getfield 102, 3) := by decide +kernel
theorem dX12_byteAt_21 : decode cX12_byteAt 21 = .ok (.imul, 1) := by decide +kernel
theorem dX12_byteAt_22 : decode cX12_byteAt 22 = .ok (.iadd, 1) := by decide +kernel
theorem dX12_byteAt_23 : decode cX12_byteAt 23 = .ok (.iload_n 1, 1) := by decide +kernel
theorem dX12_byteAt_24 : decode cX12_byteAt 24 = .ok (.iadd, 1) := by decide +kernel
theorem dX12_byteAt_25 : decode cX12_byteAt 25 = .ok (.iaload, 1) := by decide +kernel
theorem dX12_byteAt_26 : decode cX12_byteAt 26 = .ok (.goto 4, 3) := by decide +kernel
theorem dX12_byteAt_29 : decode cX12_byteAt 29 = .ok (.iconst (-1), 1) := by decide +kernel
theorem dX12_byteAt_30 : decode cX12_byteAt 30 = .ok (.ireturn, 1) := by decide +kernel
set_option maxHeartbeats 2000000 in
set_option maxRecDepth 20000 in
theorem c_byteAt {l : Launch} {D : va_G} {cI cG cW : ClassId} {o : Nat} {q : Nat → Nat} {V row kept tried bf fd pk bo so sh mv tr : Nat → Int32} (k : Nat) (hk : k ≤ 50) {u n : Nat} (hu : u ≤ 1) (hn : n ≤ 50) (h7 : V 7 = nI u) (h9 : V 9 = nI n) : Ci l yX12_byteAt cX12_byteAt 2 (some .int) 0 D (tyL cI cG cW) (wR cI o q) [.ref o, .int (nI k)] (sR V row kept tried bf fd pk bo so sh mv tr) (fun r τ => r = bytF (txF row u) n k ∧ τ = sR V row kept tried bf fd pk bo so sh mv tr) := by
  refine Ci.of (by decide) (Nat.le_of_ble_eq_true rfl) ?_
  intro p_ e_ s_ m_ b_ M_ c_ A_ C
  replace C : Cx _ _ _ _ _ _ _ _ RX12 _ _ _ _ := C
  refine j_L [0, 1] [(0, .ref o), (1, .int (nI k))] rfl ?_
  refine j_iload_n C 1 dX12_byteAt_0 rfl ?_
  refine j_aload_n C 0 dX12_byteAt_1 rfl ?_
  refine rg C (v := .int (V 9)) 9 (by decide) kf12_99 rfl dX12_byteAt_2 ?_
  refine j_v (nI n) h9 ?_
  refine j_icmp_ge C 29 dX12_byteAt_5 (by decide) (fun c5 => ?_) (fun c5 => ?_)
  · rw [nI_leI (by omega) (by omega)] at c5
    refine j_iconst C (v := (-1)) dX12_byteAt_29 (by decide) ?_
    refine j_iret C dX12_byteAt_30 ?_
    refine ⟨?_, rfl⟩
    unfold bytF
    rw [if_neg (by omega)]
  · rw [nI_leI (by omega) (by omega)] at c5
    refine j_aload_n C 0 dX12_byteAt_8 rfl ?_
    refine rg C (v := .ref (q 0)) 0 (by decide) kf12_7 rfl dX12_byteAt_9 ?_
    refine j_sipush C (v := (nI 160)) dX12_byteAt_12 (by decide) ?_
    refine j_bipush C (v := (nI 50)) dX12_byteAt_15 (by decide) ?_
    refine j_aload_n C 0 dX12_byteAt_17 rfl ?_
    refine rg C (v := .int (V 7)) 7 (by decide) kf12_102 rfl dX12_byteAt_18 ?_
    refine j_v (nI u) h7 ?_
    refine j_imulN C dX12_byteAt_21 ?_
    refine j_iaddN C dX12_byteAt_22 ?_
    refine j_iload_n C 1 dX12_byteAt_23 rfl ?_
    refine j_iaddN C dX12_byteAt_24 ?_
    refine rl_row C (160 + 50 * u + k) rfl (by omega) dX12_byteAt_25 ?_
    refine j_goto C 30 dX12_byteAt_26 (by decide) ?_
    refine j_iret C dX12_byteAt_30 ?_
    refine ⟨?_, rfl⟩
    unfold bytF
    rw [if_pos (by omega)]
theorem dX12_number_0 : decode cX12_number 0 = .ok (.iconst 0, 1) := by decide +kernel
theorem dX12_number_1 : decode cX12_number 1 = .ok (.istore_n 1, 1) := by decide +kernel
theorem dX12_number_2 : decode cX12_number 2 = .ok (.iconst 0, 1) := by decide +kernel
theorem dX12_number_3 : decode cX12_number 3 = .ok (.istore_n 2, 1) := by decide +kernel
theorem dX12_number_4 : decode cX12_number 4 = .ok (.iload_n 2, 1) := by decide +kernel
theorem dX12_number_5 : decode cX12_number 5 = .ok (.iconst 4, 1) := by decide +kernel
theorem dX12_number_6 : decode cX12_number 6 = .ok (.if_icmp .ge 50, 3) := by decide +kernel
theorem dX12_number_9 : decode cX12_number 9 = .ok (.aload_n 0, 1) := by decide +kernel
theorem dX12_number_10 : decode cX12_number 10 = .ok (.aload_n 0, 1) := by decide +kernel
theorem dX12_number_11 : decode cX12_number 11 = .ok (.getfield 109, 3) := by decide +kernel
theorem dX12_number_14 : decode cX12_number 14 = .ok (.invokevirtual 112, 3) := by decide +kernel
theorem dX12_number_17 : decode cX12_number 17 = .ok (.invokestatic 115, 3) := by decide +kernel
theorem dX12_number_20 : decode cX12_number 20 = .ok (.ifCond .eq 36, 3) := by decide +kernel
theorem dX12_number_23 : decode cX12_number 23 = .ok (.bipush 10, 2) := by decide +kernel
theorem dX12_number_25 : decode cX12_number 25 = .ok (.iload_n 1, 1) := by decide +kernel
theorem dX12_number_26 : decode cX12_number 26 = .ok (.imul, 1) := by decide +kernel
theorem dX12_number_27 : decode cX12_number 27 = .ok (.aload_n 0, 1) := by decide +kernel
theorem dX12_number_28 : decode cX12_number 28 = .ok (.aload_n 0, 1) := by decide +kernel
theorem dX12_number_29 : decode cX12_number 29 = .ok (.getfield 109, 3) := by decide +kernel
theorem dX12_number_32 : decode cX12_number 32 = .ok (.invokevirtual 112, 3) := by decide +kernel
theorem dX12_number_35 : decode cX12_number 35 = .ok (.iadd, 1) := by decide +kernel
theorem dX12_number_36 : decode cX12_number 36 = .ok (.bipush 48, 2) := by decide +kernel
theorem dX12_number_38 : decode cX12_number 38 = .ok (.isub, 1) := by decide +kernel
theorem dX12_number_39 : decode cX12_number 39 = .ok (.istore_n 1, 1) := by decide +kernel
theorem dX12_number_40 : decode cX12_number 40 = .ok (.aload_n 0, 1) := by decide +kernel
theorem dX12_number_41 : decode cX12_number 41 = .ok (.dup, 1) := by decide +kernel
theorem dX12_number_42 : decode cX12_number 42 = .ok (.getfield 109, 3) := by decide +kernel
theorem dX12_number_45 : decode cX12_number 45 = .ok (.iconst 1, 1) := by decide +kernel
theorem dX12_number_46 : decode cX12_number 46 = .ok (.iadd, 1) := by decide +kernel
theorem dX12_number_47 : decode cX12_number 47 = .ok (.putfield 109, 3) := by decide +kernel
theorem dX12_number_50 : decode cX12_number 50 = .ok (.iinc 2 1, 3) := by decide +kernel
theorem dX12_number_53 : decode cX12_number 53 = .ok (.goto (-49), 3) := by decide +kernel
theorem dX12_number_56 : decode cX12_number 56 = .ok (.iload_n 1, 1) := by decide +kernel
theorem dX12_number_57 : decode cX12_number 57 = .ok (.ireturn, 1) := by decide +kernel
set_option maxHeartbeats 2000000 in
set_option maxRecDepth 20000 in
theorem c_number {l : Launch} {D : va_G} {cI cG cW : ClassId} {o : Nat} {q : Nat → Nat} {V row kept tried bf fd pk bo so sh mv tr : Nat → Int32} {u n op k : Nat} {a b c : Int32} (hu : u ≤ 1) (hn : n ≤ 50) (hk : k ≤ n) (hp : Pst V u n op k a b c true) : Ci l yX12_number cX12_number 3 (some .int) 2 D (tyL cI cG cW) (wR cI o q) [.ref o] (sR V row kept tried bf fd pk bo so sh mv tr) (fun r τ => ∃ V1, VE V1 V ∧ Pst V1 u n op (numF (txF row u) n 4 k 0).1 a b c true ∧ r = (numF (txF row u) n 4 k 0).2 ∧ τ = sR V1 row kept tried bf fd pk bo so sh mv tr) := by
  refine Ci.of (by decide) (Nat.le_of_ble_eq_true rfl) ?_
  intro p_ e_ s_ m_ b_ M_ c_ A_ C
  replace C : Cx _ _ _ _ _ _ _ _ RX12 _ _ _ _ := C
  refine j_L [0] [(0, .ref o)] rfl ?_
  refine j_iconst C (v := (nI 0)) dX12_number_0 (by decide) ?_
  refine j_istore_n C [(1, .int (nI 0)), (0, .ref o)] dX12_number_1 (by decide) rfl ?_
  refine j_iconst C (v := (nI 0)) dX12_number_2 (by decide) ?_
  refine j_istore_n C [(2, .int (nI 0)), (1, .int (nI 0)), (0, .ref o)] dX12_number_3 (by decide) rfl ?_
  refine j_L [2, 1, 0] [(0, .ref o), (1, .int (nI 0)), (2, .int (nI 0))] rfl ?_
  refine j_loop (X := Nat × (Nat → Int32) × Nat × Int32) (fun (z : Nat × (Nat → Int32) × Nat × Int32) => match z with | (i, V1, k1, v) => i ≤ 4 ∧ VE V1 V ∧ Pst V1 u n op k1 a b c true ∧ numF (txF row u) n (4 - i) k1 v = numF (txF row u) n 4 k 0 ∧ k1 ≤ n) (fun (z : Nat × (Nat → Int32) × Nat × Int32) => match z with | (i, V1, k1, v) => 4 - i) (fun (z : Nat × (Nat → Int32) × Nat × Int32) => match z with | (i, V1, k1, v) => (sR V1 row kept tried bf fd pk bo so sh mv tr)) (fun (z : Nat × (Nat → Int32) × Nat × Int32) => match z with | (i, V1, k1, v) => [(0, .ref o), (1, .int v), (2, .int (nI i))]) (0, V, k, 0) (⟨Nat.zero_le _, VE.rf, hp, rfl, hk⟩) rfl rfl ?_
  rintro ⟨i, V1, k1, v⟩ ⟨hi, hV, hP, hE, hk1⟩ ih
  try dsimp only at ih ⊢
  refine j_iload_n C 2 dX12_number_4 rfl ?_
  refine j_iconst C (v := (nI 4)) dX12_number_5 (by decide) ?_
  refine j_icmp_ge C 56 dX12_number_6 (by decide) (fun c6 => ?_) (fun c6 => ?_)
  · rw [nI_leI (by omega) (by omega)] at c6
    refine j_iload_n C 1 dX12_number_56 rfl ?_
    refine j_iret C dX12_number_57 ?_
    obtain rfl : i = 4 := by omega
    exact ⟨V1, hV, by rw [← hE]; exact hP, by rw [← hE]; rfl, rfl⟩
  · rw [nI_leI (by omega) (by omega)] at c6
    refine j_aload_n C 0 dX12_number_9 rfl ?_
    refine j_aload_n C 0 dX12_number_10 rfl ?_
    refine rg C (v := .int (V1 8)) 8 (by decide) kf12_109 rfl dX12_number_11 ?_
    refine j_v (nI k1) hP.2.1 ?_
    refine j_callV (As := [.int (nI k1)]) (rest := []) C vw12_byteAt (c_byteAt (V := V1) k1 (by omega) hu hn hP.1 hP.2.2.1) rRcv rfl (Nat.le_of_ble_eq_true rfl) dX12_number_14 (by decide) ?_
    rintro _ _ ⟨rfl, rfl⟩
    refine j_callS (As := [.int (bytF (txF row u) n k1)]) (rest := []) C vw12_isDigit (c_isDigit) rfl (Nat.le_of_ble_eq_true rfl) dX12_number_17 (by decide) ?_
    rintro _ _ ⟨rfl, rfl⟩
    refine j_if_eq C 56 dX12_number_20 (by decide) (fun c20 => ?_) (fun c20 => ?_)
    · replace c20 := bI_f c20
      refine j_iload_n C 1 dX12_number_56 rfl ?_
      refine j_iret C dX12_number_57 ?_
      have hE2 : numF (txF row u) n (4 - i) k1 v = (k1, v) := by
        rw [show 4 - i = (4 - (i + 1)) + 1 from by omega, numF, if_neg c20]
      exact ⟨V1, hV, by rw [← hE, hE2]; exact hP, by rw [← hE, hE2], rfl⟩
    · replace c20 := bI_t c20
      have hk1n : k1 < n := byt_lt (fun e => by rw [e] at c20; exact absurd c20.1 (by decide))
      refine j_bipush C (v := (nI 10)) dX12_number_23 (by decide) ?_
      refine j_iload_n C 1 dX12_number_25 rfl ?_
      refine j_imul C dX12_number_26 ?_
      refine j_aload_n C 0 dX12_number_27 rfl ?_
      refine j_aload_n C 0 dX12_number_28 rfl ?_
      refine rg C (v := .int (V1 8)) 8 (by decide) kf12_109 rfl dX12_number_29 ?_
      refine j_v (nI k1) hP.2.1 ?_
      refine j_callV (As := [.int (nI k1)]) (rest := [.int ((nI 10) * v)]) C vw12_byteAt (c_byteAt (V := V1) k1 (by omega) hu hn hP.1 hP.2.2.1) rRcv rfl (Nat.le_of_ble_eq_true rfl) dX12_number_32 (by decide) ?_
      rintro _ _ ⟨rfl, rfl⟩
      refine j_iadd C dX12_number_35 ?_
      refine j_bipush C (v := (nI 48)) dX12_number_36 (by decide) ?_
      refine j_isub C dX12_number_38 ?_
      refine j_istore_n C [(1, .int ((((nI 10) * v) + (bytF (txF row u) n k1)) - (nI 48))), (0, .ref o), (2, .int (nI i))] dX12_number_39 (by decide) rfl ?_
      refine j_aload_n C 1 dX12_number_40 rfl ?_
      refine j_dup C dX12_number_41 rfl ?_
      refine rg C (v := .int (V1 8)) 8 (by decide) kf12_109 rfl dX12_number_42 ?_
      refine j_v (nI k1) hP.2.1 ?_
      refine j_iconst C (v := (nI 1)) dX12_number_45 (by decide) ?_
      refine j_iaddN C dX12_number_46 ?_
      refine rp_8 C kf12_109 dX12_number_47 ?_
      have hp1 := hP.sk (k1 + 1)
      have ve2 := VE.s2 hV 8 (nI (k1 + 1)) (by omega)
      refine j_iinc C (v := (nI (i + 1))) 2 [(2, .int (nI (i + 1))), (1, .int ((((nI 10) * v) + (bytF (txF row u) n k1)) - (nI 48))), (0, .ref o)] dX12_number_50 rfl (nI_1 _) (by decide) rfl ?_
      refine j_goto C 4 dX12_number_53 (by decide) ?_
      refine j_L [2, 1, 0] [(0, .ref o), (1, .int ((((nI 10) * v) + (bytF (txF row u) n k1)) - (nI 48))), (2, .int (nI (i + 1)))] rfl ?_
      refine ih (i + 1, upd V1 8 (nI (k1 + 1)), k1 + 1, (((nI 10) * v) + (bytF (txF row u) n k1)) - (nI 48)) ⟨by dsimp only; omega, ve2, hp1, ?_, by dsimp only; omega⟩ (by dsimp only; omega)
      dsimp only
      rw [← hE, show 4 - i = (4 - (i + 1)) + 1 from by omega, numF, if_pos c20]
theorem dX12_named_0 : decode cX12_named 0 = .ok (.iload_n 1, 1) := by decide +kernel
theorem dX12_named_1 : decode cX12_named 1 = .ok (.aload_n 0, 1) := by decide +kernel
theorem dX12_named_2 : decode cX12_named 2 = .ok (.getfield 102, 3) := by decide +kernel
theorem dX12_named_5 : decode cX12_named 5 = .ok (.ifCond .ne 8, 3) := by decide +kernel
theorem dX12_named_8 : decode cX12_named 8 = .ok (.bipush 119, 2) := by decide +kernel
theorem dX12_named_10 : decode cX12_named 10 = .ok (.goto 5, 3) := by decide +kernel
theorem dX12_named_13 : decode cX12_named 13 = .ok (.bipush 98, 2) := by decide +kernel
theorem dX12_named_15 : decode cX12_named 15 = .ok (.if_icmp .ne 7, 3) := by decide +kernel
theorem dX12_named_18 : decode cX12_named 18 = .ok (.iconst 1, 1) := by decide +kernel
theorem dX12_named_19 : decode cX12_named 19 = .ok (.goto 4, 3) := by decide +kernel
theorem dX12_named_22 : decode cX12_named 22 = .ok (.iconst 0, 1) := by decide +kernel
theorem dX12_named_23 : decode cX12_named 23 = .ok (.istore_n 2, 1) := by decide +kernel
theorem dX12_named_24 : decode cX12_named 24 = .ok (.iload_n 1, 1) := by decide +kernel
theorem dX12_named_25 : decode cX12_named 25 = .ok (.aload_n 0, 1) := by decide +kernel
theorem dX12_named_26 : decode cX12_named 26 = .ok (.getfield 102, 3) := by decide +kernel
theorem dX12_named_29 : decode cX12_named 29 = .ok (.ifCond .ne 8, 3) := by decide +kernel
theorem dX12_named_32 : decode cX12_named 32 = .ok (.bipush 109, 2) := by decide +kernel
theorem dX12_named_34 : decode cX12_named 34 = .ok (.goto 5, 3) := by decide +kernel
theorem dX12_named_37 : decode cX12_named 37 = .ok (.bipush 101, 2) := by decide +kernel
theorem dX12_named_39 : decode cX12_named 39 = .ok (.if_icmp .ne 7, 3) := by decide +kernel
theorem dX12_named_42 : decode cX12_named 42 = .ok (.iconst 1, 1) := by decide +kernel
theorem dX12_named_43 : decode cX12_named 43 = .ok (.goto 4, 3) := by decide +kernel
theorem dX12_named_46 : decode cX12_named 46 = .ok (.iconst 0, 1) := by decide +kernel
theorem dX12_named_47 : decode cX12_named 47 = .ok (.istore_n 3, 1) := by decide +kernel
theorem dX12_named_48 : decode cX12_named 48 = .ok (.iload_n 1, 1) := by decide +kernel
theorem dX12_named_49 : decode cX12_named 49 = .ok (.aload_n 0, 1) := by decide +kernel
theorem dX12_named_50 : decode cX12_named 50 = .ok (.getfield 102, 3) := by decide +kernel
theorem dX12_named_53 : decode cX12_named 53 = .ok (.ifCond .ne 8, 3) := by decide +kernel
theorem dX12_named_56 : decode cX12_named 56 = .ok (.bipush 100, 2) := by decide +kernel
theorem dX12_named_58 : decode cX12_named 58 = .ok (.goto 5, 3) := by decide +kernel
theorem dX12_named_61 : decode cX12_named 61 = .ok (.bipush 109, 2) := by decide +kernel
theorem dX12_named_63 : decode cX12_named 63 = .ok (.if_icmp .ne 7, 3) := by decide +kernel
theorem dX12_named_66 : decode cX12_named 66 = .ok (.iconst 1, 1) := by decide +kernel
theorem dX12_named_67 : decode cX12_named 67 = .ok (.goto 4, 3) := by decide +kernel
theorem dX12_named_70 : decode cX12_named 70 = .ok (.iconst 0, 1) := by decide +kernel
theorem dX12_named_71 : decode cX12_named 71 = .ok (.istore 4, 2) := by decide +kernel
theorem dX12_named_73 : decode cX12_named 73 = .ok (.iload_n 2, 1) := by decide +kernel
theorem dX12_named_74 : decode cX12_named 74 = .ok (.ifCond .ne 17, 3) := by decide +kernel
theorem dX12_named_77 : decode cX12_named 77 = .ok (.iload_n 3, 1) := by decide +kernel
theorem dX12_named_78 : decode cX12_named 78 = .ok (.ifCond .ne 13, 3) := by decide +kernel
theorem dX12_named_81 : decode cX12_named 81 = .ok (.iload 4, 2) := by decide +kernel
theorem dX12_named_83 : decode cX12_named 83 = .ok (.ifCond .ne 8, 3) := by decide +kernel
theorem dX12_named_86 : decode cX12_named 86 = .ok (.aload_n 0, 1) := by decide +kernel
theorem dX12_named_87 : decode cX12_named 87 = .ok (.invokevirtual 118, 3) := by decide +kernel
theorem dX12_named_90 : decode cX12_named 90 = .ok (.ireturn, 1) := by decide +kernel
theorem dX12_named_91 : decode cX12_named 91 = .ok (.aload_n 0, 1) := by decide +kernel
theorem dX12_named_92 : decode cX12_named 92 = .ok (.dup, 1) := by decide +kernel
theorem dX12_named_93 : decode cX12_named 93 = .ok (.getfield 109, 3) := by decide +kernel
theorem dX12_named_96 : decode cX12_named 96 = .ok (.iconst 1, 1) := by decide +kernel
theorem dX12_named_97 : decode cX12_named 97 = .ok (.iadd, 1) := by decide +kernel
theorem dX12_named_98 : decode cX12_named 98 = .ok (.putfield 109, 3) := by decide +kernel
theorem dX12_named_101 : decode cX12_named 101 = .ok (.iload_n 2, 1) := by decide +kernel
theorem dX12_named_102 : decode cX12_named 102 = .ok (.ifCond .eq 10, 3) := by decide +kernel
theorem dX12_named_105 : decode cX12_named 105 = .ok (.aload_n 0, 1) := by decide +kernel
theorem dX12_named_106 : decode cX12_named 106 = .ok (.getfield 122, 3) := by decide +kernel
theorem dX12_named_109 : decode cX12_named 109 = .ok (.goto 18, 3) := by decide +kernel
theorem dX12_named_112 : decode cX12_named 112 = .ok (.iload_n 3, 1) := by decide +kernel
theorem dX12_named_113 : decode cX12_named 113 = .ok (.ifCond .eq 10, 3) := by decide +kernel
theorem dX12_named_116 : decode cX12_named 116 = .ok (.aload_n 0, 1) := by decide +kernel
theorem dX12_named_117 : decode cX12_named 117 = .ok (.getfield 125, 3) := by decide +kernel
theorem dX12_named_120 : decode cX12_named 120 = .ok (.goto 7, 3) := by decide +kernel
theorem dX12_named_123 : decode cX12_named 123 = .ok (.aload_n 0, 1) := by decide +kernel
theorem dX12_named_124 : decode cX12_named 124 = .ok (.getfield 128, 3) := by decide +kernel
theorem dX12_named_127 : decode cX12_named 127 = .ok (.ireturn, 1) := by decide +kernel
set_option maxHeartbeats 2000000 in
set_option maxRecDepth 20000 in
theorem c_named {l : Launch} {D : va_G} {cI cG cW : ClassId} {o : Nat} {q : Nat → Nat} {V row kept tried bf fd pk bo so sh mv tr : Nat → Int32} {x : Int32} {u n op k : Nat} {a b c : Int32} (hu : u ≤ 1) (hn : n ≤ 50) (hk : k ≤ n) (hp : Pst V u n op k a b c true) : Ci l yX12_named cX12_named 5 (some .int) 2 D (tyL cI cG cW) (wR cI o q) [.ref o, .int x] (sR V row kept tried bf fd pk bo so sh mv tr) (fun r τ => ∃ V1, VE V1 V ∧ (namF u x < 3 → Pst V1 u n op (k + 1) a b c true ∧ r = nmV a b c (namF u x)) ∧ (¬ namF u x < 3 → Pst V1 u n op k a b c false) ∧ τ = sR V1 row kept tried bf fd pk bo so sh mv tr) := by
  refine Ci.of (by decide) (Nat.le_of_ble_eq_true rfl) ?_
  intro p_ e_ s_ m_ b_ M_ c_ A_ C
  replace C : Cx _ _ _ _ _ _ _ _ RX12 _ _ _ _ := C
  refine j_L [0, 1] [(0, .ref o), (1, .int x)] rfl ?_
  rcases (show u = 0 ∨ u = 1 by omega) with rfl | rfl
  · refine j_iload_n C 1 dX12_named_0 rfl ?_
    refine j_aload_n C 0 dX12_named_1 rfl ?_
    refine rg C (v := .int (V 7)) 7 (by decide) kf12_102 rfl dX12_named_2 ?_
    refine j_v (nI 0) hp.1 ?_
    refine j_if_ne C 13 dX12_named_5 (by decide) (fun c5 => ?_) (fun c5 => ?_)
    · rw [show (0 : Int32) = nI 0 from rfl, nI_eq (by omega) (by omega)] at c5
      exfalso; omega
    · rw [show (0 : Int32) = nI 0 from rfl, nI_eq (by omega) (by omega)] at c5
      refine j_bipush C (v := (nI 119)) dX12_named_8 (by decide) ?_
      refine j_goto C 15 dX12_named_10 (by decide) ?_
      refine j_icmp_ne C 22 dX12_named_15 (by decide) (fun c15 => ?_) (fun c15 => ?_)
      · skip
        refine j_iconst C (v := (nI 0)) dX12_named_22 (by decide) ?_
        refine j_istore_n C [(2, .int (nI 0)), (0, .ref o), (1, .int x)] dX12_named_23 (by decide) rfl ?_
        refine j_iload_n C 2 dX12_named_24 rfl ?_
        refine j_aload_n C 1 dX12_named_25 rfl ?_
        refine rg C (v := .int (V 7)) 7 (by decide) kf12_102 rfl dX12_named_26 ?_
        refine j_v (nI 0) hp.1 ?_
        refine j_if_ne C 37 dX12_named_29 (by decide) (fun c29 => ?_) (fun c29 => ?_)
        · rw [show (0 : Int32) = nI 0 from rfl, nI_eq (by omega) (by omega)] at c29
          exact absurd c5 c29
        · rw [show (0 : Int32) = nI 0 from rfl, nI_eq (by omega) (by omega)] at c29
          refine j_bipush C (v := (nI 109)) dX12_named_32 (by decide) ?_
          refine j_goto C 39 dX12_named_34 (by decide) ?_
          refine j_icmp_ne C 46 dX12_named_39 (by decide) (fun c39 => ?_) (fun c39 => ?_)
          · skip
            refine j_iconst C (v := (nI 0)) dX12_named_46 (by decide) ?_
            refine j_istore_n C [(3, .int (nI 0)), (2, .int (nI 0)), (0, .ref o), (1, .int x)] dX12_named_47 (by decide) rfl ?_
            refine j_iload_n C 3 dX12_named_48 rfl ?_
            refine j_aload_n C 2 dX12_named_49 rfl ?_
            refine rg C (v := .int (V 7)) 7 (by decide) kf12_102 rfl dX12_named_50 ?_
            refine j_v (nI 0) hp.1 ?_
            refine j_if_ne C 61 dX12_named_53 (by decide) (fun c53 => ?_) (fun c53 => ?_)
            · rw [show (0 : Int32) = nI 0 from rfl, nI_eq (by omega) (by omega)] at c53
              exact absurd c29 c53
            · rw [show (0 : Int32) = nI 0 from rfl, nI_eq (by omega) (by omega)] at c53
              refine j_bipush C (v := (nI 100)) dX12_named_56 (by decide) ?_
              refine j_goto C 63 dX12_named_58 (by decide) ?_
              refine j_icmp_ne C 70 dX12_named_63 (by decide) (fun c63 => ?_) (fun c63 => ?_)
              · skip
                refine j_iconst C (v := (nI 0)) dX12_named_70 (by decide) ?_
                refine j_istore C [(4, .int (nI 0)), (3, .int (nI 0)), (2, .int (nI 0)), (0, .ref o), (1, .int x)] dX12_named_71 (by decide) rfl ?_
                refine j_iload_n C 2 dX12_named_73 rfl ?_
                refine j_if_ne C 91 dX12_named_74 (by decide) (fun c74 => ?_) (fun c74 => ?_)
                · rw [show (0 : Int32) = nI 0 from rfl, nI_eq (by omega) (by omega)] at c74
                  exact absurd c53 c74
                · rw [show (0 : Int32) = nI 0 from rfl, nI_eq (by omega) (by omega)] at c74
                  refine j_iload_n C 1 dX12_named_77 rfl ?_
                  refine j_if_ne C 91 dX12_named_78 (by decide) (fun c78 => ?_) (fun c78 => ?_)
                  · rw [show (0 : Int32) = nI 0 from rfl, nI_eq (by omega) (by omega)] at c78
                    exact absurd c74 c78
                  · rw [show (0 : Int32) = nI 0 from rfl, nI_eq (by omega) (by omega)] at c78
                    refine j_iload C 0 dX12_named_81 rfl ?_
                    refine j_if_ne C 91 dX12_named_83 (by decide) (fun c83 => ?_) (fun c83 => ?_)
                    · rw [show (0 : Int32) = nI 0 from rfl, nI_eq (by omega) (by omega)] at c83
                      exact absurd c78 c83
                    · rw [show (0 : Int32) = nI 0 from rfl, nI_eq (by omega) (by omega)] at c83
                      refine j_aload_n C 3 dX12_named_86 rfl ?_
                      refine j_callV (As := []) (rest := []) C vw12_fails (c_fails) rRcv rfl (Nat.le_of_ble_eq_true rfl) dX12_named_87 (by decide) ?_
                      rintro _ _ ⟨rfl, rfl⟩
                      have hp1 := hp.sg
                      have ve2 := VE.s2 (VE.rf (V := V)) 14 0 (by omega)
                      refine j_iret C dX12_named_90 ?_
                      have hnf : namF 0 x = 3 := (by unfold namF; rw [if_neg (by rw [if_pos (by decide)]; exact c15), if_neg (by rw [if_pos (by decide)]; exact c39), if_neg (by rw [if_pos (by decide)]; exact c63)])
                      exact ⟨_, ve2, fun h => by omega, fun _ => hp1, rfl⟩
              · skip
                refine j_iconst C (v := (nI 1)) dX12_named_66 (by decide) ?_
                refine j_goto C 71 dX12_named_67 (by decide) ?_
                refine j_istore C [(4, .int (nI 1)), (3, .int (nI 0)), (2, .int (nI 0)), (0, .ref o), (1, .int x)] dX12_named_71 (by decide) rfl ?_
                refine j_iload_n C 2 dX12_named_73 rfl ?_
                refine j_if_ne C 91 dX12_named_74 (by decide) (fun c74 => ?_) (fun c74 => ?_)
                · rw [show (0 : Int32) = nI 0 from rfl, nI_eq (by omega) (by omega)] at c74
                  exact absurd c53 c74
                · rw [show (0 : Int32) = nI 0 from rfl, nI_eq (by omega) (by omega)] at c74
                  refine j_iload_n C 1 dX12_named_77 rfl ?_
                  refine j_if_ne C 91 dX12_named_78 (by decide) (fun c78 => ?_) (fun c78 => ?_)
                  · rw [show (0 : Int32) = nI 0 from rfl, nI_eq (by omega) (by omega)] at c78
                    exact absurd c74 c78
                  · rw [show (0 : Int32) = nI 0 from rfl, nI_eq (by omega) (by omega)] at c78
                    refine j_iload C 0 dX12_named_81 rfl ?_
                    refine j_if_ne C 91 dX12_named_83 (by decide) (fun c83 => ?_) (fun c83 => ?_)
                    · rw [show (0 : Int32) = nI 0 from rfl, nI_eq (by omega) (by omega)] at c83
                      refine j_aload_n C 3 dX12_named_91 rfl ?_
                      refine j_dup C dX12_named_92 rfl ?_
                      refine rg C (v := .int (V 8)) 8 (by decide) kf12_109 rfl dX12_named_93 ?_
                      refine j_v (nI k) hp.2.1 ?_
                      refine j_iconst C (v := (nI 1)) dX12_named_96 (by decide) ?_
                      refine j_iaddN C dX12_named_97 ?_
                      refine rp_8 C kf12_109 dX12_named_98 ?_
                      have hp3 := hp.sk (k + 1)
                      have ve4 := VE.s2 (VE.rf (V := V)) 8 (nI (k + 1)) (by omega)
                      refine j_iload_n C 2 dX12_named_101 rfl ?_
                      refine j_if_eq C 112 dX12_named_102 (by decide) (fun c102 => ?_) (fun c102 => ?_)
                      · rw [show (0 : Int32) = nI 0 from rfl, nI_eq (by omega) (by omega)] at c102
                        refine j_iload_n C 1 dX12_named_112 rfl ?_
                        refine j_if_eq C 123 dX12_named_113 (by decide) (fun c113 => ?_) (fun c113 => ?_)
                        · rw [show (0 : Int32) = nI 0 from rfl, nI_eq (by omega) (by omega)] at c113
                          refine j_aload_n C 3 dX12_named_123 rfl ?_
                          refine rg C (v := .int ((upd V 8 (nI (k + 1))) 13)) 13 (by decide) kf12_128 rfl dX12_named_124 ?_
                          refine j_v c hp3.2.2.2.2.2.2.1 ?_
                          refine j_iret C dX12_named_127 ?_
                          have hnf : namF 0 x = 2 := (by unfold namF; rw [if_neg (by rw [if_pos (by decide)]; exact c15), if_neg (by rw [if_pos (by decide)]; exact c39), if_pos (by rw [if_pos (by decide)]; exact c63)])
                          exact ⟨_, ve4, fun _ => ⟨hp3, by rw [hnf]; rfl⟩, fun h => by omega, rfl⟩
                        · rw [show (0 : Int32) = nI 0 from rfl, nI_eq (by omega) (by omega)] at c113
                          exact absurd c102 c113
                      · rw [show (0 : Int32) = nI 0 from rfl, nI_eq (by omega) (by omega)] at c102
                        exact absurd c78 c102
                    · rw [show (0 : Int32) = nI 0 from rfl, nI_eq (by omega) (by omega)] at c83
                      exfalso; omega
          · skip
            refine j_iconst C (v := (nI 1)) dX12_named_42 (by decide) ?_
            refine j_goto C 47 dX12_named_43 (by decide) ?_
            refine j_istore_n C [(3, .int (nI 1)), (2, .int (nI 0)), (0, .ref o), (1, .int x)] dX12_named_47 (by decide) rfl ?_
            refine j_iload_n C 3 dX12_named_48 rfl ?_
            refine j_aload_n C 2 dX12_named_49 rfl ?_
            refine rg C (v := .int (V 7)) 7 (by decide) kf12_102 rfl dX12_named_50 ?_
            refine j_v (nI 0) hp.1 ?_
            refine j_if_ne C 61 dX12_named_53 (by decide) (fun c53 => ?_) (fun c53 => ?_)
            · rw [show (0 : Int32) = nI 0 from rfl, nI_eq (by omega) (by omega)] at c53
              exact absurd c29 c53
            · rw [show (0 : Int32) = nI 0 from rfl, nI_eq (by omega) (by omega)] at c53
              refine j_bipush C (v := (nI 100)) dX12_named_56 (by decide) ?_
              refine j_goto C 63 dX12_named_58 (by decide) ?_
              refine j_icmp_ne C 70 dX12_named_63 (by decide) (fun c63 => ?_) (fun c63 => ?_)
              · skip
                refine j_iconst C (v := (nI 0)) dX12_named_70 (by decide) ?_
                refine j_istore C [(4, .int (nI 0)), (3, .int (nI 1)), (2, .int (nI 0)), (0, .ref o), (1, .int x)] dX12_named_71 (by decide) rfl ?_
                refine j_iload_n C 2 dX12_named_73 rfl ?_
                refine j_if_ne C 91 dX12_named_74 (by decide) (fun c74 => ?_) (fun c74 => ?_)
                · rw [show (0 : Int32) = nI 0 from rfl, nI_eq (by omega) (by omega)] at c74
                  exact absurd c53 c74
                · rw [show (0 : Int32) = nI 0 from rfl, nI_eq (by omega) (by omega)] at c74
                  refine j_iload_n C 1 dX12_named_77 rfl ?_
                  refine j_if_ne C 91 dX12_named_78 (by decide) (fun c78 => ?_) (fun c78 => ?_)
                  · rw [show (0 : Int32) = nI 0 from rfl, nI_eq (by omega) (by omega)] at c78
                    refine j_aload_n C 3 dX12_named_91 rfl ?_
                    refine j_dup C dX12_named_92 rfl ?_
                    refine rg C (v := .int (V 8)) 8 (by decide) kf12_109 rfl dX12_named_93 ?_
                    refine j_v (nI k) hp.2.1 ?_
                    refine j_iconst C (v := (nI 1)) dX12_named_96 (by decide) ?_
                    refine j_iaddN C dX12_named_97 ?_
                    refine rp_8 C kf12_109 dX12_named_98 ?_
                    have hp5 := hp.sk (k + 1)
                    have ve6 := VE.s2 (VE.rf (V := V)) 8 (nI (k + 1)) (by omega)
                    refine j_iload_n C 2 dX12_named_101 rfl ?_
                    refine j_if_eq C 112 dX12_named_102 (by decide) (fun c102 => ?_) (fun c102 => ?_)
                    · rw [show (0 : Int32) = nI 0 from rfl, nI_eq (by omega) (by omega)] at c102
                      refine j_iload_n C 1 dX12_named_112 rfl ?_
                      refine j_if_eq C 123 dX12_named_113 (by decide) (fun c113 => ?_) (fun c113 => ?_)
                      · rw [show (0 : Int32) = nI 0 from rfl, nI_eq (by omega) (by omega)] at c113
                        exact absurd c113 c78
                      · rw [show (0 : Int32) = nI 0 from rfl, nI_eq (by omega) (by omega)] at c113
                        refine j_aload_n C 3 dX12_named_116 rfl ?_
                        refine rg C (v := .int ((upd V 8 (nI (k + 1))) 12)) 12 (by decide) kf12_125 rfl dX12_named_117 ?_
                        refine j_v b hp5.2.2.2.2.2.1 ?_
                        refine j_goto C 127 dX12_named_120 (by decide) ?_
                        refine j_iret C dX12_named_127 ?_
                        have hnf : namF 0 x = 1 := (by unfold namF; rw [if_neg (by rw [if_pos (by decide)]; exact c15), if_pos (by rw [if_pos (by decide)]; exact c39)])
                        exact ⟨_, ve6, fun _ => ⟨hp5, by rw [hnf]; rfl⟩, fun h => by omega, rfl⟩
                    · rw [show (0 : Int32) = nI 0 from rfl, nI_eq (by omega) (by omega)] at c102
                      exact absurd c74 c102
                  · rw [show (0 : Int32) = nI 0 from rfl, nI_eq (by omega) (by omega)] at c78
                    exfalso; omega
              · skip
                refine j_iconst C (v := (nI 1)) dX12_named_66 (by decide) ?_
                refine j_goto C 71 dX12_named_67 (by decide) ?_
                refine j_istore C [(4, .int (nI 1)), (3, .int (nI 1)), (2, .int (nI 0)), (0, .ref o), (1, .int x)] dX12_named_71 (by decide) rfl ?_
                refine j_iload_n C 2 dX12_named_73 rfl ?_
                refine j_if_ne C 91 dX12_named_74 (by decide) (fun c74 => ?_) (fun c74 => ?_)
                · rw [show (0 : Int32) = nI 0 from rfl, nI_eq (by omega) (by omega)] at c74
                  exact absurd c53 c74
                · rw [show (0 : Int32) = nI 0 from rfl, nI_eq (by omega) (by omega)] at c74
                  refine j_iload_n C 1 dX12_named_77 rfl ?_
                  refine j_if_ne C 91 dX12_named_78 (by decide) (fun c78 => ?_) (fun c78 => ?_)
                  · rw [show (0 : Int32) = nI 0 from rfl, nI_eq (by omega) (by omega)] at c78
                    refine j_aload_n C 3 dX12_named_91 rfl ?_
                    refine j_dup C dX12_named_92 rfl ?_
                    refine rg C (v := .int (V 8)) 8 (by decide) kf12_109 rfl dX12_named_93 ?_
                    refine j_v (nI k) hp.2.1 ?_
                    refine j_iconst C (v := (nI 1)) dX12_named_96 (by decide) ?_
                    refine j_iaddN C dX12_named_97 ?_
                    refine rp_8 C kf12_109 dX12_named_98 ?_
                    have hp7 := hp.sk (k + 1)
                    have ve8 := VE.s2 (VE.rf (V := V)) 8 (nI (k + 1)) (by omega)
                    refine j_iload_n C 2 dX12_named_101 rfl ?_
                    refine j_if_eq C 112 dX12_named_102 (by decide) (fun c102 => ?_) (fun c102 => ?_)
                    · rw [show (0 : Int32) = nI 0 from rfl, nI_eq (by omega) (by omega)] at c102
                      refine j_iload_n C 1 dX12_named_112 rfl ?_
                      refine j_if_eq C 123 dX12_named_113 (by decide) (fun c113 => ?_) (fun c113 => ?_)
                      · rw [show (0 : Int32) = nI 0 from rfl, nI_eq (by omega) (by omega)] at c113
                        exact absurd c113 c78
                      · rw [show (0 : Int32) = nI 0 from rfl, nI_eq (by omega) (by omega)] at c113
                        refine j_aload_n C 3 dX12_named_116 rfl ?_
                        refine rg C (v := .int ((upd V 8 (nI (k + 1))) 12)) 12 (by decide) kf12_125 rfl dX12_named_117 ?_
                        refine j_v b hp7.2.2.2.2.2.1 ?_
                        refine j_goto C 127 dX12_named_120 (by decide) ?_
                        refine j_iret C dX12_named_127 ?_
                        have hnf : namF 0 x = 1 := (by unfold namF; rw [if_neg (by rw [if_pos (by decide)]; exact c15), if_pos (by rw [if_pos (by decide)]; exact c39)])
                        exact ⟨_, ve8, fun _ => ⟨hp7, by rw [hnf]; rfl⟩, fun h => by omega, rfl⟩
                    · rw [show (0 : Int32) = nI 0 from rfl, nI_eq (by omega) (by omega)] at c102
                      exact absurd c74 c102
                  · rw [show (0 : Int32) = nI 0 from rfl, nI_eq (by omega) (by omega)] at c78
                    exfalso; omega
      · skip
        refine j_iconst C (v := (nI 1)) dX12_named_18 (by decide) ?_
        refine j_goto C 23 dX12_named_19 (by decide) ?_
        refine j_istore_n C [(2, .int (nI 1)), (0, .ref o), (1, .int x)] dX12_named_23 (by decide) rfl ?_
        refine j_iload_n C 2 dX12_named_24 rfl ?_
        refine j_aload_n C 1 dX12_named_25 rfl ?_
        refine rg C (v := .int (V 7)) 7 (by decide) kf12_102 rfl dX12_named_26 ?_
        refine j_v (nI 0) hp.1 ?_
        refine j_if_ne C 37 dX12_named_29 (by decide) (fun c29 => ?_) (fun c29 => ?_)
        · rw [show (0 : Int32) = nI 0 from rfl, nI_eq (by omega) (by omega)] at c29
          exact absurd c5 c29
        · rw [show (0 : Int32) = nI 0 from rfl, nI_eq (by omega) (by omega)] at c29
          refine j_bipush C (v := (nI 109)) dX12_named_32 (by decide) ?_
          refine j_goto C 39 dX12_named_34 (by decide) ?_
          refine j_icmp_ne C 46 dX12_named_39 (by decide) (fun c39 => ?_) (fun c39 => ?_)
          · skip
            refine j_iconst C (v := (nI 0)) dX12_named_46 (by decide) ?_
            refine j_istore_n C [(3, .int (nI 0)), (2, .int (nI 1)), (0, .ref o), (1, .int x)] dX12_named_47 (by decide) rfl ?_
            refine j_iload_n C 3 dX12_named_48 rfl ?_
            refine j_aload_n C 2 dX12_named_49 rfl ?_
            refine rg C (v := .int (V 7)) 7 (by decide) kf12_102 rfl dX12_named_50 ?_
            refine j_v (nI 0) hp.1 ?_
            refine j_if_ne C 61 dX12_named_53 (by decide) (fun c53 => ?_) (fun c53 => ?_)
            · rw [show (0 : Int32) = nI 0 from rfl, nI_eq (by omega) (by omega)] at c53
              exact absurd c29 c53
            · rw [show (0 : Int32) = nI 0 from rfl, nI_eq (by omega) (by omega)] at c53
              refine j_bipush C (v := (nI 100)) dX12_named_56 (by decide) ?_
              refine j_goto C 63 dX12_named_58 (by decide) ?_
              refine j_icmp_ne C 70 dX12_named_63 (by decide) (fun c63 => ?_) (fun c63 => ?_)
              · skip
                refine j_iconst C (v := (nI 0)) dX12_named_70 (by decide) ?_
                refine j_istore C [(4, .int (nI 0)), (3, .int (nI 0)), (2, .int (nI 1)), (0, .ref o), (1, .int x)] dX12_named_71 (by decide) rfl ?_
                refine j_iload_n C 2 dX12_named_73 rfl ?_
                refine j_if_ne C 91 dX12_named_74 (by decide) (fun c74 => ?_) (fun c74 => ?_)
                · rw [show (0 : Int32) = nI 0 from rfl, nI_eq (by omega) (by omega)] at c74
                  refine j_aload_n C 3 dX12_named_91 rfl ?_
                  refine j_dup C dX12_named_92 rfl ?_
                  refine rg C (v := .int (V 8)) 8 (by decide) kf12_109 rfl dX12_named_93 ?_
                  refine j_v (nI k) hp.2.1 ?_
                  refine j_iconst C (v := (nI 1)) dX12_named_96 (by decide) ?_
                  refine j_iaddN C dX12_named_97 ?_
                  refine rp_8 C kf12_109 dX12_named_98 ?_
                  have hp9 := hp.sk (k + 1)
                  have ve10 := VE.s2 (VE.rf (V := V)) 8 (nI (k + 1)) (by omega)
                  refine j_iload_n C 2 dX12_named_101 rfl ?_
                  refine j_if_eq C 112 dX12_named_102 (by decide) (fun c102 => ?_) (fun c102 => ?_)
                  · rw [show (0 : Int32) = nI 0 from rfl, nI_eq (by omega) (by omega)] at c102
                    exact absurd c102 c74
                  · rw [show (0 : Int32) = nI 0 from rfl, nI_eq (by omega) (by omega)] at c102
                    refine j_aload_n C 3 dX12_named_105 rfl ?_
                    refine rg C (v := .int ((upd V 8 (nI (k + 1))) 11)) 11 (by decide) kf12_122 rfl dX12_named_106 ?_
                    refine j_v a hp9.2.2.2.2.1 ?_
                    refine j_goto C 127 dX12_named_109 (by decide) ?_
                    refine j_iret C dX12_named_127 ?_
                    have hnf : namF 0 x = 0 := (by unfold namF; rw [if_pos (by rw [if_pos (by decide)]; exact c15)])
                    exact ⟨_, ve10, fun _ => ⟨hp9, by rw [hnf]; rfl⟩, fun h => by omega, rfl⟩
                · rw [show (0 : Int32) = nI 0 from rfl, nI_eq (by omega) (by omega)] at c74
                  exfalso; omega
              · skip
                refine j_iconst C (v := (nI 1)) dX12_named_66 (by decide) ?_
                refine j_goto C 71 dX12_named_67 (by decide) ?_
                refine j_istore C [(4, .int (nI 1)), (3, .int (nI 0)), (2, .int (nI 1)), (0, .ref o), (1, .int x)] dX12_named_71 (by decide) rfl ?_
                refine j_iload_n C 2 dX12_named_73 rfl ?_
                refine j_if_ne C 91 dX12_named_74 (by decide) (fun c74 => ?_) (fun c74 => ?_)
                · rw [show (0 : Int32) = nI 0 from rfl, nI_eq (by omega) (by omega)] at c74
                  refine j_aload_n C 3 dX12_named_91 rfl ?_
                  refine j_dup C dX12_named_92 rfl ?_
                  refine rg C (v := .int (V 8)) 8 (by decide) kf12_109 rfl dX12_named_93 ?_
                  refine j_v (nI k) hp.2.1 ?_
                  refine j_iconst C (v := (nI 1)) dX12_named_96 (by decide) ?_
                  refine j_iaddN C dX12_named_97 ?_
                  refine rp_8 C kf12_109 dX12_named_98 ?_
                  have hp11 := hp.sk (k + 1)
                  have ve12 := VE.s2 (VE.rf (V := V)) 8 (nI (k + 1)) (by omega)
                  refine j_iload_n C 2 dX12_named_101 rfl ?_
                  refine j_if_eq C 112 dX12_named_102 (by decide) (fun c102 => ?_) (fun c102 => ?_)
                  · rw [show (0 : Int32) = nI 0 from rfl, nI_eq (by omega) (by omega)] at c102
                    exact absurd c102 c74
                  · rw [show (0 : Int32) = nI 0 from rfl, nI_eq (by omega) (by omega)] at c102
                    refine j_aload_n C 3 dX12_named_105 rfl ?_
                    refine rg C (v := .int ((upd V 8 (nI (k + 1))) 11)) 11 (by decide) kf12_122 rfl dX12_named_106 ?_
                    refine j_v a hp11.2.2.2.2.1 ?_
                    refine j_goto C 127 dX12_named_109 (by decide) ?_
                    refine j_iret C dX12_named_127 ?_
                    have hnf : namF 0 x = 0 := (by unfold namF; rw [if_pos (by rw [if_pos (by decide)]; exact c15)])
                    exact ⟨_, ve12, fun _ => ⟨hp11, by rw [hnf]; rfl⟩, fun h => by omega, rfl⟩
                · rw [show (0 : Int32) = nI 0 from rfl, nI_eq (by omega) (by omega)] at c74
                  exfalso; omega
          · skip
            refine j_iconst C (v := (nI 1)) dX12_named_42 (by decide) ?_
            refine j_goto C 47 dX12_named_43 (by decide) ?_
            refine j_istore_n C [(3, .int (nI 1)), (2, .int (nI 1)), (0, .ref o), (1, .int x)] dX12_named_47 (by decide) rfl ?_
            refine j_iload_n C 3 dX12_named_48 rfl ?_
            refine j_aload_n C 2 dX12_named_49 rfl ?_
            refine rg C (v := .int (V 7)) 7 (by decide) kf12_102 rfl dX12_named_50 ?_
            refine j_v (nI 0) hp.1 ?_
            refine j_if_ne C 61 dX12_named_53 (by decide) (fun c53 => ?_) (fun c53 => ?_)
            · rw [show (0 : Int32) = nI 0 from rfl, nI_eq (by omega) (by omega)] at c53
              exact absurd c29 c53
            · rw [show (0 : Int32) = nI 0 from rfl, nI_eq (by omega) (by omega)] at c53
              refine j_bipush C (v := (nI 100)) dX12_named_56 (by decide) ?_
              refine j_goto C 63 dX12_named_58 (by decide) ?_
              refine j_icmp_ne C 70 dX12_named_63 (by decide) (fun c63 => ?_) (fun c63 => ?_)
              · skip
                refine j_iconst C (v := (nI 0)) dX12_named_70 (by decide) ?_
                refine j_istore C [(4, .int (nI 0)), (3, .int (nI 1)), (2, .int (nI 1)), (0, .ref o), (1, .int x)] dX12_named_71 (by decide) rfl ?_
                refine j_iload_n C 2 dX12_named_73 rfl ?_
                refine j_if_ne C 91 dX12_named_74 (by decide) (fun c74 => ?_) (fun c74 => ?_)
                · rw [show (0 : Int32) = nI 0 from rfl, nI_eq (by omega) (by omega)] at c74
                  refine j_aload_n C 3 dX12_named_91 rfl ?_
                  refine j_dup C dX12_named_92 rfl ?_
                  refine rg C (v := .int (V 8)) 8 (by decide) kf12_109 rfl dX12_named_93 ?_
                  refine j_v (nI k) hp.2.1 ?_
                  refine j_iconst C (v := (nI 1)) dX12_named_96 (by decide) ?_
                  refine j_iaddN C dX12_named_97 ?_
                  refine rp_8 C kf12_109 dX12_named_98 ?_
                  have hp13 := hp.sk (k + 1)
                  have ve14 := VE.s2 (VE.rf (V := V)) 8 (nI (k + 1)) (by omega)
                  refine j_iload_n C 2 dX12_named_101 rfl ?_
                  refine j_if_eq C 112 dX12_named_102 (by decide) (fun c102 => ?_) (fun c102 => ?_)
                  · rw [show (0 : Int32) = nI 0 from rfl, nI_eq (by omega) (by omega)] at c102
                    exact absurd c102 c74
                  · rw [show (0 : Int32) = nI 0 from rfl, nI_eq (by omega) (by omega)] at c102
                    refine j_aload_n C 3 dX12_named_105 rfl ?_
                    refine rg C (v := .int ((upd V 8 (nI (k + 1))) 11)) 11 (by decide) kf12_122 rfl dX12_named_106 ?_
                    refine j_v a hp13.2.2.2.2.1 ?_
                    refine j_goto C 127 dX12_named_109 (by decide) ?_
                    refine j_iret C dX12_named_127 ?_
                    have hnf : namF 0 x = 0 := (by unfold namF; rw [if_pos (by rw [if_pos (by decide)]; exact c15)])
                    exact ⟨_, ve14, fun _ => ⟨hp13, by rw [hnf]; rfl⟩, fun h => by omega, rfl⟩
                · rw [show (0 : Int32) = nI 0 from rfl, nI_eq (by omega) (by omega)] at c74
                  exfalso; omega
              · skip
                refine j_iconst C (v := (nI 1)) dX12_named_66 (by decide) ?_
                refine j_goto C 71 dX12_named_67 (by decide) ?_
                refine j_istore C [(4, .int (nI 1)), (3, .int (nI 1)), (2, .int (nI 1)), (0, .ref o), (1, .int x)] dX12_named_71 (by decide) rfl ?_
                refine j_iload_n C 2 dX12_named_73 rfl ?_
                refine j_if_ne C 91 dX12_named_74 (by decide) (fun c74 => ?_) (fun c74 => ?_)
                · rw [show (0 : Int32) = nI 0 from rfl, nI_eq (by omega) (by omega)] at c74
                  refine j_aload_n C 3 dX12_named_91 rfl ?_
                  refine j_dup C dX12_named_92 rfl ?_
                  refine rg C (v := .int (V 8)) 8 (by decide) kf12_109 rfl dX12_named_93 ?_
                  refine j_v (nI k) hp.2.1 ?_
                  refine j_iconst C (v := (nI 1)) dX12_named_96 (by decide) ?_
                  refine j_iaddN C dX12_named_97 ?_
                  refine rp_8 C kf12_109 dX12_named_98 ?_
                  have hp15 := hp.sk (k + 1)
                  have ve16 := VE.s2 (VE.rf (V := V)) 8 (nI (k + 1)) (by omega)
                  refine j_iload_n C 2 dX12_named_101 rfl ?_
                  refine j_if_eq C 112 dX12_named_102 (by decide) (fun c102 => ?_) (fun c102 => ?_)
                  · rw [show (0 : Int32) = nI 0 from rfl, nI_eq (by omega) (by omega)] at c102
                    exact absurd c102 c74
                  · rw [show (0 : Int32) = nI 0 from rfl, nI_eq (by omega) (by omega)] at c102
                    refine j_aload_n C 3 dX12_named_105 rfl ?_
                    refine rg C (v := .int ((upd V 8 (nI (k + 1))) 11)) 11 (by decide) kf12_122 rfl dX12_named_106 ?_
                    refine j_v a hp15.2.2.2.2.1 ?_
                    refine j_goto C 127 dX12_named_109 (by decide) ?_
                    refine j_iret C dX12_named_127 ?_
                    have hnf : namF 0 x = 0 := (by unfold namF; rw [if_pos (by rw [if_pos (by decide)]; exact c15)])
                    exact ⟨_, ve16, fun _ => ⟨hp15, by rw [hnf]; rfl⟩, fun h => by omega, rfl⟩
                · rw [show (0 : Int32) = nI 0 from rfl, nI_eq (by omega) (by omega)] at c74
                  exfalso; omega
  · refine j_iload_n C 1 dX12_named_0 rfl ?_
    refine j_aload_n C 0 dX12_named_1 rfl ?_
    refine rg C (v := .int (V 7)) 7 (by decide) kf12_102 rfl dX12_named_2 ?_
    refine j_v (nI 1) hp.1 ?_
    refine j_if_ne C 13 dX12_named_5 (by decide) (fun c5 => ?_) (fun c5 => ?_)
    · rw [show (0 : Int32) = nI 0 from rfl, nI_eq (by omega) (by omega)] at c5
      refine j_bipush C (v := (nI 98)) dX12_named_13 (by decide) ?_
      refine j_icmp_ne C 22 dX12_named_15 (by decide) (fun c15 => ?_) (fun c15 => ?_)
      · skip
        refine j_iconst C (v := (nI 0)) dX12_named_22 (by decide) ?_
        refine j_istore_n C [(2, .int (nI 0)), (0, .ref o), (1, .int x)] dX12_named_23 (by decide) rfl ?_
        refine j_iload_n C 2 dX12_named_24 rfl ?_
        refine j_aload_n C 1 dX12_named_25 rfl ?_
        refine rg C (v := .int (V 7)) 7 (by decide) kf12_102 rfl dX12_named_26 ?_
        refine j_v (nI 1) hp.1 ?_
        refine j_if_ne C 37 dX12_named_29 (by decide) (fun c29 => ?_) (fun c29 => ?_)
        · rw [show (0 : Int32) = nI 0 from rfl, nI_eq (by omega) (by omega)] at c29
          refine j_bipush C (v := (nI 101)) dX12_named_37 (by decide) ?_
          refine j_icmp_ne C 46 dX12_named_39 (by decide) (fun c39 => ?_) (fun c39 => ?_)
          · skip
            refine j_iconst C (v := (nI 0)) dX12_named_46 (by decide) ?_
            refine j_istore_n C [(3, .int (nI 0)), (2, .int (nI 0)), (0, .ref o), (1, .int x)] dX12_named_47 (by decide) rfl ?_
            refine j_iload_n C 3 dX12_named_48 rfl ?_
            refine j_aload_n C 2 dX12_named_49 rfl ?_
            refine rg C (v := .int (V 7)) 7 (by decide) kf12_102 rfl dX12_named_50 ?_
            refine j_v (nI 1) hp.1 ?_
            refine j_if_ne C 61 dX12_named_53 (by decide) (fun c53 => ?_) (fun c53 => ?_)
            · rw [show (0 : Int32) = nI 0 from rfl, nI_eq (by omega) (by omega)] at c53
              refine j_bipush C (v := (nI 109)) dX12_named_61 (by decide) ?_
              refine j_icmp_ne C 70 dX12_named_63 (by decide) (fun c63 => ?_) (fun c63 => ?_)
              · skip
                refine j_iconst C (v := (nI 0)) dX12_named_70 (by decide) ?_
                refine j_istore C [(4, .int (nI 0)), (3, .int (nI 0)), (2, .int (nI 0)), (0, .ref o), (1, .int x)] dX12_named_71 (by decide) rfl ?_
                refine j_iload_n C 2 dX12_named_73 rfl ?_
                refine j_if_ne C 91 dX12_named_74 (by decide) (fun c74 => ?_) (fun c74 => ?_)
                · rw [show (0 : Int32) = nI 0 from rfl, nI_eq (by omega) (by omega)] at c74
                  exfalso; omega
                · rw [show (0 : Int32) = nI 0 from rfl, nI_eq (by omega) (by omega)] at c74
                  refine j_iload_n C 1 dX12_named_77 rfl ?_
                  refine j_if_ne C 91 dX12_named_78 (by decide) (fun c78 => ?_) (fun c78 => ?_)
                  · rw [show (0 : Int32) = nI 0 from rfl, nI_eq (by omega) (by omega)] at c78
                    exact absurd c74 c78
                  · rw [show (0 : Int32) = nI 0 from rfl, nI_eq (by omega) (by omega)] at c78
                    refine j_iload C 0 dX12_named_81 rfl ?_
                    refine j_if_ne C 91 dX12_named_83 (by decide) (fun c83 => ?_) (fun c83 => ?_)
                    · rw [show (0 : Int32) = nI 0 from rfl, nI_eq (by omega) (by omega)] at c83
                      exact absurd c78 c83
                    · rw [show (0 : Int32) = nI 0 from rfl, nI_eq (by omega) (by omega)] at c83
                      refine j_aload_n C 3 dX12_named_86 rfl ?_
                      refine j_callV (As := []) (rest := []) C vw12_fails (c_fails) rRcv rfl (Nat.le_of_ble_eq_true rfl) dX12_named_87 (by decide) ?_
                      rintro _ _ ⟨rfl, rfl⟩
                      have hp17 := hp.sg
                      have ve18 := VE.s2 (VE.rf (V := V)) 14 0 (by omega)
                      refine j_iret C dX12_named_90 ?_
                      have hnf : namF 1 x = 3 := (by unfold namF; rw [if_neg (by rw [if_neg (by decide)]; exact c15), if_neg (by rw [if_neg (by decide)]; exact c39), if_neg (by rw [if_neg (by decide)]; exact c63)])
                      exact ⟨_, ve18, fun h => by omega, fun _ => hp17, rfl⟩
              · skip
                refine j_iconst C (v := (nI 1)) dX12_named_66 (by decide) ?_
                refine j_goto C 71 dX12_named_67 (by decide) ?_
                refine j_istore C [(4, .int (nI 1)), (3, .int (nI 0)), (2, .int (nI 0)), (0, .ref o), (1, .int x)] dX12_named_71 (by decide) rfl ?_
                refine j_iload_n C 2 dX12_named_73 rfl ?_
                refine j_if_ne C 91 dX12_named_74 (by decide) (fun c74 => ?_) (fun c74 => ?_)
                · rw [show (0 : Int32) = nI 0 from rfl, nI_eq (by omega) (by omega)] at c74
                  exfalso; omega
                · rw [show (0 : Int32) = nI 0 from rfl, nI_eq (by omega) (by omega)] at c74
                  refine j_iload_n C 1 dX12_named_77 rfl ?_
                  refine j_if_ne C 91 dX12_named_78 (by decide) (fun c78 => ?_) (fun c78 => ?_)
                  · rw [show (0 : Int32) = nI 0 from rfl, nI_eq (by omega) (by omega)] at c78
                    exact absurd c74 c78
                  · rw [show (0 : Int32) = nI 0 from rfl, nI_eq (by omega) (by omega)] at c78
                    refine j_iload C 0 dX12_named_81 rfl ?_
                    refine j_if_ne C 91 dX12_named_83 (by decide) (fun c83 => ?_) (fun c83 => ?_)
                    · rw [show (0 : Int32) = nI 0 from rfl, nI_eq (by omega) (by omega)] at c83
                      refine j_aload_n C 3 dX12_named_91 rfl ?_
                      refine j_dup C dX12_named_92 rfl ?_
                      refine rg C (v := .int (V 8)) 8 (by decide) kf12_109 rfl dX12_named_93 ?_
                      refine j_v (nI k) hp.2.1 ?_
                      refine j_iconst C (v := (nI 1)) dX12_named_96 (by decide) ?_
                      refine j_iaddN C dX12_named_97 ?_
                      refine rp_8 C kf12_109 dX12_named_98 ?_
                      have hp19 := hp.sk (k + 1)
                      have ve20 := VE.s2 (VE.rf (V := V)) 8 (nI (k + 1)) (by omega)
                      refine j_iload_n C 2 dX12_named_101 rfl ?_
                      refine j_if_eq C 112 dX12_named_102 (by decide) (fun c102 => ?_) (fun c102 => ?_)
                      · rw [show (0 : Int32) = nI 0 from rfl, nI_eq (by omega) (by omega)] at c102
                        refine j_iload_n C 1 dX12_named_112 rfl ?_
                        refine j_if_eq C 123 dX12_named_113 (by decide) (fun c113 => ?_) (fun c113 => ?_)
                        · rw [show (0 : Int32) = nI 0 from rfl, nI_eq (by omega) (by omega)] at c113
                          refine j_aload_n C 3 dX12_named_123 rfl ?_
                          refine rg C (v := .int ((upd V 8 (nI (k + 1))) 13)) 13 (by decide) kf12_128 rfl dX12_named_124 ?_
                          refine j_v c hp19.2.2.2.2.2.2.1 ?_
                          refine j_iret C dX12_named_127 ?_
                          have hnf : namF 1 x = 2 := (by unfold namF; rw [if_neg (by rw [if_neg (by decide)]; exact c15), if_neg (by rw [if_neg (by decide)]; exact c39), if_pos (by rw [if_neg (by decide)]; exact c63)])
                          exact ⟨_, ve20, fun _ => ⟨hp19, by rw [hnf]; rfl⟩, fun h => by omega, rfl⟩
                        · rw [show (0 : Int32) = nI 0 from rfl, nI_eq (by omega) (by omega)] at c113
                          exact absurd c102 c113
                      · rw [show (0 : Int32) = nI 0 from rfl, nI_eq (by omega) (by omega)] at c102
                        exact absurd c78 c102
                    · rw [show (0 : Int32) = nI 0 from rfl, nI_eq (by omega) (by omega)] at c83
                      exact absurd c83 c53
            · rw [show (0 : Int32) = nI 0 from rfl, nI_eq (by omega) (by omega)] at c53
              exact absurd c53 c29
          · skip
            refine j_iconst C (v := (nI 1)) dX12_named_42 (by decide) ?_
            refine j_goto C 47 dX12_named_43 (by decide) ?_
            refine j_istore_n C [(3, .int (nI 1)), (2, .int (nI 0)), (0, .ref o), (1, .int x)] dX12_named_47 (by decide) rfl ?_
            refine j_iload_n C 3 dX12_named_48 rfl ?_
            refine j_aload_n C 2 dX12_named_49 rfl ?_
            refine rg C (v := .int (V 7)) 7 (by decide) kf12_102 rfl dX12_named_50 ?_
            refine j_v (nI 1) hp.1 ?_
            refine j_if_ne C 61 dX12_named_53 (by decide) (fun c53 => ?_) (fun c53 => ?_)
            · rw [show (0 : Int32) = nI 0 from rfl, nI_eq (by omega) (by omega)] at c53
              refine j_bipush C (v := (nI 109)) dX12_named_61 (by decide) ?_
              refine j_icmp_ne C 70 dX12_named_63 (by decide) (fun c63 => ?_) (fun c63 => ?_)
              · skip
                refine j_iconst C (v := (nI 0)) dX12_named_70 (by decide) ?_
                refine j_istore C [(4, .int (nI 0)), (3, .int (nI 1)), (2, .int (nI 0)), (0, .ref o), (1, .int x)] dX12_named_71 (by decide) rfl ?_
                refine j_iload_n C 2 dX12_named_73 rfl ?_
                refine j_if_ne C 91 dX12_named_74 (by decide) (fun c74 => ?_) (fun c74 => ?_)
                · rw [show (0 : Int32) = nI 0 from rfl, nI_eq (by omega) (by omega)] at c74
                  exfalso; omega
                · rw [show (0 : Int32) = nI 0 from rfl, nI_eq (by omega) (by omega)] at c74
                  refine j_iload_n C 1 dX12_named_77 rfl ?_
                  refine j_if_ne C 91 dX12_named_78 (by decide) (fun c78 => ?_) (fun c78 => ?_)
                  · rw [show (0 : Int32) = nI 0 from rfl, nI_eq (by omega) (by omega)] at c78
                    refine j_aload_n C 3 dX12_named_91 rfl ?_
                    refine j_dup C dX12_named_92 rfl ?_
                    refine rg C (v := .int (V 8)) 8 (by decide) kf12_109 rfl dX12_named_93 ?_
                    refine j_v (nI k) hp.2.1 ?_
                    refine j_iconst C (v := (nI 1)) dX12_named_96 (by decide) ?_
                    refine j_iaddN C dX12_named_97 ?_
                    refine rp_8 C kf12_109 dX12_named_98 ?_
                    have hp21 := hp.sk (k + 1)
                    have ve22 := VE.s2 (VE.rf (V := V)) 8 (nI (k + 1)) (by omega)
                    refine j_iload_n C 2 dX12_named_101 rfl ?_
                    refine j_if_eq C 112 dX12_named_102 (by decide) (fun c102 => ?_) (fun c102 => ?_)
                    · rw [show (0 : Int32) = nI 0 from rfl, nI_eq (by omega) (by omega)] at c102
                      refine j_iload_n C 1 dX12_named_112 rfl ?_
                      refine j_if_eq C 123 dX12_named_113 (by decide) (fun c113 => ?_) (fun c113 => ?_)
                      · rw [show (0 : Int32) = nI 0 from rfl, nI_eq (by omega) (by omega)] at c113
                        exact absurd c113 c78
                      · rw [show (0 : Int32) = nI 0 from rfl, nI_eq (by omega) (by omega)] at c113
                        refine j_aload_n C 3 dX12_named_116 rfl ?_
                        refine rg C (v := .int ((upd V 8 (nI (k + 1))) 12)) 12 (by decide) kf12_125 rfl dX12_named_117 ?_
                        refine j_v b hp21.2.2.2.2.2.1 ?_
                        refine j_goto C 127 dX12_named_120 (by decide) ?_
                        refine j_iret C dX12_named_127 ?_
                        have hnf : namF 1 x = 1 := (by unfold namF; rw [if_neg (by rw [if_neg (by decide)]; exact c15), if_pos (by rw [if_neg (by decide)]; exact c39)])
                        exact ⟨_, ve22, fun _ => ⟨hp21, by rw [hnf]; rfl⟩, fun h => by omega, rfl⟩
                    · rw [show (0 : Int32) = nI 0 from rfl, nI_eq (by omega) (by omega)] at c102
                      exact absurd c74 c102
                  · rw [show (0 : Int32) = nI 0 from rfl, nI_eq (by omega) (by omega)] at c78
                    exact absurd c78 c53
              · skip
                refine j_iconst C (v := (nI 1)) dX12_named_66 (by decide) ?_
                refine j_goto C 71 dX12_named_67 (by decide) ?_
                refine j_istore C [(4, .int (nI 1)), (3, .int (nI 1)), (2, .int (nI 0)), (0, .ref o), (1, .int x)] dX12_named_71 (by decide) rfl ?_
                refine j_iload_n C 2 dX12_named_73 rfl ?_
                refine j_if_ne C 91 dX12_named_74 (by decide) (fun c74 => ?_) (fun c74 => ?_)
                · rw [show (0 : Int32) = nI 0 from rfl, nI_eq (by omega) (by omega)] at c74
                  exfalso; omega
                · rw [show (0 : Int32) = nI 0 from rfl, nI_eq (by omega) (by omega)] at c74
                  refine j_iload_n C 1 dX12_named_77 rfl ?_
                  refine j_if_ne C 91 dX12_named_78 (by decide) (fun c78 => ?_) (fun c78 => ?_)
                  · rw [show (0 : Int32) = nI 0 from rfl, nI_eq (by omega) (by omega)] at c78
                    refine j_aload_n C 3 dX12_named_91 rfl ?_
                    refine j_dup C dX12_named_92 rfl ?_
                    refine rg C (v := .int (V 8)) 8 (by decide) kf12_109 rfl dX12_named_93 ?_
                    refine j_v (nI k) hp.2.1 ?_
                    refine j_iconst C (v := (nI 1)) dX12_named_96 (by decide) ?_
                    refine j_iaddN C dX12_named_97 ?_
                    refine rp_8 C kf12_109 dX12_named_98 ?_
                    have hp23 := hp.sk (k + 1)
                    have ve24 := VE.s2 (VE.rf (V := V)) 8 (nI (k + 1)) (by omega)
                    refine j_iload_n C 2 dX12_named_101 rfl ?_
                    refine j_if_eq C 112 dX12_named_102 (by decide) (fun c102 => ?_) (fun c102 => ?_)
                    · rw [show (0 : Int32) = nI 0 from rfl, nI_eq (by omega) (by omega)] at c102
                      refine j_iload_n C 1 dX12_named_112 rfl ?_
                      refine j_if_eq C 123 dX12_named_113 (by decide) (fun c113 => ?_) (fun c113 => ?_)
                      · rw [show (0 : Int32) = nI 0 from rfl, nI_eq (by omega) (by omega)] at c113
                        exact absurd c113 c78
                      · rw [show (0 : Int32) = nI 0 from rfl, nI_eq (by omega) (by omega)] at c113
                        refine j_aload_n C 3 dX12_named_116 rfl ?_
                        refine rg C (v := .int ((upd V 8 (nI (k + 1))) 12)) 12 (by decide) kf12_125 rfl dX12_named_117 ?_
                        refine j_v b hp23.2.2.2.2.2.1 ?_
                        refine j_goto C 127 dX12_named_120 (by decide) ?_
                        refine j_iret C dX12_named_127 ?_
                        have hnf : namF 1 x = 1 := (by unfold namF; rw [if_neg (by rw [if_neg (by decide)]; exact c15), if_pos (by rw [if_neg (by decide)]; exact c39)])
                        exact ⟨_, ve24, fun _ => ⟨hp23, by rw [hnf]; rfl⟩, fun h => by omega, rfl⟩
                    · rw [show (0 : Int32) = nI 0 from rfl, nI_eq (by omega) (by omega)] at c102
                      exact absurd c74 c102
                  · rw [show (0 : Int32) = nI 0 from rfl, nI_eq (by omega) (by omega)] at c78
                    exact absurd c78 c53
            · rw [show (0 : Int32) = nI 0 from rfl, nI_eq (by omega) (by omega)] at c53
              exact absurd c53 c29
        · rw [show (0 : Int32) = nI 0 from rfl, nI_eq (by omega) (by omega)] at c29
          exact absurd c29 c5
      · skip
        refine j_iconst C (v := (nI 1)) dX12_named_18 (by decide) ?_
        refine j_goto C 23 dX12_named_19 (by decide) ?_
        refine j_istore_n C [(2, .int (nI 1)), (0, .ref o), (1, .int x)] dX12_named_23 (by decide) rfl ?_
        refine j_iload_n C 2 dX12_named_24 rfl ?_
        refine j_aload_n C 1 dX12_named_25 rfl ?_
        refine rg C (v := .int (V 7)) 7 (by decide) kf12_102 rfl dX12_named_26 ?_
        refine j_v (nI 1) hp.1 ?_
        refine j_if_ne C 37 dX12_named_29 (by decide) (fun c29 => ?_) (fun c29 => ?_)
        · rw [show (0 : Int32) = nI 0 from rfl, nI_eq (by omega) (by omega)] at c29
          refine j_bipush C (v := (nI 101)) dX12_named_37 (by decide) ?_
          refine j_icmp_ne C 46 dX12_named_39 (by decide) (fun c39 => ?_) (fun c39 => ?_)
          · skip
            refine j_iconst C (v := (nI 0)) dX12_named_46 (by decide) ?_
            refine j_istore_n C [(3, .int (nI 0)), (2, .int (nI 1)), (0, .ref o), (1, .int x)] dX12_named_47 (by decide) rfl ?_
            refine j_iload_n C 3 dX12_named_48 rfl ?_
            refine j_aload_n C 2 dX12_named_49 rfl ?_
            refine rg C (v := .int (V 7)) 7 (by decide) kf12_102 rfl dX12_named_50 ?_
            refine j_v (nI 1) hp.1 ?_
            refine j_if_ne C 61 dX12_named_53 (by decide) (fun c53 => ?_) (fun c53 => ?_)
            · rw [show (0 : Int32) = nI 0 from rfl, nI_eq (by omega) (by omega)] at c53
              refine j_bipush C (v := (nI 109)) dX12_named_61 (by decide) ?_
              refine j_icmp_ne C 70 dX12_named_63 (by decide) (fun c63 => ?_) (fun c63 => ?_)
              · skip
                refine j_iconst C (v := (nI 0)) dX12_named_70 (by decide) ?_
                refine j_istore C [(4, .int (nI 0)), (3, .int (nI 0)), (2, .int (nI 1)), (0, .ref o), (1, .int x)] dX12_named_71 (by decide) rfl ?_
                refine j_iload_n C 2 dX12_named_73 rfl ?_
                refine j_if_ne C 91 dX12_named_74 (by decide) (fun c74 => ?_) (fun c74 => ?_)
                · rw [show (0 : Int32) = nI 0 from rfl, nI_eq (by omega) (by omega)] at c74
                  refine j_aload_n C 3 dX12_named_91 rfl ?_
                  refine j_dup C dX12_named_92 rfl ?_
                  refine rg C (v := .int (V 8)) 8 (by decide) kf12_109 rfl dX12_named_93 ?_
                  refine j_v (nI k) hp.2.1 ?_
                  refine j_iconst C (v := (nI 1)) dX12_named_96 (by decide) ?_
                  refine j_iaddN C dX12_named_97 ?_
                  refine rp_8 C kf12_109 dX12_named_98 ?_
                  have hp25 := hp.sk (k + 1)
                  have ve26 := VE.s2 (VE.rf (V := V)) 8 (nI (k + 1)) (by omega)
                  refine j_iload_n C 2 dX12_named_101 rfl ?_
                  refine j_if_eq C 112 dX12_named_102 (by decide) (fun c102 => ?_) (fun c102 => ?_)
                  · rw [show (0 : Int32) = nI 0 from rfl, nI_eq (by omega) (by omega)] at c102
                    exact absurd c102 c74
                  · rw [show (0 : Int32) = nI 0 from rfl, nI_eq (by omega) (by omega)] at c102
                    refine j_aload_n C 3 dX12_named_105 rfl ?_
                    refine rg C (v := .int ((upd V 8 (nI (k + 1))) 11)) 11 (by decide) kf12_122 rfl dX12_named_106 ?_
                    refine j_v a hp25.2.2.2.2.1 ?_
                    refine j_goto C 127 dX12_named_109 (by decide) ?_
                    refine j_iret C dX12_named_127 ?_
                    have hnf : namF 1 x = 0 := (by unfold namF; rw [if_pos (by rw [if_neg (by decide)]; exact c15)])
                    exact ⟨_, ve26, fun _ => ⟨hp25, by rw [hnf]; rfl⟩, fun h => by omega, rfl⟩
                · rw [show (0 : Int32) = nI 0 from rfl, nI_eq (by omega) (by omega)] at c74
                  exact absurd c74 c53
              · skip
                refine j_iconst C (v := (nI 1)) dX12_named_66 (by decide) ?_
                refine j_goto C 71 dX12_named_67 (by decide) ?_
                refine j_istore C [(4, .int (nI 1)), (3, .int (nI 0)), (2, .int (nI 1)), (0, .ref o), (1, .int x)] dX12_named_71 (by decide) rfl ?_
                refine j_iload_n C 2 dX12_named_73 rfl ?_
                refine j_if_ne C 91 dX12_named_74 (by decide) (fun c74 => ?_) (fun c74 => ?_)
                · rw [show (0 : Int32) = nI 0 from rfl, nI_eq (by omega) (by omega)] at c74
                  refine j_aload_n C 3 dX12_named_91 rfl ?_
                  refine j_dup C dX12_named_92 rfl ?_
                  refine rg C (v := .int (V 8)) 8 (by decide) kf12_109 rfl dX12_named_93 ?_
                  refine j_v (nI k) hp.2.1 ?_
                  refine j_iconst C (v := (nI 1)) dX12_named_96 (by decide) ?_
                  refine j_iaddN C dX12_named_97 ?_
                  refine rp_8 C kf12_109 dX12_named_98 ?_
                  have hp27 := hp.sk (k + 1)
                  have ve28 := VE.s2 (VE.rf (V := V)) 8 (nI (k + 1)) (by omega)
                  refine j_iload_n C 2 dX12_named_101 rfl ?_
                  refine j_if_eq C 112 dX12_named_102 (by decide) (fun c102 => ?_) (fun c102 => ?_)
                  · rw [show (0 : Int32) = nI 0 from rfl, nI_eq (by omega) (by omega)] at c102
                    exact absurd c102 c74
                  · rw [show (0 : Int32) = nI 0 from rfl, nI_eq (by omega) (by omega)] at c102
                    refine j_aload_n C 3 dX12_named_105 rfl ?_
                    refine rg C (v := .int ((upd V 8 (nI (k + 1))) 11)) 11 (by decide) kf12_122 rfl dX12_named_106 ?_
                    refine j_v a hp27.2.2.2.2.1 ?_
                    refine j_goto C 127 dX12_named_109 (by decide) ?_
                    refine j_iret C dX12_named_127 ?_
                    have hnf : namF 1 x = 0 := (by unfold namF; rw [if_pos (by rw [if_neg (by decide)]; exact c15)])
                    exact ⟨_, ve28, fun _ => ⟨hp27, by rw [hnf]; rfl⟩, fun h => by omega, rfl⟩
                · rw [show (0 : Int32) = nI 0 from rfl, nI_eq (by omega) (by omega)] at c74
                  exact absurd c74 c53
            · rw [show (0 : Int32) = nI 0 from rfl, nI_eq (by omega) (by omega)] at c53
              exact absurd c53 c29
          · skip
            refine j_iconst C (v := (nI 1)) dX12_named_42 (by decide) ?_
            refine j_goto C 47 dX12_named_43 (by decide) ?_
            refine j_istore_n C [(3, .int (nI 1)), (2, .int (nI 1)), (0, .ref o), (1, .int x)] dX12_named_47 (by decide) rfl ?_
            refine j_iload_n C 3 dX12_named_48 rfl ?_
            refine j_aload_n C 2 dX12_named_49 rfl ?_
            refine rg C (v := .int (V 7)) 7 (by decide) kf12_102 rfl dX12_named_50 ?_
            refine j_v (nI 1) hp.1 ?_
            refine j_if_ne C 61 dX12_named_53 (by decide) (fun c53 => ?_) (fun c53 => ?_)
            · rw [show (0 : Int32) = nI 0 from rfl, nI_eq (by omega) (by omega)] at c53
              refine j_bipush C (v := (nI 109)) dX12_named_61 (by decide) ?_
              refine j_icmp_ne C 70 dX12_named_63 (by decide) (fun c63 => ?_) (fun c63 => ?_)
              · skip
                refine j_iconst C (v := (nI 0)) dX12_named_70 (by decide) ?_
                refine j_istore C [(4, .int (nI 0)), (3, .int (nI 1)), (2, .int (nI 1)), (0, .ref o), (1, .int x)] dX12_named_71 (by decide) rfl ?_
                refine j_iload_n C 2 dX12_named_73 rfl ?_
                refine j_if_ne C 91 dX12_named_74 (by decide) (fun c74 => ?_) (fun c74 => ?_)
                · rw [show (0 : Int32) = nI 0 from rfl, nI_eq (by omega) (by omega)] at c74
                  refine j_aload_n C 3 dX12_named_91 rfl ?_
                  refine j_dup C dX12_named_92 rfl ?_
                  refine rg C (v := .int (V 8)) 8 (by decide) kf12_109 rfl dX12_named_93 ?_
                  refine j_v (nI k) hp.2.1 ?_
                  refine j_iconst C (v := (nI 1)) dX12_named_96 (by decide) ?_
                  refine j_iaddN C dX12_named_97 ?_
                  refine rp_8 C kf12_109 dX12_named_98 ?_
                  have hp29 := hp.sk (k + 1)
                  have ve30 := VE.s2 (VE.rf (V := V)) 8 (nI (k + 1)) (by omega)
                  refine j_iload_n C 2 dX12_named_101 rfl ?_
                  refine j_if_eq C 112 dX12_named_102 (by decide) (fun c102 => ?_) (fun c102 => ?_)
                  · rw [show (0 : Int32) = nI 0 from rfl, nI_eq (by omega) (by omega)] at c102
                    exact absurd c102 c74
                  · rw [show (0 : Int32) = nI 0 from rfl, nI_eq (by omega) (by omega)] at c102
                    refine j_aload_n C 3 dX12_named_105 rfl ?_
                    refine rg C (v := .int ((upd V 8 (nI (k + 1))) 11)) 11 (by decide) kf12_122 rfl dX12_named_106 ?_
                    refine j_v a hp29.2.2.2.2.1 ?_
                    refine j_goto C 127 dX12_named_109 (by decide) ?_
                    refine j_iret C dX12_named_127 ?_
                    have hnf : namF 1 x = 0 := (by unfold namF; rw [if_pos (by rw [if_neg (by decide)]; exact c15)])
                    exact ⟨_, ve30, fun _ => ⟨hp29, by rw [hnf]; rfl⟩, fun h => by omega, rfl⟩
                · rw [show (0 : Int32) = nI 0 from rfl, nI_eq (by omega) (by omega)] at c74
                  exact absurd c74 c53
              · skip
                refine j_iconst C (v := (nI 1)) dX12_named_66 (by decide) ?_
                refine j_goto C 71 dX12_named_67 (by decide) ?_
                refine j_istore C [(4, .int (nI 1)), (3, .int (nI 1)), (2, .int (nI 1)), (0, .ref o), (1, .int x)] dX12_named_71 (by decide) rfl ?_
                refine j_iload_n C 2 dX12_named_73 rfl ?_
                refine j_if_ne C 91 dX12_named_74 (by decide) (fun c74 => ?_) (fun c74 => ?_)
                · rw [show (0 : Int32) = nI 0 from rfl, nI_eq (by omega) (by omega)] at c74
                  refine j_aload_n C 3 dX12_named_91 rfl ?_
                  refine j_dup C dX12_named_92 rfl ?_
                  refine rg C (v := .int (V 8)) 8 (by decide) kf12_109 rfl dX12_named_93 ?_
                  refine j_v (nI k) hp.2.1 ?_
                  refine j_iconst C (v := (nI 1)) dX12_named_96 (by decide) ?_
                  refine j_iaddN C dX12_named_97 ?_
                  refine rp_8 C kf12_109 dX12_named_98 ?_
                  have hp31 := hp.sk (k + 1)
                  have ve32 := VE.s2 (VE.rf (V := V)) 8 (nI (k + 1)) (by omega)
                  refine j_iload_n C 2 dX12_named_101 rfl ?_
                  refine j_if_eq C 112 dX12_named_102 (by decide) (fun c102 => ?_) (fun c102 => ?_)
                  · rw [show (0 : Int32) = nI 0 from rfl, nI_eq (by omega) (by omega)] at c102
                    exact absurd c102 c74
                  · rw [show (0 : Int32) = nI 0 from rfl, nI_eq (by omega) (by omega)] at c102
                    refine j_aload_n C 3 dX12_named_105 rfl ?_
                    refine rg C (v := .int ((upd V 8 (nI (k + 1))) 11)) 11 (by decide) kf12_122 rfl dX12_named_106 ?_
                    refine j_v a hp31.2.2.2.2.1 ?_
                    refine j_goto C 127 dX12_named_109 (by decide) ?_
                    refine j_iret C dX12_named_127 ?_
                    have hnf : namF 1 x = 0 := (by unfold namF; rw [if_pos (by rw [if_neg (by decide)]; exact c15)])
                    exact ⟨_, ve32, fun _ => ⟨hp31, by rw [hnf]; rfl⟩, fun h => by omega, rfl⟩
                · rw [show (0 : Int32) = nI 0 from rfl, nI_eq (by omega) (by omega)] at c74
                  exact absurd c74 c53
            · rw [show (0 : Int32) = nI 0 from rfl, nI_eq (by omega) (by omega)] at c53
              exact absurd c53 c29
        · rw [show (0 : Int32) = nI 0 from rfl, nI_eq (by omega) (by omega)] at c29
          exact absurd c29 c5
    · rw [show (0 : Int32) = nI 0 from rfl, nI_eq (by omega) (by omega)] at c5
      exfalso; omega
theorem dX12_product_0 : decode cX12_product 0 = .ok (.aload_n 0, 1) := by decide +kernel
theorem dX12_product_1 : decode cX12_product 1 = .ok (.invokevirtual 140, 3) := by decide +kernel
theorem dX12_product_4 : decode cX12_product 4 = .ok (.istore_n 1, 1) := by decide +kernel
theorem dX12_product_5 : decode cX12_product 5 = .ok (.aload_n 0, 1) := by decide +kernel
theorem dX12_product_6 : decode cX12_product 6 = .ok (.getfield 105, 3) := by decide +kernel
theorem dX12_product_9 : decode cX12_product 9 = .ok (.ifCond .eq 105, 3) := by decide +kernel
theorem dX12_product_12 : decode cX12_product 12 = .ok (.aload_n 0, 1) := by decide +kernel
theorem dX12_product_13 : decode cX12_product 13 = .ok (.aload_n 0, 1) := by decide +kernel
theorem dX12_product_14 : decode cX12_product 14 = .ok (.getfield 109, 3) := by decide +kernel
theorem dX12_product_17 : decode cX12_product 17 = .ok (.invokevirtual 112, 3) := by decide +kernel
theorem dX12_product_20 : decode cX12_product 20 = .ok (.bipush 42, 2) := by decide +kernel
theorem dX12_product_22 : decode cX12_product 22 = .ok (.if_icmp .eq 29, 3) := by decide +kernel
theorem dX12_product_25 : decode cX12_product 25 = .ok (.aload_n 0, 1) := by decide +kernel
theorem dX12_product_26 : decode cX12_product 26 = .ok (.aload_n 0, 1) := by decide +kernel
theorem dX12_product_27 : decode cX12_product 27 = .ok (.getfield 109, 3) := by decide +kernel
theorem dX12_product_30 : decode cX12_product 30 = .ok (.invokevirtual 112, 3) := by decide +kernel
theorem dX12_product_33 : decode cX12_product 33 = .ok (.bipush 47, 2) := by decide +kernel
theorem dX12_product_35 : decode cX12_product 35 = .ok (.if_icmp .eq 16, 3) := by decide +kernel
theorem dX12_product_38 : decode cX12_product 38 = .ok (.aload_n 0, 1) := by decide +kernel
theorem dX12_product_39 : decode cX12_product 39 = .ok (.aload_n 0, 1) := by decide +kernel
theorem dX12_product_40 : decode cX12_product 40 = .ok (.getfield 109, 3) := by decide +kernel
theorem dX12_product_43 : decode cX12_product 43 = .ok (.invokevirtual 112, 3) := by decide +kernel
theorem dX12_product_46 : decode cX12_product 46 = .ok (.bipush 37, 2) := by decide +kernel
theorem dX12_product_48 : decode cX12_product 48 = .ok (.if_icmp .ne 66, 3) := by decide +kernel
theorem dX12_product_51 : decode cX12_product 51 = .ok (.aload_n 0, 1) := by decide +kernel
theorem dX12_product_52 : decode cX12_product 52 = .ok (.aload_n 0, 1) := by decide +kernel
theorem dX12_product_53 : decode cX12_product 53 = .ok (.getfield 109, 3) := by decide +kernel
theorem dX12_product_56 : decode cX12_product 56 = .ok (.invokevirtual 112, 3) := by decide +kernel
theorem dX12_product_59 : decode cX12_product 59 = .ok (.istore_n 2, 1) := by decide +kernel
theorem dX12_product_60 : decode cX12_product 60 = .ok (.aload_n 0, 1) := by decide +kernel
theorem dX12_product_61 : decode cX12_product 61 = .ok (.dup, 1) := by decide +kernel
theorem dX12_product_62 : decode cX12_product 62 = .ok (.getfield 109, 3) := by decide +kernel
theorem dX12_product_65 : decode cX12_product 65 = .ok (.iconst 1, 1) := by decide +kernel
theorem dX12_product_66 : decode cX12_product 66 = .ok (.iadd, 1) := by decide +kernel
theorem dX12_product_67 : decode cX12_product 67 = .ok (.putfield 109, 3) := by decide +kernel
theorem dX12_product_70 : decode cX12_product 70 = .ok (.aload_n 0, 1) := by decide +kernel
theorem dX12_product_71 : decode cX12_product 71 = .ok (.invokevirtual 140, 3) := by decide +kernel
theorem dX12_product_74 : decode cX12_product 74 = .ok (.istore_n 3, 1) := by decide +kernel
theorem dX12_product_75 : decode cX12_product 75 = .ok (.iload_n 2, 1) := by decide +kernel
theorem dX12_product_76 : decode cX12_product 76 = .ok (.bipush 42, 2) := by decide +kernel
theorem dX12_product_78 : decode cX12_product 78 = .ok (.if_icmp .ne 9, 3) := by decide +kernel
theorem dX12_product_81 : decode cX12_product 81 = .ok (.iload_n 1, 1) := by decide +kernel
theorem dX12_product_82 : decode cX12_product 82 = .ok (.iload_n 3, 1) := by decide +kernel
theorem dX12_product_83 : decode cX12_product 83 = .ok (.imul, 1) := by decide +kernel
theorem dX12_product_84 : decode cX12_product 84 = .ok (.goto 26, 3) := by decide +kernel
theorem dX12_product_87 : decode cX12_product 87 = .ok (.iload_n 3, 1) := by decide +kernel
theorem dX12_product_88 : decode cX12_product 88 = .ok (.ifCond .ne 7, 3) := by decide +kernel
theorem dX12_product_91 : decode cX12_product 91 = .ok (.iconst 0, 1) := by decide +kernel
theorem dX12_product_92 : decode cX12_product 92 = .ok (.goto 18, 3) := by decide +kernel
theorem dX12_product_95 : decode cX12_product 95 = .ok (.iload_n 2, 1) := by decide +kernel
theorem dX12_product_96 : decode cX12_product 96 = .ok (.bipush 47, 2) := by decide +kernel
theorem dX12_product_98 : decode cX12_product 98 = .ok (.if_icmp .ne 9, 3) := by decide +kernel
theorem dX12_product_101 : decode cX12_product 101 = .ok (.iload_n 1, 1) := by decide +kernel
theorem dX12_product_102 : decode cX12_product 102 = .ok (.iload_n 3, 1) := by decide +kernel
theorem dX12_product_103 : decode cX12_product 103 = .ok (.idiv, 1) := by decide +kernel
theorem dX12_product_104 : decode cX12_product 104 = .ok (.goto 6, 3) := by decide +kernel
theorem dX12_product_107 : decode cX12_product 107 = .ok (.iload_n 1, 1) := by decide +kernel
theorem dX12_product_108 : decode cX12_product 108 = .ok (.iload_n 3, 1) := by decide +kernel
theorem dX12_product_109 : decode cX12_product 109 = .ok (.irem, 1) := by decide +kernel
theorem dX12_product_110 : decode cX12_product 110 = .ok (.istore_n 1, 1) := by decide +kernel
theorem dX12_product_111 : decode cX12_product 111 = .ok (.goto (-106), 3) := by decide +kernel
theorem dX12_product_114 : decode cX12_product 114 = .ok (.iload_n 1, 1) := by decide +kernel
theorem dX12_product_115 : decode cX12_product 115 = .ok (.ireturn, 1) := by decide +kernel
set_option maxHeartbeats 2000000 in
set_option maxRecDepth 20000 in
theorem c_product {l : Launch} {D : va_G} {cI cG cW : ClassId} {o : Nat} {q : Nat → Nat} {row kept tried bf fd pk bo so sh mv tr : Nat → Int32} {u n : Nat} {a b c : Int32} (hu : u ≤ 1) (hn : n ≤ 50) (f : Nat) (IH : ∀ f', f' < f → PC l D cI cG cW o q row kept tried bf fd pk bo so sh mv tr u n a b c yX12_factor cX12_factor 3 5 f') : PC l D cI cG cW o q row kept tried bf fd pk bo so sh mv tr u n a b c yX12_product cX12_product 4 4 f := by
  intro V op k code hp hop hk hf
  obtain ⟨f, rfl⟩ : ∃ f', f = f' + 1 := ⟨f - 1, by omega⟩
  refine Ci.of (by decide) (Nat.le_of_ble_eq_true rfl) ?_
  intro p_ e_ s_ m_ b_ M_ c_ A_ C
  replace C : Cx _ _ _ _ _ _ _ _ RX12 _ _ _ _ := C
  refine j_L [0] [(0, .ref o)] rfl ?_
  refine j_aload_n C 0 dX12_product_0 rfl ?_
  refine j_callV (As := []) (rest := []) C vw12_factor (IH f (by omega) V op k code hp (by omega) (by omega) (by omega)) rRcv rfl (Nat.le_of_ble_eq_true rfl) dX12_product_1 (by unfold dP; omega) ?_
  rintro r1 _ ⟨W1, hW1, hP1, hS1, rfl⟩
  obtain ⟨res1, hr1⟩ : ∃ x, x = prs (txF row u) n u f 5 false op k code := ⟨_, rfl⟩
  rw [← hr1] at hP1 hS1
  have hpr1 := prs_pr (b := txF row u) (n := n) (u := u) f 5 false op k code (by omega) (fun h => by cases h) (by omega)
  rw [← hr1] at hpr1
  have ve1 := hW1.tr (VE.rf (V := V))
  refine j_istore_n C [(1, .int r1), (0, .ref o)] dX12_product_4 (by decide) rfl ?_
  rcases Bool.eq_false_or_eq_true res1.1 with hg1 | hg1
  · have hPt1 := g_t hP1 hg1
    have hlt1 := hpr1.2.2 rfl hg1
    refine j_L [1, 0] [(0, .ref o), (1, .int r1)] rfl ?_
    refine j_loop (X := Nat × Nat × (List Int32) × (Nat → Int32) × Int32) (fun (z : Nat × Nat × (List Int32) × (Nat → Int32) × Int32) => match z with | (F, k1, cd, V1, v) => F ≤ f ∧ k1 ≤ n ∧ 8 * (n - k1) + (6 - 4) ≤ F ∧ VE V1 V ∧ Pst V1 u n op k1 a b c true ∧ prs (txF row u) n u (f + 1) 4 false op k code = prs (txF row u) n u F 4 true op k1 cd ∧ ∃ seg, cd = code ++ seg ∧ Seg a b c seg v) (fun (z : Nat × Nat × (List Int32) × (Nat → Int32) × Int32) => match z with | (F, k1, cd, V1, v) => F) (fun (z : Nat × Nat × (List Int32) × (Nat → Int32) × Int32) => match z with | (F, k1, cd, V1, v) => (sR V1 row kept tried bf fd pk bo so sh mv tr)) (fun (z : Nat × Nat × (List Int32) × (Nat → Int32) × Int32) => match z with | (F, k1, cd, V1, v) => [(0, .ref o), (1, .int v)]) (f, res1.2.1, res1.2.2, W1, r1) (⟨Nat.le_refl _, hpr1.2.1, by omega, ve1, hPt1, by rw [prs_ut (by decide) (by rw [← hr1]; exact hg1), ← hr1], hS1 hg1⟩) rfl rfl ?_
    rintro ⟨F, k1, cd, V1, v⟩ ⟨hF, hk1, hnd, hV, hP, hE, seg, hcd, hsg⟩ ih
    try dsimp only at ih ⊢
    obtain ⟨F, rfl⟩ : ∃ F', F = F' + 1 := ⟨F - 1, by omega⟩
    refine j_aload_n C 0 dX12_product_5 rfl ?_
    refine rg C (v := .int (V1 14)) 14 (by decide) kf12_105 rfl dX12_product_6 ?_
    refine j_v (nI 1) (g_1 hP) ?_
    refine j_if_eq C 114 dX12_product_9 (by decide) (fun c9 => ?_) (fun c9 => ?_)
    · rw [show (0 : Int32) = nI 0 from rfl, nI_eq (by omega) (by omega)] at c9
      exfalso; omega
    · rw [show (0 : Int32) = nI 0 from rfl, nI_eq (by omega) (by omega)] at c9
      refine j_aload_n C 0 dX12_product_12 rfl ?_
      refine j_aload_n C 0 dX12_product_13 rfl ?_
      refine rg C (v := .int (V1 8)) 8 (by decide) kf12_109 rfl dX12_product_14 ?_
      refine j_v (nI k1) hP.2.1 ?_
      refine j_callV (As := [.int (nI k1)]) (rest := []) C vw12_byteAt (c_byteAt (V := V1) k1 (by omega) hu hn hP.1 hP.2.2.1) rRcv rfl (Nat.le_of_ble_eq_true rfl) dX12_product_17 (by unfold dP; omega) ?_
      rintro _ _ ⟨rfl, rfl⟩
      refine j_bipush C (v := (nI 42)) dX12_product_20 (by decide) ?_
      refine j_icmp_eq C 51 dX12_product_22 (by decide) (fun c22 => ?_) (fun c22 => ?_)
      · skip
        refine j_aload_n C 0 dX12_product_51 rfl ?_
        refine j_aload_n C 0 dX12_product_52 rfl ?_
        refine rg C (v := .int (V1 8)) 8 (by decide) kf12_109 rfl dX12_product_53 ?_
        refine j_v (nI k1) hP.2.1 ?_
        refine j_callV (As := [.int (nI k1)]) (rest := []) C vw12_byteAt (c_byteAt (V := V1) k1 (by omega) hu hn hP.1 hP.2.2.1) rRcv rfl (Nat.le_of_ble_eq_true rfl) dX12_product_56 (by unfold dP; omega) ?_
        rintro _ _ ⟨rfl, rfl⟩
        refine j_istore_n C [(2, .int (bytF (txF row u) n k1)), (0, .ref o), (1, .int v)] dX12_product_59 (by decide) rfl ?_
        have hkl : k1 < n := byt_lt (b := txF row u) (by rw [c22]; decide)
        refine j_aload_n C 1 dX12_product_60 rfl ?_
        refine j_dup C dX12_product_61 rfl ?_
        refine rg C (v := .int (V1 8)) 8 (by decide) kf12_109 rfl dX12_product_62 ?_
        refine j_v (nI k1) hP.2.1 ?_
        refine j_iconst C (v := (nI 1)) dX12_product_65 (by decide) ?_
        refine j_iaddN C dX12_product_66 ?_
        refine rp_8 C kf12_109 dX12_product_67 ?_
        have hp2 := hP.sk (k1 + 1)
        have ve3 := VE.s2 hV 8 (nI (k1 + 1)) (by omega)
        refine j_aload_n C 1 dX12_product_70 rfl ?_
        refine j_callV (As := []) (rest := []) C vw12_factor (IH F (by omega) (upd V1 8 (nI (k1 + 1))) op (k1 + 1) cd hp2 (by omega) (by omega) (by omega)) rRcv rfl (Nat.le_of_ble_eq_true rfl) dX12_product_71 (by unfold dP; omega) ?_
        rintro r4 _ ⟨W4, hW4, hP4, hS4, rfl⟩
        obtain ⟨res4, hr4⟩ : ∃ x, x = prs (txF row u) n u F 5 false op (k1 + 1) cd := ⟨_, rfl⟩
        rw [← hr4] at hP4 hS4
        have hpr4 := prs_pr (b := txF row u) (n := n) (u := u) F 5 false op (k1 + 1) cd (by omega) (fun h => by cases h) (by omega)
        rw [← hr4] at hpr4
        have ve4 := hW4.tr ve3
        refine j_istore_n C [(3, .int r4), (2, .int (bytF (txF row u) n k1)), (0, .ref o), (1, .int v)] dX12_product_74 (by decide) rfl ?_
        refine j_iload_n C 1 dX12_product_75 rfl ?_
        refine j_bipush C (v := (nI 42)) dX12_product_76 (by decide) ?_
        refine j_icmp_ne C 87 dX12_product_78 (by decide) (fun c78 => ?_) (fun c78 => ?_)
        · skip
          exact absurd c22 c78
        · skip
          refine j_iload_n C 3 dX12_product_81 rfl ?_
          refine j_iload_n C 0 dX12_product_82 rfl ?_
          refine j_imul C dX12_product_83 ?_
          refine j_goto C 110 dX12_product_84 (by decide) ?_
          refine j_istore_n C [(1, .int (v * r4)), (3, .int r4), (2, .int (bytF (txF row u) n k1)), (0, .ref o)] dX12_product_110 (by decide) rfl ?_
          refine j_goto C 5 dX12_product_111 (by decide) ?_
          rcases Bool.eq_false_or_eq_true res4.1 with hg4 | hg4
          · have hPt4 := g_t hP4 hg4
            have hlt4 := hpr4.2.2 rfl hg4
            refine j_L [3, 0] [(0, .ref o), (1, .int (v * r4))] rfl ?_
            obtain ⟨seg2, hc2, hs2⟩ := hS4 hg4
            have hj : joinF (bytF (txF row u) n k1) v r4 = (v * r4) := by rw [c22]; exact join_42 v r4
            have hsj := hsg.join hs2 (sg := bytF (txF row u) n k1) (by rw [c22]; decide) (by rw [c22]; decide) (by rw [c22]; decide)
            rw [hj] at hsj
            exact ih (F, res4.2.1, res4.2.2 ++ [-(bytF (txF row u) n k1)], W4, (v * r4)) ⟨by dsimp only; omega, hpr4.2.1, by dsimp only; omega, ve4, hPt4, by dsimp only; rw [hE, prs_lt (lv_eq4 (Or.inl c22)) (by decide) (by rw [← hr4]; exact hg4), ← hr4], _, by dsimp only; rw [hc2, hcd, List.append_assoc, List.append_assoc, ← List.append_assoc seg], hsj⟩ (by dsimp only; omega)
          · skip
            refine j_aload_n C 3 dX12_product_5 rfl ?_
            refine rg C (v := .int (W4 14)) 14 (by decide) kf12_105 rfl dX12_product_6 ?_
            refine j_v (nI 0) (g_0 hP4 hg4) ?_
            refine j_if_eq C 114 dX12_product_9 (by decide) (fun c9 => ?_) (fun c9 => ?_)
            · rw [show (0 : Int32) = nI 0 from rfl, nI_eq (by omega) (by omega)] at c9
              refine j_iload_n C 0 dX12_product_114 rfl ?_
              refine j_iret C dX12_product_115 ?_
              rw [hE, prs_lf (lv_eq4 (Or.inl c22)) (by rw [← hr4]; exact hg4), ← hr4]
              exact ⟨W4, ve4, hP4, fun h => (by rw [hg4] at h; cases h), rfl⟩
            · rw [show (0 : Int32) = nI 0 from rfl, nI_eq (by omega) (by omega)] at c9
              exfalso; omega
      · skip
        refine j_aload_n C 0 dX12_product_25 rfl ?_
        refine j_aload_n C 0 dX12_product_26 rfl ?_
        refine rg C (v := .int (V1 8)) 8 (by decide) kf12_109 rfl dX12_product_27 ?_
        refine j_v (nI k1) hP.2.1 ?_
        refine j_callV (As := [.int (nI k1)]) (rest := []) C vw12_byteAt (c_byteAt (V := V1) k1 (by omega) hu hn hP.1 hP.2.2.1) rRcv rfl (Nat.le_of_ble_eq_true rfl) dX12_product_30 (by unfold dP; omega) ?_
        rintro _ _ ⟨rfl, rfl⟩
        refine j_bipush C (v := (nI 47)) dX12_product_33 (by decide) ?_
        refine j_icmp_eq C 51 dX12_product_35 (by decide) (fun c35 => ?_) (fun c35 => ?_)
        · skip
          refine j_aload_n C 0 dX12_product_51 rfl ?_
          refine j_aload_n C 0 dX12_product_52 rfl ?_
          refine rg C (v := .int (V1 8)) 8 (by decide) kf12_109 rfl dX12_product_53 ?_
          refine j_v (nI k1) hP.2.1 ?_
          refine j_callV (As := [.int (nI k1)]) (rest := []) C vw12_byteAt (c_byteAt (V := V1) k1 (by omega) hu hn hP.1 hP.2.2.1) rRcv rfl (Nat.le_of_ble_eq_true rfl) dX12_product_56 (by unfold dP; omega) ?_
          rintro _ _ ⟨rfl, rfl⟩
          refine j_istore_n C [(2, .int (bytF (txF row u) n k1)), (0, .ref o), (1, .int v)] dX12_product_59 (by decide) rfl ?_
          have hkl : k1 < n := byt_lt (b := txF row u) (by rw [c35]; decide)
          refine j_aload_n C 1 dX12_product_60 rfl ?_
          refine j_dup C dX12_product_61 rfl ?_
          refine rg C (v := .int (V1 8)) 8 (by decide) kf12_109 rfl dX12_product_62 ?_
          refine j_v (nI k1) hP.2.1 ?_
          refine j_iconst C (v := (nI 1)) dX12_product_65 (by decide) ?_
          refine j_iaddN C dX12_product_66 ?_
          refine rp_8 C kf12_109 dX12_product_67 ?_
          have hp5 := hP.sk (k1 + 1)
          have ve6 := VE.s2 hV 8 (nI (k1 + 1)) (by omega)
          refine j_aload_n C 1 dX12_product_70 rfl ?_
          refine j_callV (As := []) (rest := []) C vw12_factor (IH F (by omega) (upd V1 8 (nI (k1 + 1))) op (k1 + 1) cd hp5 (by omega) (by omega) (by omega)) rRcv rfl (Nat.le_of_ble_eq_true rfl) dX12_product_71 (by unfold dP; omega) ?_
          rintro r7 _ ⟨W7, hW7, hP7, hS7, rfl⟩
          obtain ⟨res7, hr7⟩ : ∃ x, x = prs (txF row u) n u F 5 false op (k1 + 1) cd := ⟨_, rfl⟩
          rw [← hr7] at hP7 hS7
          have hpr7 := prs_pr (b := txF row u) (n := n) (u := u) F 5 false op (k1 + 1) cd (by omega) (fun h => by cases h) (by omega)
          rw [← hr7] at hpr7
          have ve7 := hW7.tr ve6
          refine j_istore_n C [(3, .int r7), (2, .int (bytF (txF row u) n k1)), (0, .ref o), (1, .int v)] dX12_product_74 (by decide) rfl ?_
          refine j_iload_n C 1 dX12_product_75 rfl ?_
          refine j_bipush C (v := (nI 42)) dX12_product_76 (by decide) ?_
          refine j_icmp_ne C 87 dX12_product_78 (by decide) (fun c78 => ?_) (fun c78 => ?_)
          · skip
            refine j_iload_n C 0 dX12_product_87 rfl ?_
            refine j_if_ne C 95 dX12_product_88 (by decide) (fun c88 => ?_) (fun c88 => ?_)
            · skip
              refine j_iload_n C 1 dX12_product_95 rfl ?_
              refine j_bipush C (v := (nI 47)) dX12_product_96 (by decide) ?_
              refine j_icmp_ne C 107 dX12_product_98 (by decide) (fun c98 => ?_) (fun c98 => ?_)
              · skip
                exact absurd c35 c98
              · skip
                refine j_iload_n C 3 dX12_product_101 rfl ?_
                refine j_iload_n C 0 dX12_product_102 rfl ?_
                refine j_idiv C dX12_product_103 (by assumption) ?_
                refine j_goto C 110 dX12_product_104 (by decide) ?_
                refine j_istore_n C [(1, .int (v / r7)), (3, .int r7), (2, .int (bytF (txF row u) n k1)), (0, .ref o)] dX12_product_110 (by decide) rfl ?_
                refine j_goto C 5 dX12_product_111 (by decide) ?_
                rcases Bool.eq_false_or_eq_true res7.1 with hg7 | hg7
                · have hPt7 := g_t hP7 hg7
                  have hlt7 := hpr7.2.2 rfl hg7
                  refine j_L [3, 0] [(0, .ref o), (1, .int (v / r7))] rfl ?_
                  obtain ⟨seg2, hc2, hs2⟩ := hS7 hg7
                  have hj : joinF (bytF (txF row u) n k1) v r7 = (v / r7) := by rw [c35]; exact (join_47 v r7).trans (if_neg c88)
                  have hsj := hsg.join hs2 (sg := bytF (txF row u) n k1) (by rw [c35]; decide) (by rw [c35]; decide) (by rw [c35]; decide)
                  rw [hj] at hsj
                  exact ih (F, res7.2.1, res7.2.2 ++ [-(bytF (txF row u) n k1)], W7, (v / r7)) ⟨by dsimp only; omega, hpr7.2.1, by dsimp only; omega, ve7, hPt7, by dsimp only; rw [hE, prs_lt (lv_eq4 (Or.inr (Or.inl c35))) (by decide) (by rw [← hr7]; exact hg7), ← hr7], _, by dsimp only; rw [hc2, hcd, List.append_assoc, List.append_assoc, ← List.append_assoc seg], hsj⟩ (by dsimp only; omega)
                · skip
                  refine j_aload_n C 3 dX12_product_5 rfl ?_
                  refine rg C (v := .int (W7 14)) 14 (by decide) kf12_105 rfl dX12_product_6 ?_
                  refine j_v (nI 0) (g_0 hP7 hg7) ?_
                  refine j_if_eq C 114 dX12_product_9 (by decide) (fun c9 => ?_) (fun c9 => ?_)
                  · rw [show (0 : Int32) = nI 0 from rfl, nI_eq (by omega) (by omega)] at c9
                    refine j_iload_n C 0 dX12_product_114 rfl ?_
                    refine j_iret C dX12_product_115 ?_
                    rw [hE, prs_lf (lv_eq4 (Or.inr (Or.inl c35))) (by rw [← hr7]; exact hg7), ← hr7]
                    exact ⟨W7, ve7, hP7, fun h => (by rw [hg7] at h; cases h), rfl⟩
                  · rw [show (0 : Int32) = nI 0 from rfl, nI_eq (by omega) (by omega)] at c9
                    exfalso; omega
            · skip
              refine j_iconst C (v := (nI 0)) dX12_product_91 (by decide) ?_
              refine j_goto C 110 dX12_product_92 (by decide) ?_
              refine j_istore_n C [(1, .int (nI 0)), (3, .int r7), (2, .int (bytF (txF row u) n k1)), (0, .ref o)] dX12_product_110 (by decide) rfl ?_
              refine j_goto C 5 dX12_product_111 (by decide) ?_
              rcases Bool.eq_false_or_eq_true res7.1 with hg7 | hg7
              · have hPt7 := g_t hP7 hg7
                have hlt7 := hpr7.2.2 rfl hg7
                refine j_L [3, 0] [(0, .ref o), (1, .int (nI 0))] rfl ?_
                obtain ⟨seg2, hc2, hs2⟩ := hS7 hg7
                have hj : joinF (bytF (txF row u) n k1) v r7 = (nI 0) := by rw [c35]; exact (join_47 v r7).trans (if_pos c88)
                have hsj := hsg.join hs2 (sg := bytF (txF row u) n k1) (by rw [c35]; decide) (by rw [c35]; decide) (by rw [c35]; decide)
                rw [hj] at hsj
                exact ih (F, res7.2.1, res7.2.2 ++ [-(bytF (txF row u) n k1)], W7, (nI 0)) ⟨by dsimp only; omega, hpr7.2.1, by dsimp only; omega, ve7, hPt7, by dsimp only; rw [hE, prs_lt (lv_eq4 (Or.inr (Or.inl c35))) (by decide) (by rw [← hr7]; exact hg7), ← hr7], _, by dsimp only; rw [hc2, hcd, List.append_assoc, List.append_assoc, ← List.append_assoc seg], hsj⟩ (by dsimp only; omega)
              · skip
                refine j_aload_n C 3 dX12_product_5 rfl ?_
                refine rg C (v := .int (W7 14)) 14 (by decide) kf12_105 rfl dX12_product_6 ?_
                refine j_v (nI 0) (g_0 hP7 hg7) ?_
                refine j_if_eq C 114 dX12_product_9 (by decide) (fun c9 => ?_) (fun c9 => ?_)
                · rw [show (0 : Int32) = nI 0 from rfl, nI_eq (by omega) (by omega)] at c9
                  refine j_iload_n C 0 dX12_product_114 rfl ?_
                  refine j_iret C dX12_product_115 ?_
                  rw [hE, prs_lf (lv_eq4 (Or.inr (Or.inl c35))) (by rw [← hr7]; exact hg7), ← hr7]
                  exact ⟨W7, ve7, hP7, fun h => (by rw [hg7] at h; cases h), rfl⟩
                · rw [show (0 : Int32) = nI 0 from rfl, nI_eq (by omega) (by omega)] at c9
                  exfalso; omega
          · skip
            exact absurd c78 c22
        · skip
          refine j_aload_n C 0 dX12_product_38 rfl ?_
          refine j_aload_n C 0 dX12_product_39 rfl ?_
          refine rg C (v := .int (V1 8)) 8 (by decide) kf12_109 rfl dX12_product_40 ?_
          refine j_v (nI k1) hP.2.1 ?_
          refine j_callV (As := [.int (nI k1)]) (rest := []) C vw12_byteAt (c_byteAt (V := V1) k1 (by omega) hu hn hP.1 hP.2.2.1) rRcv rfl (Nat.le_of_ble_eq_true rfl) dX12_product_43 (by unfold dP; omega) ?_
          rintro _ _ ⟨rfl, rfl⟩
          refine j_bipush C (v := (nI 37)) dX12_product_46 (by decide) ?_
          refine j_icmp_ne C 114 dX12_product_48 (by decide) (fun c48 => ?_) (fun c48 => ?_)
          · skip
            refine j_iload_n C 1 dX12_product_114 rfl ?_
            refine j_iret C dX12_product_115 ?_
            rw [hE, prs_no (lv_ne4 c22 c35 c48)]
            exact ⟨V1, hV, hP, fun _ => ⟨seg, hcd, hsg⟩, rfl⟩
          · skip
            refine j_aload_n C 0 dX12_product_51 rfl ?_
            refine j_aload_n C 0 dX12_product_52 rfl ?_
            refine rg C (v := .int (V1 8)) 8 (by decide) kf12_109 rfl dX12_product_53 ?_
            refine j_v (nI k1) hP.2.1 ?_
            refine j_callV (As := [.int (nI k1)]) (rest := []) C vw12_byteAt (c_byteAt (V := V1) k1 (by omega) hu hn hP.1 hP.2.2.1) rRcv rfl (Nat.le_of_ble_eq_true rfl) dX12_product_56 (by unfold dP; omega) ?_
            rintro _ _ ⟨rfl, rfl⟩
            refine j_istore_n C [(2, .int (bytF (txF row u) n k1)), (0, .ref o), (1, .int v)] dX12_product_59 (by decide) rfl ?_
            have hkl : k1 < n := byt_lt (b := txF row u) (by rw [c48]; decide)
            refine j_aload_n C 1 dX12_product_60 rfl ?_
            refine j_dup C dX12_product_61 rfl ?_
            refine rg C (v := .int (V1 8)) 8 (by decide) kf12_109 rfl dX12_product_62 ?_
            refine j_v (nI k1) hP.2.1 ?_
            refine j_iconst C (v := (nI 1)) dX12_product_65 (by decide) ?_
            refine j_iaddN C dX12_product_66 ?_
            refine rp_8 C kf12_109 dX12_product_67 ?_
            have hp8 := hP.sk (k1 + 1)
            have ve9 := VE.s2 hV 8 (nI (k1 + 1)) (by omega)
            refine j_aload_n C 1 dX12_product_70 rfl ?_
            refine j_callV (As := []) (rest := []) C vw12_factor (IH F (by omega) (upd V1 8 (nI (k1 + 1))) op (k1 + 1) cd hp8 (by omega) (by omega) (by omega)) rRcv rfl (Nat.le_of_ble_eq_true rfl) dX12_product_71 (by unfold dP; omega) ?_
            rintro r10 _ ⟨W10, hW10, hP10, hS10, rfl⟩
            obtain ⟨res10, hr10⟩ : ∃ x, x = prs (txF row u) n u F 5 false op (k1 + 1) cd := ⟨_, rfl⟩
            rw [← hr10] at hP10 hS10
            have hpr10 := prs_pr (b := txF row u) (n := n) (u := u) F 5 false op (k1 + 1) cd (by omega) (fun h => by cases h) (by omega)
            rw [← hr10] at hpr10
            have ve10 := hW10.tr ve9
            refine j_istore_n C [(3, .int r10), (2, .int (bytF (txF row u) n k1)), (0, .ref o), (1, .int v)] dX12_product_74 (by decide) rfl ?_
            refine j_iload_n C 1 dX12_product_75 rfl ?_
            refine j_bipush C (v := (nI 42)) dX12_product_76 (by decide) ?_
            refine j_icmp_ne C 87 dX12_product_78 (by decide) (fun c78 => ?_) (fun c78 => ?_)
            · skip
              refine j_iload_n C 0 dX12_product_87 rfl ?_
              refine j_if_ne C 95 dX12_product_88 (by decide) (fun c88 => ?_) (fun c88 => ?_)
              · skip
                refine j_iload_n C 1 dX12_product_95 rfl ?_
                refine j_bipush C (v := (nI 47)) dX12_product_96 (by decide) ?_
                refine j_icmp_ne C 107 dX12_product_98 (by decide) (fun c98 => ?_) (fun c98 => ?_)
                · skip
                  refine j_iload_n C 3 dX12_product_107 rfl ?_
                  refine j_iload_n C 0 dX12_product_108 rfl ?_
                  refine j_irem C dX12_product_109 (by assumption) ?_
                  refine j_istore_n C [(1, .int (v - v / r10 * r10)), (3, .int r10), (2, .int (bytF (txF row u) n k1)), (0, .ref o)] dX12_product_110 (by decide) rfl ?_
                  refine j_goto C 5 dX12_product_111 (by decide) ?_
                  rcases Bool.eq_false_or_eq_true res10.1 with hg10 | hg10
                  · have hPt10 := g_t hP10 hg10
                    have hlt10 := hpr10.2.2 rfl hg10
                    refine j_L [3, 0] [(0, .ref o), (1, .int (v - v / r10 * r10))] rfl ?_
                    obtain ⟨seg2, hc2, hs2⟩ := hS10 hg10
                    have hj : joinF (bytF (txF row u) n k1) v r10 = (v - v / r10 * r10) := by rw [c48]; exact (join_37 v r10).trans (if_neg c88)
                    have hsj := hsg.join hs2 (sg := bytF (txF row u) n k1) (by rw [c48]; decide) (by rw [c48]; decide) (by rw [c48]; decide)
                    rw [hj] at hsj
                    exact ih (F, res10.2.1, res10.2.2 ++ [-(bytF (txF row u) n k1)], W10, (v - v / r10 * r10)) ⟨by dsimp only; omega, hpr10.2.1, by dsimp only; omega, ve10, hPt10, by dsimp only; rw [hE, prs_lt (lv_eq4 (Or.inr (Or.inr c48))) (by decide) (by rw [← hr10]; exact hg10), ← hr10], _, by dsimp only; rw [hc2, hcd, List.append_assoc, List.append_assoc, ← List.append_assoc seg], hsj⟩ (by dsimp only; omega)
                  · skip
                    refine j_aload_n C 3 dX12_product_5 rfl ?_
                    refine rg C (v := .int (W10 14)) 14 (by decide) kf12_105 rfl dX12_product_6 ?_
                    refine j_v (nI 0) (g_0 hP10 hg10) ?_
                    refine j_if_eq C 114 dX12_product_9 (by decide) (fun c9 => ?_) (fun c9 => ?_)
                    · rw [show (0 : Int32) = nI 0 from rfl, nI_eq (by omega) (by omega)] at c9
                      refine j_iload_n C 0 dX12_product_114 rfl ?_
                      refine j_iret C dX12_product_115 ?_
                      rw [hE, prs_lf (lv_eq4 (Or.inr (Or.inr c48))) (by rw [← hr10]; exact hg10), ← hr10]
                      exact ⟨W10, ve10, hP10, fun h => (by rw [hg10] at h; cases h), rfl⟩
                    · rw [show (0 : Int32) = nI 0 from rfl, nI_eq (by omega) (by omega)] at c9
                      exfalso; omega
                · skip
                  exact absurd c98 c35
              · skip
                refine j_iconst C (v := (nI 0)) dX12_product_91 (by decide) ?_
                refine j_goto C 110 dX12_product_92 (by decide) ?_
                refine j_istore_n C [(1, .int (nI 0)), (3, .int r10), (2, .int (bytF (txF row u) n k1)), (0, .ref o)] dX12_product_110 (by decide) rfl ?_
                refine j_goto C 5 dX12_product_111 (by decide) ?_
                rcases Bool.eq_false_or_eq_true res10.1 with hg10 | hg10
                · have hPt10 := g_t hP10 hg10
                  have hlt10 := hpr10.2.2 rfl hg10
                  refine j_L [3, 0] [(0, .ref o), (1, .int (nI 0))] rfl ?_
                  obtain ⟨seg2, hc2, hs2⟩ := hS10 hg10
                  have hj : joinF (bytF (txF row u) n k1) v r10 = (nI 0) := by rw [c48]; exact (join_37 v r10).trans (if_pos c88)
                  have hsj := hsg.join hs2 (sg := bytF (txF row u) n k1) (by rw [c48]; decide) (by rw [c48]; decide) (by rw [c48]; decide)
                  rw [hj] at hsj
                  exact ih (F, res10.2.1, res10.2.2 ++ [-(bytF (txF row u) n k1)], W10, (nI 0)) ⟨by dsimp only; omega, hpr10.2.1, by dsimp only; omega, ve10, hPt10, by dsimp only; rw [hE, prs_lt (lv_eq4 (Or.inr (Or.inr c48))) (by decide) (by rw [← hr10]; exact hg10), ← hr10], _, by dsimp only; rw [hc2, hcd, List.append_assoc, List.append_assoc, ← List.append_assoc seg], hsj⟩ (by dsimp only; omega)
                · skip
                  refine j_aload_n C 3 dX12_product_5 rfl ?_
                  refine rg C (v := .int (W10 14)) 14 (by decide) kf12_105 rfl dX12_product_6 ?_
                  refine j_v (nI 0) (g_0 hP10 hg10) ?_
                  refine j_if_eq C 114 dX12_product_9 (by decide) (fun c9 => ?_) (fun c9 => ?_)
                  · rw [show (0 : Int32) = nI 0 from rfl, nI_eq (by omega) (by omega)] at c9
                    refine j_iload_n C 0 dX12_product_114 rfl ?_
                    refine j_iret C dX12_product_115 ?_
                    rw [hE, prs_lf (lv_eq4 (Or.inr (Or.inr c48))) (by rw [← hr10]; exact hg10), ← hr10]
                    exact ⟨W10, ve10, hP10, fun h => (by rw [hg10] at h; cases h), rfl⟩
                  · rw [show (0 : Int32) = nI 0 from rfl, nI_eq (by omega) (by omega)] at c9
                    exfalso; omega
            · skip
              exact absurd c78 c22
  · skip
    refine j_aload_n C 1 dX12_product_5 rfl ?_
    refine rg C (v := .int (W1 14)) 14 (by decide) kf12_105 rfl dX12_product_6 ?_
    refine j_v (nI 0) (g_0 hP1 hg1) ?_
    refine j_if_eq C 114 dX12_product_9 (by decide) (fun c9 => ?_) (fun c9 => ?_)
    · rw [show (0 : Int32) = nI 0 from rfl, nI_eq (by omega) (by omega)] at c9
      refine j_iload_n C 0 dX12_product_114 rfl ?_
      refine j_iret C dX12_product_115 ?_
      rw [prs_uf (by decide) (by rw [← hr1]; exact hg1), ← hr1]
      exact ⟨W1, ve1, hP1, fun h => (by rw [hg1] at h; cases h), rfl⟩
    · rw [show (0 : Int32) = nI 0 from rfl, nI_eq (by omega) (by omega)] at c9
      exfalso; omega
theorem dX12_sum_0 : decode cX12_sum 0 = .ok (.aload_n 0, 1) := by decide +kernel
theorem dX12_sum_1 : decode cX12_sum 1 = .ok (.invokevirtual 146, 3) := by decide +kernel
theorem dX12_sum_4 : decode cX12_sum 4 = .ok (.istore_n 1, 1) := by decide +kernel
theorem dX12_sum_5 : decode cX12_sum 5 = .ok (.aload_n 0, 1) := by decide +kernel
theorem dX12_sum_6 : decode cX12_sum 6 = .ok (.getfield 105, 3) := by decide +kernel
theorem dX12_sum_9 : decode cX12_sum 9 = .ok (.ifCond .eq 72, 3) := by decide +kernel
theorem dX12_sum_12 : decode cX12_sum 12 = .ok (.aload_n 0, 1) := by decide +kernel
theorem dX12_sum_13 : decode cX12_sum 13 = .ok (.aload_n 0, 1) := by decide +kernel
theorem dX12_sum_14 : decode cX12_sum 14 = .ok (.getfield 109, 3) := by decide +kernel
theorem dX12_sum_17 : decode cX12_sum 17 = .ok (.invokevirtual 112, 3) := by decide +kernel
theorem dX12_sum_20 : decode cX12_sum 20 = .ok (.bipush 43, 2) := by decide +kernel
theorem dX12_sum_22 : decode cX12_sum 22 = .ok (.if_icmp .eq 16, 3) := by decide +kernel
theorem dX12_sum_25 : decode cX12_sum 25 = .ok (.aload_n 0, 1) := by decide +kernel
theorem dX12_sum_26 : decode cX12_sum 26 = .ok (.aload_n 0, 1) := by decide +kernel
theorem dX12_sum_27 : decode cX12_sum 27 = .ok (.getfield 109, 3) := by decide +kernel
theorem dX12_sum_30 : decode cX12_sum 30 = .ok (.invokevirtual 112, 3) := by decide +kernel
theorem dX12_sum_33 : decode cX12_sum 33 = .ok (.bipush 45, 2) := by decide +kernel
theorem dX12_sum_35 : decode cX12_sum 35 = .ok (.if_icmp .ne 46, 3) := by decide +kernel
theorem dX12_sum_38 : decode cX12_sum 38 = .ok (.aload_n 0, 1) := by decide +kernel
theorem dX12_sum_39 : decode cX12_sum 39 = .ok (.aload_n 0, 1) := by decide +kernel
theorem dX12_sum_40 : decode cX12_sum 40 = .ok (.getfield 109, 3) := by decide +kernel
theorem dX12_sum_43 : decode cX12_sum 43 = .ok (.invokevirtual 112, 3) := by decide +kernel
theorem dX12_sum_46 : decode cX12_sum 46 = .ok (.istore_n 2, 1) := by decide +kernel
theorem dX12_sum_47 : decode cX12_sum 47 = .ok (.aload_n 0, 1) := by decide +kernel
theorem dX12_sum_48 : decode cX12_sum 48 = .ok (.dup, 1) := by decide +kernel
theorem dX12_sum_49 : decode cX12_sum 49 = .ok (.getfield 109, 3) := by decide +kernel
theorem dX12_sum_52 : decode cX12_sum 52 = .ok (.iconst 1, 1) := by decide +kernel
theorem dX12_sum_53 : decode cX12_sum 53 = .ok (.iadd, 1) := by decide +kernel
theorem dX12_sum_54 : decode cX12_sum 54 = .ok (.putfield 109, 3) := by decide +kernel
theorem dX12_sum_57 : decode cX12_sum 57 = .ok (.aload_n 0, 1) := by decide +kernel
theorem dX12_sum_58 : decode cX12_sum 58 = .ok (.invokevirtual 146, 3) := by decide +kernel
theorem dX12_sum_61 : decode cX12_sum 61 = .ok (.istore_n 3, 1) := by decide +kernel
theorem dX12_sum_62 : decode cX12_sum 62 = .ok (.iload_n 2, 1) := by decide +kernel
theorem dX12_sum_63 : decode cX12_sum 63 = .ok (.bipush 43, 2) := by decide +kernel
theorem dX12_sum_65 : decode cX12_sum 65 = .ok (.if_icmp .ne 9, 3) := by decide +kernel
theorem dX12_sum_68 : decode cX12_sum 68 = .ok (.iload_n 1, 1) := by decide +kernel
theorem dX12_sum_69 : decode cX12_sum 69 = .ok (.iload_n 3, 1) := by decide +kernel
theorem dX12_sum_70 : decode cX12_sum 70 = .ok (.iadd, 1) := by decide +kernel
theorem dX12_sum_71 : decode cX12_sum 71 = .ok (.goto 6, 3) := by decide +kernel
theorem dX12_sum_74 : decode cX12_sum 74 = .ok (.iload_n 1, 1) := by decide +kernel
theorem dX12_sum_75 : decode cX12_sum 75 = .ok (.iload_n 3, 1) := by decide +kernel
theorem dX12_sum_76 : decode cX12_sum 76 = .ok (.isub, 1) := by decide +kernel
theorem dX12_sum_77 : decode cX12_sum 77 = .ok (.istore_n 1, 1) := by decide +kernel
theorem dX12_sum_78 : decode cX12_sum 78 = .ok (.goto (-73), 3) := by decide +kernel
theorem dX12_sum_81 : decode cX12_sum 81 = .ok (.iload_n 1, 1) := by decide +kernel
theorem dX12_sum_82 : decode cX12_sum 82 = .ok (.ireturn, 1) := by decide +kernel
set_option maxHeartbeats 2000000 in
set_option maxRecDepth 20000 in
theorem c_sum {l : Launch} {D : va_G} {cI cG cW : ClassId} {o : Nat} {q : Nat → Nat} {row kept tried bf fd pk bo so sh mv tr : Nat → Int32} {u n : Nat} {a b c : Int32} (hu : u ≤ 1) (hn : n ≤ 50) (f : Nat) (IH : ∀ f', f' < f → PC l D cI cG cW o q row kept tried bf fd pk bo so sh mv tr u n a b c yX12_product cX12_product 4 4 f') : PC l D cI cG cW o q row kept tried bf fd pk bo so sh mv tr u n a b c yX12_sum cX12_sum 4 3 f := by
  intro V op k code hp hop hk hf
  obtain ⟨f, rfl⟩ : ∃ f', f = f' + 1 := ⟨f - 1, by omega⟩
  refine Ci.of (by decide) (Nat.le_of_ble_eq_true rfl) ?_
  intro p_ e_ s_ m_ b_ M_ c_ A_ C
  replace C : Cx _ _ _ _ _ _ _ _ RX12 _ _ _ _ := C
  refine j_L [0] [(0, .ref o)] rfl ?_
  refine j_aload_n C 0 dX12_sum_0 rfl ?_
  refine j_callV (As := []) (rest := []) C vw12_product (IH f (by omega) V op k code hp (by omega) (by omega) (by omega)) rRcv rfl (Nat.le_of_ble_eq_true rfl) dX12_sum_1 (by unfold dP; omega) ?_
  rintro r1 _ ⟨W1, hW1, hP1, hS1, rfl⟩
  obtain ⟨res1, hr1⟩ : ∃ x, x = prs (txF row u) n u f 4 false op k code := ⟨_, rfl⟩
  rw [← hr1] at hP1 hS1
  have hpr1 := prs_pr (b := txF row u) (n := n) (u := u) f 4 false op k code (by omega) (fun h => by cases h) (by omega)
  rw [← hr1] at hpr1
  have ve1 := hW1.tr (VE.rf (V := V))
  refine j_istore_n C [(1, .int r1), (0, .ref o)] dX12_sum_4 (by decide) rfl ?_
  rcases Bool.eq_false_or_eq_true res1.1 with hg1 | hg1
  · have hPt1 := g_t hP1 hg1
    have hlt1 := hpr1.2.2 rfl hg1
    refine j_L [1, 0] [(0, .ref o), (1, .int r1)] rfl ?_
    refine j_loop (X := Nat × Nat × (List Int32) × (Nat → Int32) × Int32) (fun (z : Nat × Nat × (List Int32) × (Nat → Int32) × Int32) => match z with | (F, k1, cd, V1, v) => F ≤ f ∧ k1 ≤ n ∧ 8 * (n - k1) + (6 - 3) ≤ F ∧ VE V1 V ∧ Pst V1 u n op k1 a b c true ∧ prs (txF row u) n u (f + 1) 3 false op k code = prs (txF row u) n u F 3 true op k1 cd ∧ ∃ seg, cd = code ++ seg ∧ Seg a b c seg v) (fun (z : Nat × Nat × (List Int32) × (Nat → Int32) × Int32) => match z with | (F, k1, cd, V1, v) => F) (fun (z : Nat × Nat × (List Int32) × (Nat → Int32) × Int32) => match z with | (F, k1, cd, V1, v) => (sR V1 row kept tried bf fd pk bo so sh mv tr)) (fun (z : Nat × Nat × (List Int32) × (Nat → Int32) × Int32) => match z with | (F, k1, cd, V1, v) => [(0, .ref o), (1, .int v)]) (f, res1.2.1, res1.2.2, W1, r1) (⟨Nat.le_refl _, hpr1.2.1, by omega, ve1, hPt1, by rw [prs_ut (by decide) (by rw [← hr1]; exact hg1), ← hr1], hS1 hg1⟩) rfl rfl ?_
    rintro ⟨F, k1, cd, V1, v⟩ ⟨hF, hk1, hnd, hV, hP, hE, seg, hcd, hsg⟩ ih
    try dsimp only at ih ⊢
    obtain ⟨F, rfl⟩ : ∃ F', F = F' + 1 := ⟨F - 1, by omega⟩
    refine j_aload_n C 0 dX12_sum_5 rfl ?_
    refine rg C (v := .int (V1 14)) 14 (by decide) kf12_105 rfl dX12_sum_6 ?_
    refine j_v (nI 1) (g_1 hP) ?_
    refine j_if_eq C 81 dX12_sum_9 (by decide) (fun c9 => ?_) (fun c9 => ?_)
    · rw [show (0 : Int32) = nI 0 from rfl, nI_eq (by omega) (by omega)] at c9
      exfalso; omega
    · rw [show (0 : Int32) = nI 0 from rfl, nI_eq (by omega) (by omega)] at c9
      refine j_aload_n C 0 dX12_sum_12 rfl ?_
      refine j_aload_n C 0 dX12_sum_13 rfl ?_
      refine rg C (v := .int (V1 8)) 8 (by decide) kf12_109 rfl dX12_sum_14 ?_
      refine j_v (nI k1) hP.2.1 ?_
      refine j_callV (As := [.int (nI k1)]) (rest := []) C vw12_byteAt (c_byteAt (V := V1) k1 (by omega) hu hn hP.1 hP.2.2.1) rRcv rfl (Nat.le_of_ble_eq_true rfl) dX12_sum_17 (by unfold dP; omega) ?_
      rintro _ _ ⟨rfl, rfl⟩
      refine j_bipush C (v := (nI 43)) dX12_sum_20 (by decide) ?_
      refine j_icmp_eq C 38 dX12_sum_22 (by decide) (fun c22 => ?_) (fun c22 => ?_)
      · skip
        refine j_aload_n C 0 dX12_sum_38 rfl ?_
        refine j_aload_n C 0 dX12_sum_39 rfl ?_
        refine rg C (v := .int (V1 8)) 8 (by decide) kf12_109 rfl dX12_sum_40 ?_
        refine j_v (nI k1) hP.2.1 ?_
        refine j_callV (As := [.int (nI k1)]) (rest := []) C vw12_byteAt (c_byteAt (V := V1) k1 (by omega) hu hn hP.1 hP.2.2.1) rRcv rfl (Nat.le_of_ble_eq_true rfl) dX12_sum_43 (by unfold dP; omega) ?_
        rintro _ _ ⟨rfl, rfl⟩
        refine j_istore_n C [(2, .int (bytF (txF row u) n k1)), (0, .ref o), (1, .int v)] dX12_sum_46 (by decide) rfl ?_
        have hkl : k1 < n := byt_lt (b := txF row u) (by rw [c22]; decide)
        refine j_aload_n C 1 dX12_sum_47 rfl ?_
        refine j_dup C dX12_sum_48 rfl ?_
        refine rg C (v := .int (V1 8)) 8 (by decide) kf12_109 rfl dX12_sum_49 ?_
        refine j_v (nI k1) hP.2.1 ?_
        refine j_iconst C (v := (nI 1)) dX12_sum_52 (by decide) ?_
        refine j_iaddN C dX12_sum_53 ?_
        refine rp_8 C kf12_109 dX12_sum_54 ?_
        have hp2 := hP.sk (k1 + 1)
        have ve3 := VE.s2 hV 8 (nI (k1 + 1)) (by omega)
        refine j_aload_n C 1 dX12_sum_57 rfl ?_
        refine j_callV (As := []) (rest := []) C vw12_product (IH F (by omega) (upd V1 8 (nI (k1 + 1))) op (k1 + 1) cd hp2 (by omega) (by omega) (by omega)) rRcv rfl (Nat.le_of_ble_eq_true rfl) dX12_sum_58 (by unfold dP; omega) ?_
        rintro r4 _ ⟨W4, hW4, hP4, hS4, rfl⟩
        obtain ⟨res4, hr4⟩ : ∃ x, x = prs (txF row u) n u F 4 false op (k1 + 1) cd := ⟨_, rfl⟩
        rw [← hr4] at hP4 hS4
        have hpr4 := prs_pr (b := txF row u) (n := n) (u := u) F 4 false op (k1 + 1) cd (by omega) (fun h => by cases h) (by omega)
        rw [← hr4] at hpr4
        have ve4 := hW4.tr ve3
        refine j_istore_n C [(3, .int r4), (2, .int (bytF (txF row u) n k1)), (0, .ref o), (1, .int v)] dX12_sum_61 (by decide) rfl ?_
        refine j_iload_n C 1 dX12_sum_62 rfl ?_
        refine j_bipush C (v := (nI 43)) dX12_sum_63 (by decide) ?_
        refine j_icmp_ne C 74 dX12_sum_65 (by decide) (fun c65 => ?_) (fun c65 => ?_)
        · skip
          exact absurd c22 c65
        · skip
          refine j_iload_n C 3 dX12_sum_68 rfl ?_
          refine j_iload_n C 0 dX12_sum_69 rfl ?_
          refine j_iadd C dX12_sum_70 ?_
          refine j_goto C 77 dX12_sum_71 (by decide) ?_
          refine j_istore_n C [(1, .int (v + r4)), (3, .int r4), (2, .int (bytF (txF row u) n k1)), (0, .ref o)] dX12_sum_77 (by decide) rfl ?_
          refine j_goto C 5 dX12_sum_78 (by decide) ?_
          rcases Bool.eq_false_or_eq_true res4.1 with hg4 | hg4
          · have hPt4 := g_t hP4 hg4
            have hlt4 := hpr4.2.2 rfl hg4
            refine j_L [3, 0] [(0, .ref o), (1, .int (v + r4))] rfl ?_
            obtain ⟨seg2, hc2, hs2⟩ := hS4 hg4
            have hj : joinF (bytF (txF row u) n k1) v r4 = (v + r4) := by rw [c22]; exact join_43 v r4
            have hsj := hsg.join hs2 (sg := bytF (txF row u) n k1) (by rw [c22]; decide) (by rw [c22]; decide) (by rw [c22]; decide)
            rw [hj] at hsj
            exact ih (F, res4.2.1, res4.2.2 ++ [-(bytF (txF row u) n k1)], W4, (v + r4)) ⟨by dsimp only; omega, hpr4.2.1, by dsimp only; omega, ve4, hPt4, by dsimp only; rw [hE, prs_lt (lv_eq3 (Or.inl c22)) (by decide) (by rw [← hr4]; exact hg4), ← hr4], _, by dsimp only; rw [hc2, hcd, List.append_assoc, List.append_assoc, ← List.append_assoc seg], hsj⟩ (by dsimp only; omega)
          · skip
            refine j_aload_n C 3 dX12_sum_5 rfl ?_
            refine rg C (v := .int (W4 14)) 14 (by decide) kf12_105 rfl dX12_sum_6 ?_
            refine j_v (nI 0) (g_0 hP4 hg4) ?_
            refine j_if_eq C 81 dX12_sum_9 (by decide) (fun c9 => ?_) (fun c9 => ?_)
            · rw [show (0 : Int32) = nI 0 from rfl, nI_eq (by omega) (by omega)] at c9
              refine j_iload_n C 0 dX12_sum_81 rfl ?_
              refine j_iret C dX12_sum_82 ?_
              rw [hE, prs_lf (lv_eq3 (Or.inl c22)) (by rw [← hr4]; exact hg4), ← hr4]
              exact ⟨W4, ve4, hP4, fun h => (by rw [hg4] at h; cases h), rfl⟩
            · rw [show (0 : Int32) = nI 0 from rfl, nI_eq (by omega) (by omega)] at c9
              exfalso; omega
      · skip
        refine j_aload_n C 0 dX12_sum_25 rfl ?_
        refine j_aload_n C 0 dX12_sum_26 rfl ?_
        refine rg C (v := .int (V1 8)) 8 (by decide) kf12_109 rfl dX12_sum_27 ?_
        refine j_v (nI k1) hP.2.1 ?_
        refine j_callV (As := [.int (nI k1)]) (rest := []) C vw12_byteAt (c_byteAt (V := V1) k1 (by omega) hu hn hP.1 hP.2.2.1) rRcv rfl (Nat.le_of_ble_eq_true rfl) dX12_sum_30 (by unfold dP; omega) ?_
        rintro _ _ ⟨rfl, rfl⟩
        refine j_bipush C (v := (nI 45)) dX12_sum_33 (by decide) ?_
        refine j_icmp_ne C 81 dX12_sum_35 (by decide) (fun c35 => ?_) (fun c35 => ?_)
        · skip
          refine j_iload_n C 1 dX12_sum_81 rfl ?_
          refine j_iret C dX12_sum_82 ?_
          rw [hE, prs_no (lv_ne3 c22 c35)]
          exact ⟨V1, hV, hP, fun _ => ⟨seg, hcd, hsg⟩, rfl⟩
        · skip
          refine j_aload_n C 0 dX12_sum_38 rfl ?_
          refine j_aload_n C 0 dX12_sum_39 rfl ?_
          refine rg C (v := .int (V1 8)) 8 (by decide) kf12_109 rfl dX12_sum_40 ?_
          refine j_v (nI k1) hP.2.1 ?_
          refine j_callV (As := [.int (nI k1)]) (rest := []) C vw12_byteAt (c_byteAt (V := V1) k1 (by omega) hu hn hP.1 hP.2.2.1) rRcv rfl (Nat.le_of_ble_eq_true rfl) dX12_sum_43 (by unfold dP; omega) ?_
          rintro _ _ ⟨rfl, rfl⟩
          refine j_istore_n C [(2, .int (bytF (txF row u) n k1)), (0, .ref o), (1, .int v)] dX12_sum_46 (by decide) rfl ?_
          have hkl : k1 < n := byt_lt (b := txF row u) (by rw [c35]; decide)
          refine j_aload_n C 1 dX12_sum_47 rfl ?_
          refine j_dup C dX12_sum_48 rfl ?_
          refine rg C (v := .int (V1 8)) 8 (by decide) kf12_109 rfl dX12_sum_49 ?_
          refine j_v (nI k1) hP.2.1 ?_
          refine j_iconst C (v := (nI 1)) dX12_sum_52 (by decide) ?_
          refine j_iaddN C dX12_sum_53 ?_
          refine rp_8 C kf12_109 dX12_sum_54 ?_
          have hp5 := hP.sk (k1 + 1)
          have ve6 := VE.s2 hV 8 (nI (k1 + 1)) (by omega)
          refine j_aload_n C 1 dX12_sum_57 rfl ?_
          refine j_callV (As := []) (rest := []) C vw12_product (IH F (by omega) (upd V1 8 (nI (k1 + 1))) op (k1 + 1) cd hp5 (by omega) (by omega) (by omega)) rRcv rfl (Nat.le_of_ble_eq_true rfl) dX12_sum_58 (by unfold dP; omega) ?_
          rintro r7 _ ⟨W7, hW7, hP7, hS7, rfl⟩
          obtain ⟨res7, hr7⟩ : ∃ x, x = prs (txF row u) n u F 4 false op (k1 + 1) cd := ⟨_, rfl⟩
          rw [← hr7] at hP7 hS7
          have hpr7 := prs_pr (b := txF row u) (n := n) (u := u) F 4 false op (k1 + 1) cd (by omega) (fun h => by cases h) (by omega)
          rw [← hr7] at hpr7
          have ve7 := hW7.tr ve6
          refine j_istore_n C [(3, .int r7), (2, .int (bytF (txF row u) n k1)), (0, .ref o), (1, .int v)] dX12_sum_61 (by decide) rfl ?_
          refine j_iload_n C 1 dX12_sum_62 rfl ?_
          refine j_bipush C (v := (nI 43)) dX12_sum_63 (by decide) ?_
          refine j_icmp_ne C 74 dX12_sum_65 (by decide) (fun c65 => ?_) (fun c65 => ?_)
          · skip
            refine j_iload_n C 3 dX12_sum_74 rfl ?_
            refine j_iload_n C 0 dX12_sum_75 rfl ?_
            refine j_isub C dX12_sum_76 ?_
            refine j_istore_n C [(1, .int (v - r7)), (3, .int r7), (2, .int (bytF (txF row u) n k1)), (0, .ref o)] dX12_sum_77 (by decide) rfl ?_
            refine j_goto C 5 dX12_sum_78 (by decide) ?_
            rcases Bool.eq_false_or_eq_true res7.1 with hg7 | hg7
            · have hPt7 := g_t hP7 hg7
              have hlt7 := hpr7.2.2 rfl hg7
              refine j_L [3, 0] [(0, .ref o), (1, .int (v - r7))] rfl ?_
              obtain ⟨seg2, hc2, hs2⟩ := hS7 hg7
              have hj : joinF (bytF (txF row u) n k1) v r7 = (v - r7) := by rw [c35]; exact join_45 v r7
              have hsj := hsg.join hs2 (sg := bytF (txF row u) n k1) (by rw [c35]; decide) (by rw [c35]; decide) (by rw [c35]; decide)
              rw [hj] at hsj
              exact ih (F, res7.2.1, res7.2.2 ++ [-(bytF (txF row u) n k1)], W7, (v - r7)) ⟨by dsimp only; omega, hpr7.2.1, by dsimp only; omega, ve7, hPt7, by dsimp only; rw [hE, prs_lt (lv_eq3 (Or.inr c35)) (by decide) (by rw [← hr7]; exact hg7), ← hr7], _, by dsimp only; rw [hc2, hcd, List.append_assoc, List.append_assoc, ← List.append_assoc seg], hsj⟩ (by dsimp only; omega)
            · skip
              refine j_aload_n C 3 dX12_sum_5 rfl ?_
              refine rg C (v := .int (W7 14)) 14 (by decide) kf12_105 rfl dX12_sum_6 ?_
              refine j_v (nI 0) (g_0 hP7 hg7) ?_
              refine j_if_eq C 81 dX12_sum_9 (by decide) (fun c9 => ?_) (fun c9 => ?_)
              · rw [show (0 : Int32) = nI 0 from rfl, nI_eq (by omega) (by omega)] at c9
                refine j_iload_n C 0 dX12_sum_81 rfl ?_
                refine j_iret C dX12_sum_82 ?_
                rw [hE, prs_lf (lv_eq3 (Or.inr c35)) (by rw [← hr7]; exact hg7), ← hr7]
                exact ⟨W7, ve7, hP7, fun h => (by rw [hg7] at h; cases h), rfl⟩
              · rw [show (0 : Int32) = nI 0 from rfl, nI_eq (by omega) (by omega)] at c9
                exfalso; omega
          · skip
            exact absurd c65 c22
  · skip
    refine j_aload_n C 1 dX12_sum_5 rfl ?_
    refine rg C (v := .int (W1 14)) 14 (by decide) kf12_105 rfl dX12_sum_6 ?_
    refine j_v (nI 0) (g_0 hP1 hg1) ?_
    refine j_if_eq C 81 dX12_sum_9 (by decide) (fun c9 => ?_) (fun c9 => ?_)
    · rw [show (0 : Int32) = nI 0 from rfl, nI_eq (by omega) (by omega)] at c9
      refine j_iload_n C 0 dX12_sum_81 rfl ?_
      refine j_iret C dX12_sum_82 ?_
      rw [prs_uf (by decide) (by rw [← hr1]; exact hg1), ← hr1]
      exact ⟨W1, ve1, hP1, fun h => (by rw [hg1] at h; cases h), rfl⟩
    · rw [show (0 : Int32) = nI 0 from rfl, nI_eq (by omega) (by omega)] at c9
      exfalso; omega
theorem dX12_both_0 : decode cX12_both 0 = .ok (.aload_n 0, 1) := by decide +kernel
theorem dX12_both_1 : decode cX12_both 1 = .ok (.invokevirtual 152, 3) := by decide +kernel
theorem dX12_both_4 : decode cX12_both 4 = .ok (.istore_n 1, 1) := by decide +kernel
theorem dX12_both_5 : decode cX12_both 5 = .ok (.aload_n 0, 1) := by decide +kernel
theorem dX12_both_6 : decode cX12_both 6 = .ok (.getfield 105, 3) := by decide +kernel
theorem dX12_both_9 : decode cX12_both 9 = .ok (.ifCond .eq 48, 3) := by decide +kernel
theorem dX12_both_12 : decode cX12_both 12 = .ok (.aload_n 0, 1) := by decide +kernel
theorem dX12_both_13 : decode cX12_both 13 = .ok (.aload_n 0, 1) := by decide +kernel
theorem dX12_both_14 : decode cX12_both 14 = .ok (.getfield 109, 3) := by decide +kernel
theorem dX12_both_17 : decode cX12_both 17 = .ok (.invokevirtual 112, 3) := by decide +kernel
theorem dX12_both_20 : decode cX12_both 20 = .ok (.bipush 38, 2) := by decide +kernel
theorem dX12_both_22 : decode cX12_both 22 = .ok (.if_icmp .ne 35, 3) := by decide +kernel
theorem dX12_both_25 : decode cX12_both 25 = .ok (.aload_n 0, 1) := by decide +kernel
theorem dX12_both_26 : decode cX12_both 26 = .ok (.dup, 1) := by decide +kernel
theorem dX12_both_27 : decode cX12_both 27 = .ok (.getfield 109, 3) := by decide +kernel
theorem dX12_both_30 : decode cX12_both 30 = .ok (.iconst 1, 1) := by decide +kernel
theorem dX12_both_31 : decode cX12_both 31 = .ok (.iadd, 1) := by decide +kernel
theorem dX12_both_32 : decode cX12_both 32 = .ok (.putfield 109, 3) := by decide +kernel
theorem dX12_both_35 : decode cX12_both 35 = .ok (.aload_n 0, 1) := by decide +kernel
theorem dX12_both_36 : decode cX12_both 36 = .ok (.invokevirtual 152, 3) := by decide +kernel
theorem dX12_both_39 : decode cX12_both 39 = .ok (.istore_n 2, 1) := by decide +kernel
theorem dX12_both_40 : decode cX12_both 40 = .ok (.iload_n 1, 1) := by decide +kernel
theorem dX12_both_41 : decode cX12_both 41 = .ok (.ifCond .eq 11, 3) := by decide +kernel
theorem dX12_both_44 : decode cX12_both 44 = .ok (.iload_n 2, 1) := by decide +kernel
theorem dX12_both_45 : decode cX12_both 45 = .ok (.ifCond .eq 7, 3) := by decide +kernel
theorem dX12_both_48 : decode cX12_both 48 = .ok (.iconst 1, 1) := by decide +kernel
theorem dX12_both_49 : decode cX12_both 49 = .ok (.goto 4, 3) := by decide +kernel
theorem dX12_both_52 : decode cX12_both 52 = .ok (.iconst 0, 1) := by decide +kernel
theorem dX12_both_53 : decode cX12_both 53 = .ok (.istore_n 1, 1) := by decide +kernel
theorem dX12_both_54 : decode cX12_both 54 = .ok (.goto (-49), 3) := by decide +kernel
theorem dX12_both_57 : decode cX12_both 57 = .ok (.iload_n 1, 1) := by decide +kernel
theorem dX12_both_58 : decode cX12_both 58 = .ok (.ireturn, 1) := by decide +kernel
set_option maxHeartbeats 2000000 in
set_option maxRecDepth 20000 in
theorem c_both {l : Launch} {D : va_G} {cI cG cW : ClassId} {o : Nat} {q : Nat → Nat} {row kept tried bf fd pk bo so sh mv tr : Nat → Int32} {u n : Nat} {a b c : Int32} (hu : u ≤ 1) (hn : n ≤ 50) (f : Nat) (IH : ∀ f', f' < f → PC l D cI cG cW o q row kept tried bf fd pk bo so sh mv tr u n a b c yX12_compared cX12_compared 5 2 f') : PC l D cI cG cW o q row kept tried bf fd pk bo so sh mv tr u n a b c yX12_both cX12_both 3 1 f := by
  intro V op k code hp hop hk hf
  obtain ⟨f, rfl⟩ : ∃ f', f = f' + 1 := ⟨f - 1, by omega⟩
  refine Ci.of (by decide) (Nat.le_of_ble_eq_true rfl) ?_
  intro p_ e_ s_ m_ b_ M_ c_ A_ C
  replace C : Cx _ _ _ _ _ _ _ _ RX12 _ _ _ _ := C
  refine j_L [0] [(0, .ref o)] rfl ?_
  refine j_aload_n C 0 dX12_both_0 rfl ?_
  refine j_callV (As := []) (rest := []) C vw12_compared (IH f (by omega) V op k code hp (by omega) (by omega) (by omega)) rRcv rfl (Nat.le_of_ble_eq_true rfl) dX12_both_1 (by unfold dP; omega) ?_
  rintro r1 _ ⟨W1, hW1, hP1, hS1, rfl⟩
  obtain ⟨res1, hr1⟩ : ∃ x, x = prs (txF row u) n u f 2 false op k code := ⟨_, rfl⟩
  rw [← hr1] at hP1 hS1
  have hpr1 := prs_pr (b := txF row u) (n := n) (u := u) f 2 false op k code (by omega) (fun h => by cases h) (by omega)
  rw [← hr1] at hpr1
  have ve1 := hW1.tr (VE.rf (V := V))
  refine j_istore_n C [(1, .int r1), (0, .ref o)] dX12_both_4 (by decide) rfl ?_
  rcases Bool.eq_false_or_eq_true res1.1 with hg1 | hg1
  · have hPt1 := g_t hP1 hg1
    have hlt1 := hpr1.2.2 rfl hg1
    refine j_L [1, 0] [(0, .ref o), (1, .int r1)] rfl ?_
    refine j_loop (X := Nat × Nat × (List Int32) × (Nat → Int32) × Int32) (fun (z : Nat × Nat × (List Int32) × (Nat → Int32) × Int32) => match z with | (F, k1, cd, V1, v) => F ≤ f ∧ k1 ≤ n ∧ 8 * (n - k1) + (6 - 1) ≤ F ∧ VE V1 V ∧ Pst V1 u n op k1 a b c true ∧ prs (txF row u) n u (f + 1) 1 false op k code = prs (txF row u) n u F 1 true op k1 cd ∧ ∃ seg, cd = code ++ seg ∧ Seg a b c seg v) (fun (z : Nat × Nat × (List Int32) × (Nat → Int32) × Int32) => match z with | (F, k1, cd, V1, v) => F) (fun (z : Nat × Nat × (List Int32) × (Nat → Int32) × Int32) => match z with | (F, k1, cd, V1, v) => (sR V1 row kept tried bf fd pk bo so sh mv tr)) (fun (z : Nat × Nat × (List Int32) × (Nat → Int32) × Int32) => match z with | (F, k1, cd, V1, v) => [(0, .ref o), (1, .int v)]) (f, res1.2.1, res1.2.2, W1, r1) (⟨Nat.le_refl _, hpr1.2.1, by omega, ve1, hPt1, by rw [prs_ut (by decide) (by rw [← hr1]; exact hg1), ← hr1], hS1 hg1⟩) rfl rfl ?_
    rintro ⟨F, k1, cd, V1, v⟩ ⟨hF, hk1, hnd, hV, hP, hE, seg, hcd, hsg⟩ ih
    try dsimp only at ih ⊢
    obtain ⟨F, rfl⟩ : ∃ F', F = F' + 1 := ⟨F - 1, by omega⟩
    refine j_aload_n C 0 dX12_both_5 rfl ?_
    refine rg C (v := .int (V1 14)) 14 (by decide) kf12_105 rfl dX12_both_6 ?_
    refine j_v (nI 1) (g_1 hP) ?_
    refine j_if_eq C 57 dX12_both_9 (by decide) (fun c9 => ?_) (fun c9 => ?_)
    · rw [show (0 : Int32) = nI 0 from rfl, nI_eq (by omega) (by omega)] at c9
      exfalso; omega
    · rw [show (0 : Int32) = nI 0 from rfl, nI_eq (by omega) (by omega)] at c9
      refine j_aload_n C 0 dX12_both_12 rfl ?_
      refine j_aload_n C 0 dX12_both_13 rfl ?_
      refine rg C (v := .int (V1 8)) 8 (by decide) kf12_109 rfl dX12_both_14 ?_
      refine j_v (nI k1) hP.2.1 ?_
      refine j_callV (As := [.int (nI k1)]) (rest := []) C vw12_byteAt (c_byteAt (V := V1) k1 (by omega) hu hn hP.1 hP.2.2.1) rRcv rfl (Nat.le_of_ble_eq_true rfl) dX12_both_17 (by unfold dP; omega) ?_
      rintro _ _ ⟨rfl, rfl⟩
      refine j_bipush C (v := (nI 38)) dX12_both_20 (by decide) ?_
      refine j_icmp_ne C 57 dX12_both_22 (by decide) (fun c22 => ?_) (fun c22 => ?_)
      · skip
        refine j_iload_n C 1 dX12_both_57 rfl ?_
        refine j_iret C dX12_both_58 ?_
        rw [hE, prs_no (lv_ne1 c22)]
        exact ⟨V1, hV, hP, fun _ => ⟨seg, hcd, hsg⟩, rfl⟩
      · skip
        have hkl : k1 < n := byt_lt (b := txF row u) (by rw [c22]; decide)
        refine j_aload_n C 0 dX12_both_25 rfl ?_
        refine j_dup C dX12_both_26 rfl ?_
        refine rg C (v := .int (V1 8)) 8 (by decide) kf12_109 rfl dX12_both_27 ?_
        refine j_v (nI k1) hP.2.1 ?_
        refine j_iconst C (v := (nI 1)) dX12_both_30 (by decide) ?_
        refine j_iaddN C dX12_both_31 ?_
        refine rp_8 C kf12_109 dX12_both_32 ?_
        have hp2 := hP.sk (k1 + 1)
        have ve3 := VE.s2 hV 8 (nI (k1 + 1)) (by omega)
        refine j_aload_n C 0 dX12_both_35 rfl ?_
        refine j_callV (As := []) (rest := []) C vw12_compared (IH F (by omega) (upd V1 8 (nI (k1 + 1))) op (k1 + 1) cd hp2 (by omega) (by omega) (by omega)) rRcv rfl (Nat.le_of_ble_eq_true rfl) dX12_both_36 (by unfold dP; omega) ?_
        rintro r4 _ ⟨W4, hW4, hP4, hS4, rfl⟩
        obtain ⟨res4, hr4⟩ : ∃ x, x = prs (txF row u) n u F 2 false op (k1 + 1) cd := ⟨_, rfl⟩
        rw [← hr4] at hP4 hS4
        have hpr4 := prs_pr (b := txF row u) (n := n) (u := u) F 2 false op (k1 + 1) cd (by omega) (fun h => by cases h) (by omega)
        rw [← hr4] at hpr4
        have ve4 := hW4.tr ve3
        refine j_istore_n C [(2, .int r4), (0, .ref o), (1, .int v)] dX12_both_39 (by decide) rfl ?_
        refine j_iload_n C 2 dX12_both_40 rfl ?_
        refine j_if_eq C 52 dX12_both_41 (by decide) (fun c41 => ?_) (fun c41 => ?_)
        · skip
          refine j_iconst C (v := (nI 0)) dX12_both_52 (by decide) ?_
          refine j_istore_n C [(1, .int (nI 0)), (2, .int r4), (0, .ref o)] dX12_both_53 (by decide) rfl ?_
          refine j_goto C 5 dX12_both_54 (by decide) ?_
          rcases Bool.eq_false_or_eq_true res4.1 with hg4 | hg4
          · have hPt4 := g_t hP4 hg4
            have hlt4 := hpr4.2.2 rfl hg4
            refine j_L [2, 0] [(0, .ref o), (1, .int (nI 0))] rfl ?_
            obtain ⟨seg2, hc2, hs2⟩ := hS4 hg4
            have hj : joinF (bytF (txF row u) n k1) v r4 = (nI 0) := by rw [c22]; exact (join_38 v r4).trans (bI0 (fun h => h.1 c41)).symm
            have hsj := hsg.join hs2 (sg := bytF (txF row u) n k1) (by rw [c22]; decide) (by rw [c22]; decide) (by rw [c22]; decide)
            rw [hj] at hsj
            exact ih (F, res4.2.1, res4.2.2 ++ [-(bytF (txF row u) n k1)], W4, (nI 0)) ⟨by dsimp only; omega, hpr4.2.1, by dsimp only; omega, ve4, hPt4, by dsimp only; rw [hE, prs_lt (lv_eq1 c22) (by decide) (by rw [← hr4]; exact hg4), ← hr4], _, by dsimp only; rw [hc2, hcd, List.append_assoc, List.append_assoc, ← List.append_assoc seg], hsj⟩ (by dsimp only; omega)
          · skip
            refine j_aload_n C 2 dX12_both_5 rfl ?_
            refine rg C (v := .int (W4 14)) 14 (by decide) kf12_105 rfl dX12_both_6 ?_
            refine j_v (nI 0) (g_0 hP4 hg4) ?_
            refine j_if_eq C 57 dX12_both_9 (by decide) (fun c9 => ?_) (fun c9 => ?_)
            · rw [show (0 : Int32) = nI 0 from rfl, nI_eq (by omega) (by omega)] at c9
              refine j_iload_n C 0 dX12_both_57 rfl ?_
              refine j_iret C dX12_both_58 ?_
              rw [hE, prs_lf (lv_eq1 c22) (by rw [← hr4]; exact hg4), ← hr4]
              exact ⟨W4, ve4, hP4, fun h => (by rw [hg4] at h; cases h), rfl⟩
            · rw [show (0 : Int32) = nI 0 from rfl, nI_eq (by omega) (by omega)] at c9
              exfalso; omega
        · skip
          refine j_iload_n C 0 dX12_both_44 rfl ?_
          refine j_if_eq C 52 dX12_both_45 (by decide) (fun c45 => ?_) (fun c45 => ?_)
          · skip
            refine j_iconst C (v := (nI 0)) dX12_both_52 (by decide) ?_
            refine j_istore_n C [(1, .int (nI 0)), (2, .int r4), (0, .ref o)] dX12_both_53 (by decide) rfl ?_
            refine j_goto C 5 dX12_both_54 (by decide) ?_
            rcases Bool.eq_false_or_eq_true res4.1 with hg4 | hg4
            · have hPt4 := g_t hP4 hg4
              have hlt4 := hpr4.2.2 rfl hg4
              refine j_L [2, 0] [(0, .ref o), (1, .int (nI 0))] rfl ?_
              obtain ⟨seg2, hc2, hs2⟩ := hS4 hg4
              have hj : joinF (bytF (txF row u) n k1) v r4 = (nI 0) := by rw [c22]; exact (join_38 v r4).trans (bI0 (fun h => h.2 c45)).symm
              have hsj := hsg.join hs2 (sg := bytF (txF row u) n k1) (by rw [c22]; decide) (by rw [c22]; decide) (by rw [c22]; decide)
              rw [hj] at hsj
              exact ih (F, res4.2.1, res4.2.2 ++ [-(bytF (txF row u) n k1)], W4, (nI 0)) ⟨by dsimp only; omega, hpr4.2.1, by dsimp only; omega, ve4, hPt4, by dsimp only; rw [hE, prs_lt (lv_eq1 c22) (by decide) (by rw [← hr4]; exact hg4), ← hr4], _, by dsimp only; rw [hc2, hcd, List.append_assoc, List.append_assoc, ← List.append_assoc seg], hsj⟩ (by dsimp only; omega)
            · skip
              refine j_aload_n C 2 dX12_both_5 rfl ?_
              refine rg C (v := .int (W4 14)) 14 (by decide) kf12_105 rfl dX12_both_6 ?_
              refine j_v (nI 0) (g_0 hP4 hg4) ?_
              refine j_if_eq C 57 dX12_both_9 (by decide) (fun c9 => ?_) (fun c9 => ?_)
              · rw [show (0 : Int32) = nI 0 from rfl, nI_eq (by omega) (by omega)] at c9
                refine j_iload_n C 0 dX12_both_57 rfl ?_
                refine j_iret C dX12_both_58 ?_
                rw [hE, prs_lf (lv_eq1 c22) (by rw [← hr4]; exact hg4), ← hr4]
                exact ⟨W4, ve4, hP4, fun h => (by rw [hg4] at h; cases h), rfl⟩
              · rw [show (0 : Int32) = nI 0 from rfl, nI_eq (by omega) (by omega)] at c9
                exfalso; omega
          · skip
            refine j_iconst C (v := (nI 1)) dX12_both_48 (by decide) ?_
            refine j_goto C 53 dX12_both_49 (by decide) ?_
            refine j_istore_n C [(1, .int (nI 1)), (2, .int r4), (0, .ref o)] dX12_both_53 (by decide) rfl ?_
            refine j_goto C 5 dX12_both_54 (by decide) ?_
            rcases Bool.eq_false_or_eq_true res4.1 with hg4 | hg4
            · have hPt4 := g_t hP4 hg4
              have hlt4 := hpr4.2.2 rfl hg4
              refine j_L [2, 0] [(0, .ref o), (1, .int (nI 1))] rfl ?_
              obtain ⟨seg2, hc2, hs2⟩ := hS4 hg4
              have hj : joinF (bytF (txF row u) n k1) v r4 = (nI 1) := by rw [c22]; exact (join_38 v r4).trans (bI1 ⟨c41, c45⟩).symm
              have hsj := hsg.join hs2 (sg := bytF (txF row u) n k1) (by rw [c22]; decide) (by rw [c22]; decide) (by rw [c22]; decide)
              rw [hj] at hsj
              exact ih (F, res4.2.1, res4.2.2 ++ [-(bytF (txF row u) n k1)], W4, (nI 1)) ⟨by dsimp only; omega, hpr4.2.1, by dsimp only; omega, ve4, hPt4, by dsimp only; rw [hE, prs_lt (lv_eq1 c22) (by decide) (by rw [← hr4]; exact hg4), ← hr4], _, by dsimp only; rw [hc2, hcd, List.append_assoc, List.append_assoc, ← List.append_assoc seg], hsj⟩ (by dsimp only; omega)
            · skip
              refine j_aload_n C 2 dX12_both_5 rfl ?_
              refine rg C (v := .int (W4 14)) 14 (by decide) kf12_105 rfl dX12_both_6 ?_
              refine j_v (nI 0) (g_0 hP4 hg4) ?_
              refine j_if_eq C 57 dX12_both_9 (by decide) (fun c9 => ?_) (fun c9 => ?_)
              · rw [show (0 : Int32) = nI 0 from rfl, nI_eq (by omega) (by omega)] at c9
                refine j_iload_n C 0 dX12_both_57 rfl ?_
                refine j_iret C dX12_both_58 ?_
                rw [hE, prs_lf (lv_eq1 c22) (by rw [← hr4]; exact hg4), ← hr4]
                exact ⟨W4, ve4, hP4, fun h => (by rw [hg4] at h; cases h), rfl⟩
              · rw [show (0 : Int32) = nI 0 from rfl, nI_eq (by omega) (by omega)] at c9
                exfalso; omega
  · skip
    refine j_aload_n C 1 dX12_both_5 rfl ?_
    refine rg C (v := .int (W1 14)) 14 (by decide) kf12_105 rfl dX12_both_6 ?_
    refine j_v (nI 0) (g_0 hP1 hg1) ?_
    refine j_if_eq C 57 dX12_both_9 (by decide) (fun c9 => ?_) (fun c9 => ?_)
    · rw [show (0 : Int32) = nI 0 from rfl, nI_eq (by omega) (by omega)] at c9
      refine j_iload_n C 0 dX12_both_57 rfl ?_
      refine j_iret C dX12_both_58 ?_
      rw [prs_uf (by decide) (by rw [← hr1]; exact hg1), ← hr1]
      exact ⟨W1, ve1, hP1, fun h => (by rw [hg1] at h; cases h), rfl⟩
    · rw [show (0 : Int32) = nI 0 from rfl, nI_eq (by omega) (by omega)] at c9
      exfalso; omega
theorem dX12_whole_0 : decode cX12_whole 0 = .ok (.aload_n 0, 1) := by decide +kernel
theorem dX12_whole_1 : decode cX12_whole 1 = .ok (.invokevirtual 155, 3) := by decide +kernel
theorem dX12_whole_4 : decode cX12_whole 4 = .ok (.istore_n 1, 1) := by decide +kernel
theorem dX12_whole_5 : decode cX12_whole 5 = .ok (.aload_n 0, 1) := by decide +kernel
theorem dX12_whole_6 : decode cX12_whole 6 = .ok (.getfield 105, 3) := by decide +kernel
theorem dX12_whole_9 : decode cX12_whole 9 = .ok (.ifCond .eq 48, 3) := by decide +kernel
theorem dX12_whole_12 : decode cX12_whole 12 = .ok (.aload_n 0, 1) := by decide +kernel
theorem dX12_whole_13 : decode cX12_whole 13 = .ok (.aload_n 0, 1) := by decide +kernel
theorem dX12_whole_14 : decode cX12_whole 14 = .ok (.getfield 109, 3) := by decide +kernel
theorem dX12_whole_17 : decode cX12_whole 17 = .ok (.invokevirtual 112, 3) := by decide +kernel
theorem dX12_whole_20 : decode cX12_whole 20 = .ok (.bipush 124, 2) := by decide +kernel
theorem dX12_whole_22 : decode cX12_whole 22 = .ok (.if_icmp .ne 35, 3) := by decide +kernel
theorem dX12_whole_25 : decode cX12_whole 25 = .ok (.aload_n 0, 1) := by decide +kernel
theorem dX12_whole_26 : decode cX12_whole 26 = .ok (.dup, 1) := by decide +kernel
theorem dX12_whole_27 : decode cX12_whole 27 = .ok (.getfield 109, 3) := by decide +kernel
theorem dX12_whole_30 : decode cX12_whole 30 = .ok (.iconst 1, 1) := by decide +kernel
theorem dX12_whole_31 : decode cX12_whole 31 = .ok (.iadd, 1) := by decide +kernel
theorem dX12_whole_32 : decode cX12_whole 32 = .ok (.putfield 109, 3) := by decide +kernel
theorem dX12_whole_35 : decode cX12_whole 35 = .ok (.aload_n 0, 1) := by decide +kernel
theorem dX12_whole_36 : decode cX12_whole 36 = .ok (.invokevirtual 155, 3) := by decide +kernel
theorem dX12_whole_39 : decode cX12_whole 39 = .ok (.istore_n 2, 1) := by decide +kernel
theorem dX12_whole_40 : decode cX12_whole 40 = .ok (.iload_n 1, 1) := by decide +kernel
theorem dX12_whole_41 : decode cX12_whole 41 = .ok (.ifCond .ne 7, 3) := by decide +kernel
theorem dX12_whole_44 : decode cX12_whole 44 = .ok (.iload_n 2, 1) := by decide +kernel
theorem dX12_whole_45 : decode cX12_whole 45 = .ok (.ifCond .eq 7, 3) := by decide +kernel
theorem dX12_whole_48 : decode cX12_whole 48 = .ok (.iconst 1, 1) := by decide +kernel
theorem dX12_whole_49 : decode cX12_whole 49 = .ok (.goto 4, 3) := by decide +kernel
theorem dX12_whole_52 : decode cX12_whole 52 = .ok (.iconst 0, 1) := by decide +kernel
theorem dX12_whole_53 : decode cX12_whole 53 = .ok (.istore_n 1, 1) := by decide +kernel
theorem dX12_whole_54 : decode cX12_whole 54 = .ok (.goto (-49), 3) := by decide +kernel
theorem dX12_whole_57 : decode cX12_whole 57 = .ok (.iload_n 1, 1) := by decide +kernel
theorem dX12_whole_58 : decode cX12_whole 58 = .ok (.ireturn, 1) := by decide +kernel
set_option maxHeartbeats 2000000 in
set_option maxRecDepth 20000 in
theorem c_whole {l : Launch} {D : va_G} {cI cG cW : ClassId} {o : Nat} {q : Nat → Nat} {row kept tried bf fd pk bo so sh mv tr : Nat → Int32} {u n : Nat} {a b c : Int32} (hu : u ≤ 1) (hn : n ≤ 50) (f : Nat) (IH : ∀ f', f' < f → PC l D cI cG cW o q row kept tried bf fd pk bo so sh mv tr u n a b c yX12_both cX12_both 3 1 f') : PC l D cI cG cW o q row kept tried bf fd pk bo so sh mv tr u n a b c yX12_whole cX12_whole 3 0 f := by
  intro V op k code hp hop hk hf
  obtain ⟨f, rfl⟩ : ∃ f', f = f' + 1 := ⟨f - 1, by omega⟩
  refine Ci.of (by decide) (Nat.le_of_ble_eq_true rfl) ?_
  intro p_ e_ s_ m_ b_ M_ c_ A_ C
  replace C : Cx _ _ _ _ _ _ _ _ RX12 _ _ _ _ := C
  refine j_L [0] [(0, .ref o)] rfl ?_
  refine j_aload_n C 0 dX12_whole_0 rfl ?_
  refine j_callV (As := []) (rest := []) C vw12_both (IH f (by omega) V op k code hp (by omega) (by omega) (by omega)) rRcv rfl (Nat.le_of_ble_eq_true rfl) dX12_whole_1 (by unfold dP; omega) ?_
  rintro r1 _ ⟨W1, hW1, hP1, hS1, rfl⟩
  obtain ⟨res1, hr1⟩ : ∃ x, x = prs (txF row u) n u f 1 false op k code := ⟨_, rfl⟩
  rw [← hr1] at hP1 hS1
  have hpr1 := prs_pr (b := txF row u) (n := n) (u := u) f 1 false op k code (by omega) (fun h => by cases h) (by omega)
  rw [← hr1] at hpr1
  have ve1 := hW1.tr (VE.rf (V := V))
  refine j_istore_n C [(1, .int r1), (0, .ref o)] dX12_whole_4 (by decide) rfl ?_
  rcases Bool.eq_false_or_eq_true res1.1 with hg1 | hg1
  · have hPt1 := g_t hP1 hg1
    have hlt1 := hpr1.2.2 rfl hg1
    refine j_L [1, 0] [(0, .ref o), (1, .int r1)] rfl ?_
    refine j_loop (X := Nat × Nat × (List Int32) × (Nat → Int32) × Int32) (fun (z : Nat × Nat × (List Int32) × (Nat → Int32) × Int32) => match z with | (F, k1, cd, V1, v) => F ≤ f ∧ k1 ≤ n ∧ 8 * (n - k1) + (6 - 0) ≤ F ∧ VE V1 V ∧ Pst V1 u n op k1 a b c true ∧ prs (txF row u) n u (f + 1) 0 false op k code = prs (txF row u) n u F 0 true op k1 cd ∧ ∃ seg, cd = code ++ seg ∧ Seg a b c seg v) (fun (z : Nat × Nat × (List Int32) × (Nat → Int32) × Int32) => match z with | (F, k1, cd, V1, v) => F) (fun (z : Nat × Nat × (List Int32) × (Nat → Int32) × Int32) => match z with | (F, k1, cd, V1, v) => (sR V1 row kept tried bf fd pk bo so sh mv tr)) (fun (z : Nat × Nat × (List Int32) × (Nat → Int32) × Int32) => match z with | (F, k1, cd, V1, v) => [(0, .ref o), (1, .int v)]) (f, res1.2.1, res1.2.2, W1, r1) (⟨Nat.le_refl _, hpr1.2.1, by omega, ve1, hPt1, by rw [prs_ut (by decide) (by rw [← hr1]; exact hg1), ← hr1], hS1 hg1⟩) rfl rfl ?_
    rintro ⟨F, k1, cd, V1, v⟩ ⟨hF, hk1, hnd, hV, hP, hE, seg, hcd, hsg⟩ ih
    try dsimp only at ih ⊢
    obtain ⟨F, rfl⟩ : ∃ F', F = F' + 1 := ⟨F - 1, by omega⟩
    refine j_aload_n C 0 dX12_whole_5 rfl ?_
    refine rg C (v := .int (V1 14)) 14 (by decide) kf12_105 rfl dX12_whole_6 ?_
    refine j_v (nI 1) (g_1 hP) ?_
    refine j_if_eq C 57 dX12_whole_9 (by decide) (fun c9 => ?_) (fun c9 => ?_)
    · rw [show (0 : Int32) = nI 0 from rfl, nI_eq (by omega) (by omega)] at c9
      exfalso; omega
    · rw [show (0 : Int32) = nI 0 from rfl, nI_eq (by omega) (by omega)] at c9
      refine j_aload_n C 0 dX12_whole_12 rfl ?_
      refine j_aload_n C 0 dX12_whole_13 rfl ?_
      refine rg C (v := .int (V1 8)) 8 (by decide) kf12_109 rfl dX12_whole_14 ?_
      refine j_v (nI k1) hP.2.1 ?_
      refine j_callV (As := [.int (nI k1)]) (rest := []) C vw12_byteAt (c_byteAt (V := V1) k1 (by omega) hu hn hP.1 hP.2.2.1) rRcv rfl (Nat.le_of_ble_eq_true rfl) dX12_whole_17 (by unfold dP; omega) ?_
      rintro _ _ ⟨rfl, rfl⟩
      refine j_bipush C (v := (nI 124)) dX12_whole_20 (by decide) ?_
      refine j_icmp_ne C 57 dX12_whole_22 (by decide) (fun c22 => ?_) (fun c22 => ?_)
      · skip
        refine j_iload_n C 1 dX12_whole_57 rfl ?_
        refine j_iret C dX12_whole_58 ?_
        rw [hE, prs_no (lv_ne0 c22)]
        exact ⟨V1, hV, hP, fun _ => ⟨seg, hcd, hsg⟩, rfl⟩
      · skip
        have hkl : k1 < n := byt_lt (b := txF row u) (by rw [c22]; decide)
        refine j_aload_n C 0 dX12_whole_25 rfl ?_
        refine j_dup C dX12_whole_26 rfl ?_
        refine rg C (v := .int (V1 8)) 8 (by decide) kf12_109 rfl dX12_whole_27 ?_
        refine j_v (nI k1) hP.2.1 ?_
        refine j_iconst C (v := (nI 1)) dX12_whole_30 (by decide) ?_
        refine j_iaddN C dX12_whole_31 ?_
        refine rp_8 C kf12_109 dX12_whole_32 ?_
        have hp2 := hP.sk (k1 + 1)
        have ve3 := VE.s2 hV 8 (nI (k1 + 1)) (by omega)
        refine j_aload_n C 0 dX12_whole_35 rfl ?_
        refine j_callV (As := []) (rest := []) C vw12_both (IH F (by omega) (upd V1 8 (nI (k1 + 1))) op (k1 + 1) cd hp2 (by omega) (by omega) (by omega)) rRcv rfl (Nat.le_of_ble_eq_true rfl) dX12_whole_36 (by unfold dP; omega) ?_
        rintro r4 _ ⟨W4, hW4, hP4, hS4, rfl⟩
        obtain ⟨res4, hr4⟩ : ∃ x, x = prs (txF row u) n u F 1 false op (k1 + 1) cd := ⟨_, rfl⟩
        rw [← hr4] at hP4 hS4
        have hpr4 := prs_pr (b := txF row u) (n := n) (u := u) F 1 false op (k1 + 1) cd (by omega) (fun h => by cases h) (by omega)
        rw [← hr4] at hpr4
        have ve4 := hW4.tr ve3
        refine j_istore_n C [(2, .int r4), (0, .ref o), (1, .int v)] dX12_whole_39 (by decide) rfl ?_
        refine j_iload_n C 2 dX12_whole_40 rfl ?_
        refine j_if_ne C 48 dX12_whole_41 (by decide) (fun c41 => ?_) (fun c41 => ?_)
        · skip
          refine j_iconst C (v := (nI 1)) dX12_whole_48 (by decide) ?_
          refine j_goto C 53 dX12_whole_49 (by decide) ?_
          refine j_istore_n C [(1, .int (nI 1)), (2, .int r4), (0, .ref o)] dX12_whole_53 (by decide) rfl ?_
          refine j_goto C 5 dX12_whole_54 (by decide) ?_
          rcases Bool.eq_false_or_eq_true res4.1 with hg4 | hg4
          · have hPt4 := g_t hP4 hg4
            have hlt4 := hpr4.2.2 rfl hg4
            refine j_L [2, 0] [(0, .ref o), (1, .int (nI 1))] rfl ?_
            obtain ⟨seg2, hc2, hs2⟩ := hS4 hg4
            have hj : joinF (bytF (txF row u) n k1) v r4 = (nI 1) := by rw [c22]; exact (join_124 v r4).trans (bI1 (Or.inl c41)).symm
            have hsj := hsg.join hs2 (sg := bytF (txF row u) n k1) (by rw [c22]; decide) (by rw [c22]; decide) (by rw [c22]; decide)
            rw [hj] at hsj
            exact ih (F, res4.2.1, res4.2.2 ++ [-(bytF (txF row u) n k1)], W4, (nI 1)) ⟨by dsimp only; omega, hpr4.2.1, by dsimp only; omega, ve4, hPt4, by dsimp only; rw [hE, prs_lt (lv_eq0 c22) (by decide) (by rw [← hr4]; exact hg4), ← hr4], _, by dsimp only; rw [hc2, hcd, List.append_assoc, List.append_assoc, ← List.append_assoc seg], hsj⟩ (by dsimp only; omega)
          · skip
            refine j_aload_n C 2 dX12_whole_5 rfl ?_
            refine rg C (v := .int (W4 14)) 14 (by decide) kf12_105 rfl dX12_whole_6 ?_
            refine j_v (nI 0) (g_0 hP4 hg4) ?_
            refine j_if_eq C 57 dX12_whole_9 (by decide) (fun c9 => ?_) (fun c9 => ?_)
            · rw [show (0 : Int32) = nI 0 from rfl, nI_eq (by omega) (by omega)] at c9
              refine j_iload_n C 0 dX12_whole_57 rfl ?_
              refine j_iret C dX12_whole_58 ?_
              rw [hE, prs_lf (lv_eq0 c22) (by rw [← hr4]; exact hg4), ← hr4]
              exact ⟨W4, ve4, hP4, fun h => (by rw [hg4] at h; cases h), rfl⟩
            · rw [show (0 : Int32) = nI 0 from rfl, nI_eq (by omega) (by omega)] at c9
              exfalso; omega
        · skip
          refine j_iload_n C 0 dX12_whole_44 rfl ?_
          refine j_if_eq C 52 dX12_whole_45 (by decide) (fun c45 => ?_) (fun c45 => ?_)
          · skip
            refine j_iconst C (v := (nI 0)) dX12_whole_52 (by decide) ?_
            refine j_istore_n C [(1, .int (nI 0)), (2, .int r4), (0, .ref o)] dX12_whole_53 (by decide) rfl ?_
            refine j_goto C 5 dX12_whole_54 (by decide) ?_
            rcases Bool.eq_false_or_eq_true res4.1 with hg4 | hg4
            · have hPt4 := g_t hP4 hg4
              have hlt4 := hpr4.2.2 rfl hg4
              refine j_L [2, 0] [(0, .ref o), (1, .int (nI 0))] rfl ?_
              obtain ⟨seg2, hc2, hs2⟩ := hS4 hg4
              have hj : joinF (bytF (txF row u) n k1) v r4 = (nI 0) := by rw [c22]; exact (join_124 v r4).trans (bI0 (fun h => h.elim (fun g => g c41) (fun g => g c45))).symm
              have hsj := hsg.join hs2 (sg := bytF (txF row u) n k1) (by rw [c22]; decide) (by rw [c22]; decide) (by rw [c22]; decide)
              rw [hj] at hsj
              exact ih (F, res4.2.1, res4.2.2 ++ [-(bytF (txF row u) n k1)], W4, (nI 0)) ⟨by dsimp only; omega, hpr4.2.1, by dsimp only; omega, ve4, hPt4, by dsimp only; rw [hE, prs_lt (lv_eq0 c22) (by decide) (by rw [← hr4]; exact hg4), ← hr4], _, by dsimp only; rw [hc2, hcd, List.append_assoc, List.append_assoc, ← List.append_assoc seg], hsj⟩ (by dsimp only; omega)
            · skip
              refine j_aload_n C 2 dX12_whole_5 rfl ?_
              refine rg C (v := .int (W4 14)) 14 (by decide) kf12_105 rfl dX12_whole_6 ?_
              refine j_v (nI 0) (g_0 hP4 hg4) ?_
              refine j_if_eq C 57 dX12_whole_9 (by decide) (fun c9 => ?_) (fun c9 => ?_)
              · rw [show (0 : Int32) = nI 0 from rfl, nI_eq (by omega) (by omega)] at c9
                refine j_iload_n C 0 dX12_whole_57 rfl ?_
                refine j_iret C dX12_whole_58 ?_
                rw [hE, prs_lf (lv_eq0 c22) (by rw [← hr4]; exact hg4), ← hr4]
                exact ⟨W4, ve4, hP4, fun h => (by rw [hg4] at h; cases h), rfl⟩
              · rw [show (0 : Int32) = nI 0 from rfl, nI_eq (by omega) (by omega)] at c9
                exfalso; omega
          · skip
            refine j_iconst C (v := (nI 1)) dX12_whole_48 (by decide) ?_
            refine j_goto C 53 dX12_whole_49 (by decide) ?_
            refine j_istore_n C [(1, .int (nI 1)), (2, .int r4), (0, .ref o)] dX12_whole_53 (by decide) rfl ?_
            refine j_goto C 5 dX12_whole_54 (by decide) ?_
            rcases Bool.eq_false_or_eq_true res4.1 with hg4 | hg4
            · have hPt4 := g_t hP4 hg4
              have hlt4 := hpr4.2.2 rfl hg4
              refine j_L [2, 0] [(0, .ref o), (1, .int (nI 1))] rfl ?_
              obtain ⟨seg2, hc2, hs2⟩ := hS4 hg4
              have hj : joinF (bytF (txF row u) n k1) v r4 = (nI 1) := by rw [c22]; exact (join_124 v r4).trans (bI1 (Or.inr c45)).symm
              have hsj := hsg.join hs2 (sg := bytF (txF row u) n k1) (by rw [c22]; decide) (by rw [c22]; decide) (by rw [c22]; decide)
              rw [hj] at hsj
              exact ih (F, res4.2.1, res4.2.2 ++ [-(bytF (txF row u) n k1)], W4, (nI 1)) ⟨by dsimp only; omega, hpr4.2.1, by dsimp only; omega, ve4, hPt4, by dsimp only; rw [hE, prs_lt (lv_eq0 c22) (by decide) (by rw [← hr4]; exact hg4), ← hr4], _, by dsimp only; rw [hc2, hcd, List.append_assoc, List.append_assoc, ← List.append_assoc seg], hsj⟩ (by dsimp only; omega)
            · skip
              refine j_aload_n C 2 dX12_whole_5 rfl ?_
              refine rg C (v := .int (W4 14)) 14 (by decide) kf12_105 rfl dX12_whole_6 ?_
              refine j_v (nI 0) (g_0 hP4 hg4) ?_
              refine j_if_eq C 57 dX12_whole_9 (by decide) (fun c9 => ?_) (fun c9 => ?_)
              · rw [show (0 : Int32) = nI 0 from rfl, nI_eq (by omega) (by omega)] at c9
                refine j_iload_n C 0 dX12_whole_57 rfl ?_
                refine j_iret C dX12_whole_58 ?_
                rw [hE, prs_lf (lv_eq0 c22) (by rw [← hr4]; exact hg4), ← hr4]
                exact ⟨W4, ve4, hP4, fun h => (by rw [hg4] at h; cases h), rfl⟩
              · rw [show (0 : Int32) = nI 0 from rfl, nI_eq (by omega) (by omega)] at c9
                exfalso; omega
  · skip
    refine j_aload_n C 1 dX12_whole_5 rfl ?_
    refine rg C (v := .int (W1 14)) 14 (by decide) kf12_105 rfl dX12_whole_6 ?_
    refine j_v (nI 0) (g_0 hP1 hg1) ?_
    refine j_if_eq C 57 dX12_whole_9 (by decide) (fun c9 => ?_) (fun c9 => ?_)
    · rw [show (0 : Int32) = nI 0 from rfl, nI_eq (by omega) (by omega)] at c9
      refine j_iload_n C 0 dX12_whole_57 rfl ?_
      refine j_iret C dX12_whole_58 ?_
      rw [prs_uf (by decide) (by rw [← hr1]; exact hg1), ← hr1]
      exact ⟨W1, ve1, hP1, fun h => (by rw [hg1] at h; cases h), rfl⟩
    · rw [show (0 : Int32) = nI 0 from rfl, nI_eq (by omega) (by omega)] at c9
      exfalso; omega

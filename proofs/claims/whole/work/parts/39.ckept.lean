/-! What an image keeps: wrongs, the draws' number, tape, waiting. -/
def CK (S : Nat → Int32) (X : Nat → Nat → Int32) (u : Nat) (row : Nat → Int32) (nw nt nq : Nat) : Prop :=
  (S (1 + 2 * u) = row 8) ∧ (S (2 + 2 * u) = row 1) ∧ (∀ j, j < 3 → ∀ i, i < nw → X (66 + 3 * u + j) i = row (66 + 3 * i + j)) ∧ (S (19 + 2 * u) = row 4) ∧ (∀ k, k < nt → X (72 + 2 * u) k = row (90 + k)) ∧ (S (20 + 2 * u) = row 5) ∧ (∀ k, k < nq → X (73 + 2 * u) k = row (140 + k))
theorem CK.wrongs {S : Nat → Int32} {X : Nat → Nat → Int32} {u : Nat} {row : Nat → Int32} {nw nt nq : Nat} (h : CK S X u row nw nt nq) : S (1 + 2 * u) = row 8 := h.1
theorem CK.z {S : Nat → Int32} {X : Nat → Nat → Int32} {u : Nat} {row : Nat → Int32} {nw nt nq : Nat} (h : CK S X u row nw nt nq) : S (2 + 2 * u) = row 1 := h.2.1
theorem CK.wr {S : Nat → Int32} {X : Nat → Nat → Int32} {u : Nat} {row : Nat → Int32} {nw nt nq : Nat} (h : CK S X u row nw nt nq) : ∀ j, j < 3 → ∀ i, i < nw → X (66 + 3 * u + j) i = row (66 + 3 * i + j) := h.2.2.1
theorem CK.tsz {S : Nat → Int32} {X : Nat → Nat → Int32} {u : Nat} {row : Nat → Int32} {nw nt nq : Nat} (h : CK S X u row nw nt nq) : S (19 + 2 * u) = row 4 := h.2.2.2.1
theorem CK.tape {S : Nat → Int32} {X : Nat → Nat → Int32} {u : Nat} {row : Nat → Int32} {nw nt nq : Nat} (h : CK S X u row nw nt nq) : ∀ k, k < nt → X (72 + 2 * u) k = row (90 + k) := h.2.2.2.2.1
theorem CK.qsz {S : Nat → Int32} {X : Nat → Nat → Int32} {u : Nat} {row : Nat → Int32} {nw nt nq : Nat} (h : CK S X u row nw nt nq) : S (20 + 2 * u) = row 5 := h.2.2.2.2.2.1
theorem CK.wait {S : Nat → Int32} {X : Nat → Nat → Int32} {u : Nat} {row : Nat → Int32} {nw nt nq : Nat} (h : CK S X u row nw nt nq) : ∀ k, k < nq → X (73 + 2 * u) k = row (140 + k) := h.2.2.2.2.2.2
theorem CF.setW {S : Nat → Int32} {X : Nat → Nat → Int32} {f : Nat} {row w w' g : Nat → Int32} {nc np : Nat} (h : CF S X f row w nc np) (hg : ∀ p, p < np → g p = w' p) : CF S (va_up X (44 + 10 * f) g) f row w' nc np := by
  refine ⟨h.cells, h.dawn, h.people, fun c hc => ?_, fun c hc => ?_, fun j hj p hp => ?_, fun p hp => ?_⟩
  · rw [va_n (by omega)]; exact h.ears c hc
  · rw [va_n (by omega)]; exact h.low c hc
  · rw [va_n (by omega)]; exact h.per j hj p hp
  · rw [va_s]; exact hg p hp
theorem bitc_t {s i : Nat} (hs : s < 256) (hi : i < 8) : (nI s &&& (nI 1 <<< (nI i &&& 31))) = 0 ↔ ((nI s >>> (nI i &&& 31)) &&& nI 1 = 0) := by
  have key : ∀ i : Fin 8, ∀ s : Fin 256, (nI s.val &&& (nI 1 <<< (nI i.val &&& 31))) = 0 ↔ ((nI s.val >>> (nI i.val &&& 31)) &&& nI 1 = 0) := by decide +kernel
  exact key ⟨i, hi⟩ ⟨s, hs⟩
def bdF (row : Nat → Int32) (p : Nat) : Int32 := if row (30 + 6 * p + 0) = nI 6 then row (30 + 6 * p + 1) else nI 0
theorem add_rc (a b c : Int32) : a + b + c = a + c + b := by rw [Int32.add_assoc, Int32.add_comm b c, ← Int32.add_assoc]

theorem dX3_weigh_0 : decode cX3_weigh 0 = .ok (.iconst 0, 1) := by decide +kernel
theorem dX3_weigh_1 : decode cX3_weigh 1 = .ok (.istore_n 3, 1) := by decide +kernel
theorem dX3_weigh_2 : decode cX3_weigh 2 = .ok (.iload_n 3, 1) := by decide +kernel
theorem dX3_weigh_3 : decode cX3_weigh 3 = .ok (.aload_n 1, 1) := by decide +kernel
theorem dX3_weigh_4 : decode cX3_weigh 4 = .ok (.getfield 77, 3) := by decide +kernel
theorem dX3_weigh_7 : decode cX3_weigh 7 = .ok (.if_icmp .ge 20, 3) := by decide +kernel
theorem dX3_weigh_10 : decode cX3_weigh 10 = .ok (.aload_n 1, 1) := by decide +kernel
theorem dX3_weigh_11 : decode cX3_weigh 11 = .ok (.getfield 80, 3) := by decide +kernel
theorem dX3_weigh_14 : decode cX3_weigh 14 = .ok (.iload_n 3, 1) := by decide +kernel
theorem dX3_weigh_15 : decode cX3_weigh 15 = .ok (.aload_n 1, 1) := by decide +kernel
theorem dX3_weigh_16 : decode cX3_weigh 16 = .ok (.iload_n 3, 1) := by decide +kernel
theorem dX3_weigh_17 : decode cX3_weigh 17 = .ok (.invokevirtual 83, 3) := by decide +kernel
theorem dX3_weigh_20 : decode cX3_weigh 20 = .ok (.iastore, 1) := by decide +kernel
theorem dX3_weigh_21 : decode cX3_weigh 21 = .ok (.iinc 3 1, 3) := by decide +kernel
theorem dX3_weigh_24 : decode cX3_weigh 24 = .ok (.goto (-22), 3) := by decide +kernel
theorem dX3_weigh_27 : decode cX3_weigh 27 = .ok (.iconst 0, 1) := by decide +kernel
theorem dX3_weigh_28 : decode cX3_weigh 28 = .ok (.istore_n 3, 1) := by decide +kernel
theorem dX3_weigh_29 : decode cX3_weigh 29 = .ok (.iload_n 3, 1) := by decide +kernel
theorem dX3_weigh_30 : decode cX3_weigh 30 = .ok (.aload_n 0, 1) := by decide +kernel
theorem dX3_weigh_31 : decode cX3_weigh 31 = .ok (.getfield 9, 3) := by decide +kernel
theorem dX3_weigh_34 : decode cX3_weigh 34 = .ok (.if_icmp .ge 37, 3) := by decide +kernel
theorem dX3_weigh_37 : decode cX3_weigh 37 = .ok (.iload_n 2, 1) := by decide +kernel
theorem dX3_weigh_38 : decode cX3_weigh 38 = .ok (.iconst 1, 1) := by decide +kernel
theorem dX3_weigh_39 : decode cX3_weigh 39 = .ok (.iload_n 3, 1) := by decide +kernel
theorem dX3_weigh_40 : decode cX3_weigh 40 = .ok (.ishl, 1) := by decide +kernel
theorem dX3_weigh_41 : decode cX3_weigh 41 = .ok (.iand, 1) := by decide +kernel
theorem dX3_weigh_42 : decode cX3_weigh 42 = .ok (.ifCond .ne 23, 3) := by decide +kernel
theorem dX3_weigh_45 : decode cX3_weigh 45 = .ok (.aload_n 1, 1) := by decide +kernel
theorem dX3_weigh_46 : decode cX3_weigh 46 = .ok (.getfield 80, 3) := by decide +kernel
theorem dX3_weigh_49 : decode cX3_weigh 49 = .ok (.aload_n 0, 1) := by decide +kernel
theorem dX3_weigh_50 : decode cX3_weigh 50 = .ok (.getfield 15, 3) := by decide +kernel
theorem dX3_weigh_53 : decode cX3_weigh 53 = .ok (.iload_n 3, 1) := by decide +kernel
theorem dX3_weigh_54 : decode cX3_weigh 54 = .ok (.iaload, 1) := by decide +kernel
theorem dX3_weigh_55 : decode cX3_weigh 55 = .ok (.dup2, 1) := by decide +kernel
theorem dX3_weigh_56 : decode cX3_weigh 56 = .ok (.iaload, 1) := by decide +kernel
theorem dX3_weigh_57 : decode cX3_weigh 57 = .ok (.aload_n 0, 1) := by decide +kernel
theorem dX3_weigh_58 : decode cX3_weigh 58 = .ok (.getfield 22, 3) := by decide +kernel
theorem dX3_weigh_61 : decode cX3_weigh 61 = .ok (.iload_n 3, 1) := by decide +kernel
theorem dX3_weigh_62 : decode cX3_weigh 62 = .ok (.iaload, 1) := by decide +kernel
theorem dX3_weigh_63 : decode cX3_weigh 63 = .ok (.iadd, 1) := by decide +kernel
theorem dX3_weigh_64 : decode cX3_weigh 64 = .ok (.iastore, 1) := by decide +kernel
theorem dX3_weigh_65 : decode cX3_weigh 65 = .ok (.iinc 3 1, 3) := by decide +kernel
theorem dX3_weigh_68 : decode cX3_weigh 68 = .ok (.goto (-39), 3) := by decide +kernel
theorem dX3_weigh_71 : decode cX3_weigh 71 = .ok (.return_, 1) := by decide +kernel
set_option maxHeartbeats 2000000 in
set_option maxRecDepth 20000 in
theorem h_weigh_0 {l : Launch} {D : va_G} {cI cG cW : ClassId} {q : Nat → Nat} {S : Nat → Int32} {X : Nat → Nat → Int32} {P : Nat → Nat} {row w : Nat → Int32} {nc np : Nat} (hF : CF S X 0 row w nc np) {nw nt nq : Nat} (hI : Iv row nc np nw) (hK : CK S X 0 row nw nt nq) (hW : Iw row np nw) (s : Nat) (hs : s < 256) : Cv l yX3_weigh cX3_weigh 4 none 4 D (tyL cI cG cW) (wC cI cG cW q) [.ref (q 1), .ref (q 3), .int (nI s)] (S, X, P) (fun τ => ∃ g, τ = (S, va_up X 44 g, P) ∧ ∀ j, j < np → g j = sumW row (nI s) j (nI 0) nw + bdF row j) := by
  refine Cv.of (by decide) (Nat.le_of_ble_eq_true rfl) ?_
  intro p_ e_ s_ m_ b_ M_ c_ A_ C
  replace C : Cx _ _ _ _ _ _ _ _ RX3 _ _ _ _ := C
  refine j_L [0, 1, 2] [(0, .ref (q 1)), (1, .ref (q 3)), (2, .int (nI s))] rfl ?_
  obtain ⟨-, ⟨e3, hn6⟩, ⟨e8, hw8⟩, hP, -⟩ := id hI
  refine j_iconst C (v := (nI 0)) dX3_weigh_0 (by decide) ?_
  refine j_istore_n C [(3, .int (nI 0)), (0, .ref (q 1)), (1, .ref (q 3)), (2, .int (nI s))] dX3_weigh_1 (by decide) rfl ?_
  refine j_wC (κ' := (S, va_up X 44 (X 44), P)) rfl ?_
  refine j_L [1, 2, 3, 0] [(0, .ref (q 1)), (1, .ref (q 3)), (2, .int (nI s)), (3, .int (nI 0))] rfl ?_
  refine j_loop (X := Nat × (Nat → Int32)) (fun (z : Nat × (Nat → Int32)) => match z with | (i, g) => i ≤ np ∧ ∀ j, j < i → g j = bdF row j) (fun (z : Nat × (Nat → Int32)) => match z with | (i, g) => np - i) (fun (z : Nat × (Nat → Int32)) => match z with | (i, g) => (S, va_up X 44 g, P)) (fun (z : Nat × (Nat → Int32)) => match z with | (i, g) => [(0, .ref (q 1)), (1, .ref (q 3)), (2, .int (nI s)), (3, .int (nI i))]) (0, X 44) (⟨Nat.zero_le _, fun j h => absurd h (Nat.not_lt_zero _)⟩) rfl rfl ?_
  rintro ⟨i, g⟩ ⟨hi, hs1⟩ ih
  try dsimp only at ih ⊢
  refine j_iload_n C 3 dX3_weigh_2 rfl ?_
  refine j_aload_n C 1 dX3_weigh_3 rfl ?_
  refine j_getN C (v := .int (S 7)) 3 4 rfl rfl inlC1 (by decide) kf3_77 rfl dX3_weigh_4 ?_
  refine j_v (nI np) (hF.people.trans e3) ?_
  refine j_icmp_ge C 27 dX3_weigh_7 (by decide) (fun c7 => ?_) (fun c7 => ?_)
  · rw [nI_leI (by omega) (by omega)] at c7
    refine j_iconst C (v := (nI 0)) dX3_weigh_27 (by decide) ?_
    refine j_istore_n C [(3, .int (nI 0)), (0, .ref (q 1)), (1, .ref (q 3)), (2, .int (nI s))] dX3_weigh_28 (by decide) rfl ?_
    refine j_L [1, 2, 3, 0] [(0, .ref (q 1)), (1, .ref (q 3)), (2, .int (nI s)), (3, .int (nI 0))] rfl ?_
    refine j_loop (X := Nat × (Nat → Int32)) (fun (z : Nat × (Nat → Int32)) => match z with | (i, g) => i ≤ nw ∧ ∀ j, j < np → g j = sumW row (nI s) j (nI 0) i + bdF row j) (fun (z : Nat × (Nat → Int32)) => match z with | (i, g) => nw - i) (fun (z : Nat × (Nat → Int32)) => match z with | (i, g) => (S, va_up X 44 g, P)) (fun (z : Nat × (Nat → Int32)) => match z with | (i, g) => [(0, .ref (q 1)), (1, .ref (q 3)), (2, .int (nI s)), (3, .int (nI i))]) (0, g) (⟨Nat.zero_le _, fun j h => (hs1 j (by omega)).trans (Int32.zero_add _).symm⟩) rfl rfl ?_
    rintro ⟨i, g⟩ ⟨hi, hs2⟩ ih
    try dsimp only at ih ⊢
    refine j_iload_n C 3 dX3_weigh_29 rfl ?_
    refine j_aload_n C 0 dX3_weigh_30 rfl ?_
    refine j_get C (v := .int (S 1)) 1 1 rfl rfl inlC3 (by decide) kf3_9 rfl dX3_weigh_31 ?_
    refine j_v (nI nw) (hK.wrongs.trans e8) ?_
    refine j_icmp_ge C 71 dX3_weigh_34 (by decide) (fun c34 => ?_) (fun c34 => ?_)
    · rw [nI_leI (by omega) (by omega)] at c34
      refine j_vret C dX3_weigh_71 ?_
      obtain rfl : i = nw := by omega
      exact ⟨g, rfl, hs2⟩
    · rw [nI_leI (by omega) (by omega)] at c34
      refine j_iload_n C 2 dX3_weigh_37 rfl ?_
      refine j_iconst C (v := (nI 1)) dX3_weigh_38 (by decide) ?_
      refine j_iload_n C 3 dX3_weigh_39 rfl ?_
      refine j_ishl C dX3_weigh_40 ?_
      refine j_iand C dX3_weigh_41 ?_
      refine j_if_ne C 65 dX3_weigh_42 (by decide) (fun c42 => ?_) (fun c42 => ?_)
      · skip
        refine j_iinc C (v := (nI (i + 1))) 3 [(3, .int (nI (i + 1))), (0, .ref (q 1)), (1, .ref (q 3)), (2, .int (nI s))] dX3_weigh_65 rfl (nI_1 _) (by decide) rfl ?_
        refine j_goto C 29 dX3_weigh_68 (by decide) ?_
        refine j_L [1, 2, 3, 0] [(0, .ref (q 1)), (1, .ref (q 3)), (2, .int (nI s)), (3, .int (nI (i + 1)))] rfl ?_
        exact ih (i + 1, g) (⟨by dsimp only; omega, fun j hj => by
      dsimp only at hj ⊢
      rw [sumW, if_neg (fun h => c42 ((bitc_t (by omega) (by omega)).2 h.2)), show sumW row (nI s) j (nI 0) i + nI 0 = sumW row (nI s) j (nI 0) i from Int32.add_zero _]; exact hs2 j hj⟩) (by dsimp only; omega)
      · skip
        obtain ⟨⟨b, hb, eb⟩, -, -⟩ := hW i (by omega)
        refine j_aload_n C 1 dX3_weigh_45 rfl ?_
        refine j_getN C (v := .ref (q 44)) 3 11 rfl rfl inlC1 (by decide) kf3_80 rfl dX3_weigh_46 ?_
        refine j_aload_n C 0 dX3_weigh_49 rfl ?_
        refine j_get C (v := .ref (q 66)) 1 2 rfl rfl inlC3 (by decide) kf3_15 rfl dX3_weigh_50 ?_
        refine j_iload_n C 3 dX3_weigh_53 rfl ?_
        refine j_ialdN C 66 0 rfl rfl i rfl (by omega) (by decide) dX3_weigh_54 ?_
        refine j_v (nI b) ((hK.wr 0 (by omega) i (by omega)).trans eb) ?_
        refine j_dup2 C dX3_weigh_55 rfl rfl ?_
        refine j_ialdN C 44 0 rfl rfl b rfl (by omega) (by decide) dX3_weigh_56 ?_
        refine j_aload_n C 0 dX3_weigh_57 rfl ?_
        refine j_get C (v := .ref (q 68)) 1 4 rfl rfl inlC3 (by decide) kf3_22 rfl dX3_weigh_58 ?_
        refine j_iload_n C 3 dX3_weigh_61 rfl ?_
        refine j_ialdN C 68 0 rfl rfl i rfl (by omega) (by decide) dX3_weigh_62 ?_
        refine j_v (row (66 + 3 * i + 2)) (hK.wr 2 (by omega) i (by omega)) ?_
        refine j_iadd C dX3_weigh_63 ?_
        refine j_iastN C 44 0 rfl rfl b rfl (by omega) (by decide) dX3_weigh_64 (S, va_up X 44 (upd g b ((g b) + (row (66 + 3 * i + 2)))), P) rfl ?_
        refine j_iinc C (v := (nI (i + 1))) 3 [(3, .int (nI (i + 1))), (0, .ref (q 1)), (1, .ref (q 3)), (2, .int (nI s))] dX3_weigh_65 rfl (nI_1 _) (by decide) rfl ?_
        refine j_goto C 29 dX3_weigh_68 (by decide) ?_
        refine j_L [1, 2, 3, 0] [(0, .ref (q 1)), (1, .ref (q 3)), (2, .int (nI s)), (3, .int (nI (i + 1)))] rfl ?_
        exact ih (i + 1, upd g b ((g b) + (row (66 + 3 * i + 2)))) (⟨by dsimp only; omega, fun j hj => by
      dsimp only at hj ⊢
      by_cases e : j = b
      · subst e; rw [pk_us, sumW, if_pos ⟨eb, (bitc_t (by omega) (by omega)).1 c42⟩, hs2 j hj]; exact add_rc _ _ _
      · rw [pk_un e, sumW, if_neg (fun h => e ((nI_eq (by omega) (by omega)).1 (h.1.symm.trans eb))), show sumW row (nI s) j (nI 0) i + nI 0 = sumW row (nI s) j (nI 0) i from Int32.add_zero _]; exact hs2 j hj⟩) (by dsimp only; omega)
  · rw [nI_leI (by omega) (by omega)] at c7
    obtain ⟨⟨k, hk, ek⟩, -⟩ := hP i (by omega)
    refine j_aload_n C 1 dX3_weigh_10 rfl ?_
    refine j_getN C (v := .ref (q 44)) 3 11 rfl rfl inlC1 (by decide) kf3_80 rfl dX3_weigh_11 ?_
    refine j_iload_n C 3 dX3_weigh_14 rfl ?_
    refine j_aload_n C 1 dX3_weigh_15 rfl ?_
    refine j_iload_n C 3 dX3_weigh_16 rfl ?_
    refine j_callVN (As := [.int (nI i)]) (rest := [.int (nI i), .ref (q 44)]) C vn3_83 (h_burdenOf_0 (hF.setW (g := g) (fun _ _ => rfl)) hn6 i (by omega) hk ek) ⟨3, 1, _, _, rfl, rfl, rfl⟩ rfl (Nat.le_of_ble_eq_true rfl) dX3_weigh_17 (by decide) ?_
    rintro _ _ ⟨rfl, rfl⟩
    refine j_iastN C 44 0 rfl rfl i rfl (by omega) (by decide) dX3_weigh_20 (S, va_up X 44 (upd g i (bdF row i)), P) rfl ?_
    refine j_iinc C (v := (nI (i + 1))) 3 [(3, .int (nI (i + 1))), (0, .ref (q 1)), (1, .ref (q 3)), (2, .int (nI s))] dX3_weigh_21 rfl (nI_1 _) (by decide) rfl ?_
    refine j_goto C 2 dX3_weigh_24 (by decide) ?_
    refine j_L [1, 2, 3, 0] [(0, .ref (q 1)), (1, .ref (q 3)), (2, .int (nI s)), (3, .int (nI (i + 1)))] rfl ?_
    exact ih (i + 1, upd g i (bdF row i)) (⟨by dsimp only; omega, fun j hj => by
      dsimp only at hj ⊢
      by_cases e : j = i
      · subst e; rw [pk_us]
      · rw [pk_un e]; exact hs1 j (by omega)⟩) (by dsimp only; omega)
set_option maxHeartbeats 2000000 in
set_option maxRecDepth 20000 in
theorem h_weigh_2 {l : Launch} {D : va_G} {cI cG cW : ClassId} {q : Nat → Nat} {S : Nat → Int32} {X : Nat → Nat → Int32} {P : Nat → Nat} {row w : Nat → Int32} {nc np : Nat} (hF : CF S X 2 row w nc np) {nw nt nq : Nat} (hI : Iv row nc np nw) (hK : CK S X 0 row nw nt nq) (hW : Iw row np nw) (s : Nat) (hs : s < 256) : Cv l yX3_weigh cX3_weigh 4 none 4 D (tyL cI cG cW) (wC cI cG cW q) [.ref (q 1), .ref (q 5), .int (nI s)] (S, X, P) (fun τ => ∃ g, τ = (S, va_up X 64 g, P) ∧ ∀ j, j < np → g j = sumW row (nI s) j (nI 0) nw + bdF row j) := by
  refine Cv.of (by decide) (Nat.le_of_ble_eq_true rfl) ?_
  intro p_ e_ s_ m_ b_ M_ c_ A_ C
  replace C : Cx _ _ _ _ _ _ _ _ RX3 _ _ _ _ := C
  refine j_L [0, 1, 2] [(0, .ref (q 1)), (1, .ref (q 5)), (2, .int (nI s))] rfl ?_
  obtain ⟨-, ⟨e3, hn6⟩, ⟨e8, hw8⟩, hP, -⟩ := id hI
  refine j_iconst C (v := (nI 0)) dX3_weigh_0 (by decide) ?_
  refine j_istore_n C [(3, .int (nI 0)), (0, .ref (q 1)), (1, .ref (q 5)), (2, .int (nI s))] dX3_weigh_1 (by decide) rfl ?_
  refine j_wC (κ' := (S, va_up X 64 (X 64), P)) rfl ?_
  refine j_L [1, 2, 3, 0] [(0, .ref (q 1)), (1, .ref (q 5)), (2, .int (nI s)), (3, .int (nI 0))] rfl ?_
  refine j_loop (X := Nat × (Nat → Int32)) (fun (z : Nat × (Nat → Int32)) => match z with | (i, g) => i ≤ np ∧ ∀ j, j < i → g j = bdF row j) (fun (z : Nat × (Nat → Int32)) => match z with | (i, g) => np - i) (fun (z : Nat × (Nat → Int32)) => match z with | (i, g) => (S, va_up X 64 g, P)) (fun (z : Nat × (Nat → Int32)) => match z with | (i, g) => [(0, .ref (q 1)), (1, .ref (q 5)), (2, .int (nI s)), (3, .int (nI i))]) (0, X 64) (⟨Nat.zero_le _, fun j h => absurd h (Nat.not_lt_zero _)⟩) rfl rfl ?_
  rintro ⟨i, g⟩ ⟨hi, hs1⟩ ih
  try dsimp only at ih ⊢
  refine j_iload_n C 3 dX3_weigh_2 rfl ?_
  refine j_aload_n C 1 dX3_weigh_3 rfl ?_
  refine j_getN C (v := .int (S 13)) 5 4 rfl rfl inlC1 (by decide) kf3_77 rfl dX3_weigh_4 ?_
  refine j_v (nI np) (hF.people.trans e3) ?_
  refine j_icmp_ge C 27 dX3_weigh_7 (by decide) (fun c7 => ?_) (fun c7 => ?_)
  · rw [nI_leI (by omega) (by omega)] at c7
    refine j_iconst C (v := (nI 0)) dX3_weigh_27 (by decide) ?_
    refine j_istore_n C [(3, .int (nI 0)), (0, .ref (q 1)), (1, .ref (q 5)), (2, .int (nI s))] dX3_weigh_28 (by decide) rfl ?_
    refine j_L [1, 2, 3, 0] [(0, .ref (q 1)), (1, .ref (q 5)), (2, .int (nI s)), (3, .int (nI 0))] rfl ?_
    refine j_loop (X := Nat × (Nat → Int32)) (fun (z : Nat × (Nat → Int32)) => match z with | (i, g) => i ≤ nw ∧ ∀ j, j < np → g j = sumW row (nI s) j (nI 0) i + bdF row j) (fun (z : Nat × (Nat → Int32)) => match z with | (i, g) => nw - i) (fun (z : Nat × (Nat → Int32)) => match z with | (i, g) => (S, va_up X 64 g, P)) (fun (z : Nat × (Nat → Int32)) => match z with | (i, g) => [(0, .ref (q 1)), (1, .ref (q 5)), (2, .int (nI s)), (3, .int (nI i))]) (0, g) (⟨Nat.zero_le _, fun j h => (hs1 j (by omega)).trans (Int32.zero_add _).symm⟩) rfl rfl ?_
    rintro ⟨i, g⟩ ⟨hi, hs2⟩ ih
    try dsimp only at ih ⊢
    refine j_iload_n C 3 dX3_weigh_29 rfl ?_
    refine j_aload_n C 0 dX3_weigh_30 rfl ?_
    refine j_get C (v := .int (S 1)) 1 1 rfl rfl inlC3 (by decide) kf3_9 rfl dX3_weigh_31 ?_
    refine j_v (nI nw) (hK.wrongs.trans e8) ?_
    refine j_icmp_ge C 71 dX3_weigh_34 (by decide) (fun c34 => ?_) (fun c34 => ?_)
    · rw [nI_leI (by omega) (by omega)] at c34
      refine j_vret C dX3_weigh_71 ?_
      obtain rfl : i = nw := by omega
      exact ⟨g, rfl, hs2⟩
    · rw [nI_leI (by omega) (by omega)] at c34
      refine j_iload_n C 2 dX3_weigh_37 rfl ?_
      refine j_iconst C (v := (nI 1)) dX3_weigh_38 (by decide) ?_
      refine j_iload_n C 3 dX3_weigh_39 rfl ?_
      refine j_ishl C dX3_weigh_40 ?_
      refine j_iand C dX3_weigh_41 ?_
      refine j_if_ne C 65 dX3_weigh_42 (by decide) (fun c42 => ?_) (fun c42 => ?_)
      · skip
        refine j_iinc C (v := (nI (i + 1))) 3 [(3, .int (nI (i + 1))), (0, .ref (q 1)), (1, .ref (q 5)), (2, .int (nI s))] dX3_weigh_65 rfl (nI_1 _) (by decide) rfl ?_
        refine j_goto C 29 dX3_weigh_68 (by decide) ?_
        refine j_L [1, 2, 3, 0] [(0, .ref (q 1)), (1, .ref (q 5)), (2, .int (nI s)), (3, .int (nI (i + 1)))] rfl ?_
        exact ih (i + 1, g) (⟨by dsimp only; omega, fun j hj => by
      dsimp only at hj ⊢
      rw [sumW, if_neg (fun h => c42 ((bitc_t (by omega) (by omega)).2 h.2)), show sumW row (nI s) j (nI 0) i + nI 0 = sumW row (nI s) j (nI 0) i from Int32.add_zero _]; exact hs2 j hj⟩) (by dsimp only; omega)
      · skip
        obtain ⟨⟨b, hb, eb⟩, -, -⟩ := hW i (by omega)
        refine j_aload_n C 1 dX3_weigh_45 rfl ?_
        refine j_getN C (v := .ref (q 64)) 5 11 rfl rfl inlC1 (by decide) kf3_80 rfl dX3_weigh_46 ?_
        refine j_aload_n C 0 dX3_weigh_49 rfl ?_
        refine j_get C (v := .ref (q 66)) 1 2 rfl rfl inlC3 (by decide) kf3_15 rfl dX3_weigh_50 ?_
        refine j_iload_n C 3 dX3_weigh_53 rfl ?_
        refine j_ialdN C 66 0 rfl rfl i rfl (by omega) (by decide) dX3_weigh_54 ?_
        refine j_v (nI b) ((hK.wr 0 (by omega) i (by omega)).trans eb) ?_
        refine j_dup2 C dX3_weigh_55 rfl rfl ?_
        refine j_ialdN C 64 0 rfl rfl b rfl (by omega) (by decide) dX3_weigh_56 ?_
        refine j_aload_n C 0 dX3_weigh_57 rfl ?_
        refine j_get C (v := .ref (q 68)) 1 4 rfl rfl inlC3 (by decide) kf3_22 rfl dX3_weigh_58 ?_
        refine j_iload_n C 3 dX3_weigh_61 rfl ?_
        refine j_ialdN C 68 0 rfl rfl i rfl (by omega) (by decide) dX3_weigh_62 ?_
        refine j_v (row (66 + 3 * i + 2)) (hK.wr 2 (by omega) i (by omega)) ?_
        refine j_iadd C dX3_weigh_63 ?_
        refine j_iastN C 64 0 rfl rfl b rfl (by omega) (by decide) dX3_weigh_64 (S, va_up X 64 (upd g b ((g b) + (row (66 + 3 * i + 2)))), P) rfl ?_
        refine j_iinc C (v := (nI (i + 1))) 3 [(3, .int (nI (i + 1))), (0, .ref (q 1)), (1, .ref (q 5)), (2, .int (nI s))] dX3_weigh_65 rfl (nI_1 _) (by decide) rfl ?_
        refine j_goto C 29 dX3_weigh_68 (by decide) ?_
        refine j_L [1, 2, 3, 0] [(0, .ref (q 1)), (1, .ref (q 5)), (2, .int (nI s)), (3, .int (nI (i + 1)))] rfl ?_
        exact ih (i + 1, upd g b ((g b) + (row (66 + 3 * i + 2)))) (⟨by dsimp only; omega, fun j hj => by
      dsimp only at hj ⊢
      by_cases e : j = b
      · subst e; rw [pk_us, sumW, if_pos ⟨eb, (bitc_t (by omega) (by omega)).1 c42⟩, hs2 j hj]; exact add_rc _ _ _
      · rw [pk_un e, sumW, if_neg (fun h => e ((nI_eq (by omega) (by omega)).1 (h.1.symm.trans eb))), show sumW row (nI s) j (nI 0) i + nI 0 = sumW row (nI s) j (nI 0) i from Int32.add_zero _]; exact hs2 j hj⟩) (by dsimp only; omega)
  · rw [nI_leI (by omega) (by omega)] at c7
    obtain ⟨⟨k, hk, ek⟩, -⟩ := hP i (by omega)
    refine j_aload_n C 1 dX3_weigh_10 rfl ?_
    refine j_getN C (v := .ref (q 64)) 5 11 rfl rfl inlC1 (by decide) kf3_80 rfl dX3_weigh_11 ?_
    refine j_iload_n C 3 dX3_weigh_14 rfl ?_
    refine j_aload_n C 1 dX3_weigh_15 rfl ?_
    refine j_iload_n C 3 dX3_weigh_16 rfl ?_
    refine j_callVN (As := [.int (nI i)]) (rest := [.int (nI i), .ref (q 64)]) C vn3_83 (h_burdenOf_2 (hF.setW (g := g) (fun _ _ => rfl)) hn6 i (by omega) hk ek) ⟨5, 1, _, _, rfl, rfl, rfl⟩ rfl (Nat.le_of_ble_eq_true rfl) dX3_weigh_17 (by decide) ?_
    rintro _ _ ⟨rfl, rfl⟩
    refine j_iastN C 64 0 rfl rfl i rfl (by omega) (by decide) dX3_weigh_20 (S, va_up X 64 (upd g i (bdF row i)), P) rfl ?_
    refine j_iinc C (v := (nI (i + 1))) 3 [(3, .int (nI (i + 1))), (0, .ref (q 1)), (1, .ref (q 5)), (2, .int (nI s))] dX3_weigh_21 rfl (nI_1 _) (by decide) rfl ?_
    refine j_goto C 2 dX3_weigh_24 (by decide) ?_
    refine j_L [1, 2, 3, 0] [(0, .ref (q 1)), (1, .ref (q 5)), (2, .int (nI s)), (3, .int (nI (i + 1)))] rfl ?_
    exact ih (i + 1, upd g i (bdF row i)) (⟨by dsimp only; omega, fun j hj => by
      dsimp only at hj ⊢
      by_cases e : j = i
      · subst e; rw [pk_us]
      · rw [pk_un e]; exact hs1 j (by omega)⟩) (by dsimp only; omega)

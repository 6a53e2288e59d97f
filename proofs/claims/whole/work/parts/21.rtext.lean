/-! The reference: law, text. -/
def sp_law (V row kept tried bf fd pk bo so sh mv tr : Nat → Int32) (use a b c : Int32) : Int32 × RS := if inn use (nI 0) (nI 1) then (lawF row (tN use) a b c, sR V row kept tried bf fd pk bo so sh mv tr) else er V row kept tried bf fd pk bo so sh mv tr (-1000000001) 1
theorem byt_congr {b b' : Nat → Int32} {n : Nat} (h : ∀ k, k < n → b k = b' k) : bytF b n = bytF b' n := by
  funext k; unfold bytF
  by_cases g : k < n
  · rw [if_pos g, if_pos g, h k g]
  · rw [if_neg g, if_neg g]
theorem numF_congr {b b' : Nat → Int32} {n : Nat} (h : bytF b n = bytF b' n) (F k : Nat) (v : Int32) : numF b n F k v = numF b' n F k v := by
  induction F generalizing k v with
  | zero => rfl
  | succ F ih => unfold numF; rw [h, ih]
theorem prs_congr {b b' : Nat → Int32} {n u : Nat} (h : bytF b n = bytF b' n) (f : Nat) : ∀ (lvl : Nat) (q : Bool) (op k : Nat) (code : List Int32), prs b n u f lvl q op k code = prs b' n u f lvl q op k code := by
  induction f with
  | zero => intros; rfl
  | succ f ih =>
    intro lvl q op k code
    cases q with
    | true => simp only [prs, ih, h]
    | false => simp only [prs, ih, h, numF_congr h]
theorem readF_congr {b b' : Nat → Int32} {n u : Nat} (h : ∀ k, k < n → b k = b' k) : readF b n u = readF b' n u := prs_congr (byt_congr h) 1000 0 false 0 0 []
/-- the tape laid down as the text of a use -/
def tapW (row : Nat → Int32) (u i : Nat) : Nat → Int32 := fun j => if 160 + 50 * u ≤ j ∧ j < 160 + 50 * u + i then row (90 + (j - (160 + 50 * u))) else row j
theorem tapW_0 (row : Nat → Int32) (u : Nat) : row = tapW row u 0 := by
  funext k; unfold tapW; rw [if_neg (by omega)]
theorem tapW_s (row : Nat → Int32) {u i : Nat} (hi : i < 50) : upd (tapW row u i) (160 + 50 * u + i) (tapW row u i (90 + i)) = tapW row u (i + 1) := by
  funext k
  by_cases e : k = 160 + 50 * u + i
  · subst e; rw [pk_us]; unfold tapW; rw [if_neg (by omega), if_pos (by omega)]; congr 1; omega
  · rw [pk_un e]; unfold tapW
    by_cases g : 160 + 50 * u ≤ k ∧ k < 160 + 50 * u + i
    · rw [if_pos g, if_pos (by omega)]
    · rw [if_neg g, if_neg (by omega)]
abbrev tapF (row : Nat → Int32) : Nat → Int32 := fun k => row (90 + k)
abbrev newT (row : Nat → Int32) (u : Nat) : Nat → Int32 := upd (upd (tapW row u 50) (6 + u) (row 4)) 4 (nI 0)
def sp_text (V row kept tried bf fd pk bo so sh mv tr : Nat → Int32) (use : Int32) : Int32 × RS := if inn use (nI 0) (nI 1) then (if (readF (tapF row) (tN (row 4)) (tN use)).1 = true ∧ (readF (tapF row) (tN (row 4)) (tN use)).2.1 = tN (row 4) then (nI 1, sR V (newT row (tN use)) kept tried bf fd pk bo so sh mv tr) else ((-10) - nI (readF (tapF row) (tN (row 4)) (tN use)).2.1, sR V (upd row 4 (nI 0)) kept tried bf fd pk bo so sh mv tr)) else er V row kept tried bf fd pk bo so sh mv tr (-1000000001) 1

theorem dX12_law_0 : decode cX12_law 0 = .ok (.iload_n 1, 1) := by decide +kernel
theorem dX12_law_1 : decode cX12_law 1 = .ok (.iconst 0, 1) := by decide +kernel
theorem dX12_law_2 : decode cX12_law 2 = .ok (.iconst 1, 1) := by decide +kernel
theorem dX12_law_3 : decode cX12_law 3 = .ok (.invokestatic 51, 3) := by decide +kernel
theorem dX12_law_6 : decode cX12_law 6 = .ok (.ifCond .eq 15, 3) := by decide +kernel
theorem dX12_law_9 : decode cX12_law 9 = .ok (.aload_n 0, 1) := by decide +kernel
theorem dX12_law_10 : decode cX12_law 10 = .ok (.iload_n 1, 1) := by decide +kernel
theorem dX12_law_11 : decode cX12_law 11 = .ok (.iload_n 2, 1) := by decide +kernel
theorem dX12_law_12 : decode cX12_law 12 = .ok (.iload_n 3, 1) := by decide +kernel
theorem dX12_law_13 : decode cX12_law 13 = .ok (.iload 4, 2) := by decide +kernel
theorem dX12_law_15 : decode cX12_law 15 = .ok (.invokevirtual 166, 3) := by decide +kernel
theorem dX12_law_18 : decode cX12_law 18 = .ok (.goto 9, 3) := by decide +kernel
theorem dX12_law_21 : decode cX12_law 21 = .ok (.aload_n 0, 1) := by decide +kernel
theorem dX12_law_22 : decode cX12_law 22 = .ok (.ldc 55, 2) := by decide +kernel
theorem dX12_law_24 : decode cX12_law 24 = .ok (.invokevirtual 56, 3) := by decide +kernel
theorem dX12_law_27 : decode cX12_law 27 = .ok (.ireturn, 1) := by decide +kernel
set_option maxHeartbeats 2000000 in
set_option maxRecDepth 20000 in
theorem c_law {l : Launch} {D : va_G} {cI cG cW : ClassId} {o : Nat} {q : Nat → Nat} {V row kept tried bf fd pk bo so sh mv tr : Nat → Int32} {use a b c : Int32} {nc np nw d nt nq : Nat} (hR : RKx row nc np nw d nt nq) : Ci l yX12_law cX12_law 5 (some .int) 90 D (tyL cI cG cW) (wR cI o q) [.ref o, .int use, .int a, .int b, .int c] (sR V row kept tried bf fd pk bo so sh mv tr) (fun r τ => r = (sp_law V row kept tried bf fd pk bo so sh mv tr use a b c).1 ∧ EQ τ (sp_law V row kept tried bf fd pk bo so sh mv tr use a b c).2) := by
  refine Ci.of (by decide) (Nat.le_of_ble_eq_true rfl) ?_
  intro p_ e_ s_ m_ b_ M_ c_ A_ C
  replace C : Cx _ _ _ _ _ _ _ _ RX12 _ _ _ _ := C
  refine j_L [0, 1, 2, 3, 4] [(0, .ref o), (1, .int use), (2, .int a), (3, .int b), (4, .int c)] rfl ?_
  obtain ⟨hI, hW, ⟨e0, hd⟩, ⟨e4, ht⟩, ⟨e5, hq⟩, hB⟩ := id hR
  obtain ⟨⟨e2, hc2, hc10⟩, ⟨e3, hn6⟩, ⟨e8, hw8⟩, hP, hE, hLo, hT0, hT1⟩ := id hI
  have hIc := hI
  refine j_iload_n C 1 dX12_law_0 rfl ?_
  refine j_iconst C (v := (nI 0)) dX12_law_1 (by decide) ?_
  refine j_iconst C (v := (nI 1)) dX12_law_2 (by decide) ?_
  refine j_callS (As := [.int use, .int (nI 0), .int (nI 1)]) (rest := []) C vw12_in (c_in) rfl (Nat.le_of_ble_eq_true rfl) dX12_law_3 (by decide) ?_
  rintro _ _ ⟨rfl, rfl⟩
  refine j_if_eq C 21 dX12_law_6 (by decide) (fun c6 => ?_) (fun c6 => ?_)
  · replace c6 := bI_f c6
    refine j_aload_n C 0 dX12_law_21 rfl ?_
    refine j_ldc C (-1000000001) dX12_law_22 kc12_55 ?_
    refine j_callV (As := [.int (-1000000001)]) (rest := []) C vw12_errs (c_errs 1 (by decide) (by decide)) rRcv rfl (Nat.le_of_ble_eq_true rfl) dX12_law_24 (by decide) ?_
    rintro _ _ ⟨rfl, rfl⟩
    refine j_iret C dX12_law_27 ?_
    unfold sp_law
    rw [if_neg (fun h => c6 h)]
    exact ⟨rfl, EQ.rf⟩
  · replace c6 := bI_t c6
    obtain ⟨un, gun, hun, rfl⟩ := inn_lit c6 (by omega)
    have hTu : txtOK row un := by rcases (show un = 0 ∨ un = 1 by omega) with rfl | rfl; exact hT0; exact hT1
    refine j_aload_n C 0 dX12_law_9 rfl ?_
    refine j_iload_n C 1 dX12_law_10 rfl ?_
    refine j_iload_n C 2 dX12_law_11 rfl ?_
    refine j_iload_n C 3 dX12_law_12 rfl ?_
    refine j_iload C 4 dX12_law_13 rfl ?_
    refine j_callV (As := [.int (nI un), .int a, .int b, .int c]) (rest := []) C vw12_lawOf (c_lawOf un (by omega) hTu) rRcv rfl (Nat.le_of_ble_eq_true rfl) dX12_law_15 (by decide) ?_
    rintro _ _ ⟨Vx1, hVx1, rfl, rfl⟩
    refine j_goto C 27 dX12_law_18 (by decide) ?_
    refine j_iret C dX12_law_27 ?_
    unfold sp_law
    rw [if_pos c6]
    rw [tN_nI (by omega)]
    exact ⟨rfl, EQ.ve hVx1⟩
theorem dX12_text_0 : decode cX12_text 0 = .ok (.iload_n 1, 1) := by decide +kernel
theorem dX12_text_1 : decode cX12_text 1 = .ok (.iconst 0, 1) := by decide +kernel
theorem dX12_text_2 : decode cX12_text 2 = .ok (.iconst 1, 1) := by decide +kernel
theorem dX12_text_3 : decode cX12_text 3 = .ok (.invokestatic 51, 3) := by decide +kernel
theorem dX12_text_6 : decode cX12_text 6 = .ok (.ifCond .ne 10, 3) := by decide +kernel
theorem dX12_text_9 : decode cX12_text 9 = .ok (.aload_n 0, 1) := by decide +kernel
theorem dX12_text_10 : decode cX12_text 10 = .ok (.ldc 55, 2) := by decide +kernel
theorem dX12_text_12 : decode cX12_text 12 = .ok (.invokevirtual 56, 3) := by decide +kernel
theorem dX12_text_15 : decode cX12_text 15 = .ok (.ireturn, 1) := by decide +kernel
theorem dX12_text_16 : decode cX12_text 16 = .ok (.aload_n 0, 1) := by decide +kernel
theorem dX12_text_17 : decode cX12_text 17 = .ok (.aload_n 0, 1) := by decide +kernel
theorem dX12_text_18 : decode cX12_text 18 = .ok (.getfield 7, 3) := by decide +kernel
theorem dX12_text_21 : decode cX12_text 21 = .ok (.aload_n 0, 1) := by decide +kernel
theorem dX12_text_22 : decode cX12_text 22 = .ok (.getfield 19, 3) := by decide +kernel
theorem dX12_text_25 : decode cX12_text 25 = .ok (.invokevirtual 171, 3) := by decide +kernel
theorem dX12_text_28 : decode cX12_text 28 = .ok (.iconst 0, 1) := by decide +kernel
theorem dX12_text_29 : decode cX12_text 29 = .ok (.istore_n 2, 1) := by decide +kernel
theorem dX12_text_30 : decode cX12_text 30 = .ok (.iload_n 2, 1) := by decide +kernel
theorem dX12_text_31 : decode cX12_text 31 = .ok (.bipush 50, 2) := by decide +kernel
theorem dX12_text_33 : decode cX12_text 33 = .ok (.if_icmp .ge 33, 3) := by decide +kernel
theorem dX12_text_36 : decode cX12_text 36 = .ok (.aload_n 0, 1) := by decide +kernel
theorem dX12_text_37 : decode cX12_text 37 = .ok (.getfield 7, 3) := by decide +kernel
theorem dX12_text_40 : decode cX12_text 40 = .ok (.sipush 160, 3) := by decide +kernel
theorem dX12_text_43 : decode cX12_text 43 = .ok (.bipush 50, 2) := by decide +kernel
theorem dX12_text_45 : decode cX12_text 45 = .ok (.iload_n 1, 1) := by decide +kernel
theorem dX12_text_46 : decode cX12_text 46 = .ok (.imul, 1) := by decide +kernel
theorem dX12_text_47 : decode cX12_text 47 = .ok (.iadd, 1) := by decide +kernel
theorem dX12_text_48 : decode cX12_text 48 = .ok (.iload_n 2, 1) := by decide +kernel
theorem dX12_text_49 : decode cX12_text 49 = .ok (.iadd, 1) := by decide +kernel
theorem dX12_text_50 : decode cX12_text 50 = .ok (.aload_n 0, 1) := by decide +kernel
theorem dX12_text_51 : decode cX12_text 51 = .ok (.getfield 7, 3) := by decide +kernel
theorem dX12_text_54 : decode cX12_text 54 = .ok (.bipush 90, 2) := by decide +kernel
theorem dX12_text_56 : decode cX12_text 56 = .ok (.iload_n 2, 1) := by decide +kernel
theorem dX12_text_57 : decode cX12_text 57 = .ok (.iadd, 1) := by decide +kernel
theorem dX12_text_58 : decode cX12_text 58 = .ok (.iaload, 1) := by decide +kernel
theorem dX12_text_59 : decode cX12_text 59 = .ok (.iastore, 1) := by decide +kernel
theorem dX12_text_60 : decode cX12_text 60 = .ok (.iinc 2 1, 3) := by decide +kernel
theorem dX12_text_63 : decode cX12_text 63 = .ok (.goto (-33), 3) := by decide +kernel
theorem dX12_text_66 : decode cX12_text 66 = .ok (.aload_n 0, 1) := by decide +kernel
theorem dX12_text_67 : decode cX12_text 67 = .ok (.getfield 7, 3) := by decide +kernel
theorem dX12_text_70 : decode cX12_text 70 = .ok (.bipush 6, 2) := by decide +kernel
theorem dX12_text_72 : decode cX12_text 72 = .ok (.iload_n 1, 1) := by decide +kernel
theorem dX12_text_73 : decode cX12_text 73 = .ok (.iadd, 1) := by decide +kernel
theorem dX12_text_74 : decode cX12_text 74 = .ok (.aload_n 0, 1) := by decide +kernel
theorem dX12_text_75 : decode cX12_text 75 = .ok (.getfield 7, 3) := by decide +kernel
theorem dX12_text_78 : decode cX12_text 78 = .ok (.iconst 4, 1) := by decide +kernel
theorem dX12_text_79 : decode cX12_text 79 = .ok (.iaload, 1) := by decide +kernel
theorem dX12_text_80 : decode cX12_text 80 = .ok (.iastore, 1) := by decide +kernel
theorem dX12_text_81 : decode cX12_text 81 = .ok (.aload_n 0, 1) := by decide +kernel
theorem dX12_text_82 : decode cX12_text 82 = .ok (.iload_n 1, 1) := by decide +kernel
theorem dX12_text_83 : decode cX12_text 83 = .ok (.iconst 1, 1) := by decide +kernel
theorem dX12_text_84 : decode cX12_text 84 = .ok (.iconst 1, 1) := by decide +kernel
theorem dX12_text_85 : decode cX12_text 85 = .ok (.iconst 1, 1) := by decide +kernel
theorem dX12_text_86 : decode cX12_text 86 = .ok (.invokevirtual 158, 3) := by decide +kernel
theorem dX12_text_89 : decode cX12_text 89 = .ok (.istore_n 2, 1) := by decide +kernel
theorem dX12_text_90 : decode cX12_text 90 = .ok (.aload_n 0, 1) := by decide +kernel
theorem dX12_text_91 : decode cX12_text 91 = .ok (.getfield 105, 3) := by decide +kernel
theorem dX12_text_94 : decode cX12_text 94 = .ok (.ifCond .eq 12, 3) := by decide +kernel
theorem dX12_text_97 : decode cX12_text 97 = .ok (.iload_n 2, 1) := by decide +kernel
theorem dX12_text_98 : decode cX12_text 98 = .ok (.iload_n 2, 1) := by decide +kernel
theorem dX12_text_99 : decode cX12_text 99 = .ok (.if_icmp .ne 7, 3) := by decide +kernel
theorem dX12_text_102 : decode cX12_text 102 = .ok (.iconst 1, 1) := by decide +kernel
theorem dX12_text_103 : decode cX12_text 103 = .ok (.goto 4, 3) := by decide +kernel
theorem dX12_text_106 : decode cX12_text 106 = .ok (.iconst 0, 1) := by decide +kernel
theorem dX12_text_107 : decode cX12_text 107 = .ok (.istore_n 3, 1) := by decide +kernel
theorem dX12_text_108 : decode cX12_text 108 = .ok (.aload_n 0, 1) := by decide +kernel
theorem dX12_text_109 : decode cX12_text 109 = .ok (.getfield 109, 3) := by decide +kernel
theorem dX12_text_112 : decode cX12_text 112 = .ok (.istore 4, 2) := by decide +kernel
theorem dX12_text_114 : decode cX12_text 114 = .ok (.iload_n 3, 1) := by decide +kernel
theorem dX12_text_115 : decode cX12_text 115 = .ok (.ifCond .ne 15, 3) := by decide +kernel
theorem dX12_text_118 : decode cX12_text 118 = .ok (.aload_n 0, 1) := by decide +kernel
theorem dX12_text_119 : decode cX12_text 119 = .ok (.aload_n 0, 1) := by decide +kernel
theorem dX12_text_120 : decode cX12_text 120 = .ok (.getfield 19, 3) := by decide +kernel
theorem dX12_text_123 : decode cX12_text 123 = .ok (.aload_n 0, 1) := by decide +kernel
theorem dX12_text_124 : decode cX12_text 124 = .ok (.getfield 7, 3) := by decide +kernel
theorem dX12_text_127 : decode cX12_text 127 = .ok (.invokevirtual 171, 3) := by decide +kernel
theorem dX12_text_130 : decode cX12_text 130 = .ok (.aload_n 0, 1) := by decide +kernel
theorem dX12_text_131 : decode cX12_text 131 = .ok (.getfield 7, 3) := by decide +kernel
theorem dX12_text_134 : decode cX12_text 134 = .ok (.iconst 4, 1) := by decide +kernel
theorem dX12_text_135 : decode cX12_text 135 = .ok (.iconst 0, 1) := by decide +kernel
theorem dX12_text_136 : decode cX12_text 136 = .ok (.iastore, 1) := by decide +kernel
theorem dX12_text_137 : decode cX12_text 137 = .ok (.iload_n 3, 1) := by decide +kernel
theorem dX12_text_138 : decode cX12_text 138 = .ok (.ifCond .eq 7, 3) := by decide +kernel
theorem dX12_text_141 : decode cX12_text 141 = .ok (.iconst 1, 1) := by decide +kernel
theorem dX12_text_142 : decode cX12_text 142 = .ok (.goto 8, 3) := by decide +kernel
theorem dX12_text_145 : decode cX12_text 145 = .ok (.bipush (-10), 2) := by decide +kernel
theorem dX12_text_147 : decode cX12_text 147 = .ok (.iload 4, 2) := by decide +kernel
theorem dX12_text_149 : decode cX12_text 149 = .ok (.isub, 1) := by decide +kernel
theorem dX12_text_150 : decode cX12_text 150 = .ok (.ireturn, 1) := by decide +kernel
set_option maxHeartbeats 2000000 in
set_option maxRecDepth 20000 in
theorem c_text {l : Launch} {D : va_G} {cI cG cW : ClassId} {o : Nat} {q : Nat → Nat} {V row kept tried bf fd pk bo so sh mv tr : Nat → Int32} {use : Int32} {nc np nw d nt nq : Nat} (hR : RKx row nc np nw d nt nq) : Ci l yX12_text cX12_text 5 (some .int) 90 D (tyL cI cG cW) (wR cI o q) [.ref o, .int use] (sR V row kept tried bf fd pk bo so sh mv tr) (fun r τ => r = (sp_text V row kept tried bf fd pk bo so sh mv tr use).1 ∧ EQ τ (sp_text V row kept tried bf fd pk bo so sh mv tr use).2) := by
  refine Ci.of (by decide) (Nat.le_of_ble_eq_true rfl) ?_
  intro p_ e_ s_ m_ b_ M_ c_ A_ C
  replace C : Cx _ _ _ _ _ _ _ _ RX12 _ _ _ _ := C
  refine j_L [0, 1] [(0, .ref o), (1, .int use)] rfl ?_
  obtain ⟨hI, hW, ⟨e0, hd⟩, ⟨e4, ht⟩, ⟨e5, hq⟩, hB⟩ := id hR
  obtain ⟨⟨e2, hc2, hc10⟩, ⟨e3, hn6⟩, ⟨e8, hw8⟩, hP, hE, hLo, hT0, hT1⟩ := id hI
  have hIc := hI
  refine j_iload_n C 1 dX12_text_0 rfl ?_
  refine j_iconst C (v := (nI 0)) dX12_text_1 (by decide) ?_
  refine j_iconst C (v := (nI 1)) dX12_text_2 (by decide) ?_
  refine j_callS (As := [.int use, .int (nI 0), .int (nI 1)]) (rest := []) C vw12_in (c_in) rfl (Nat.le_of_ble_eq_true rfl) dX12_text_3 (by decide) ?_
  rintro _ _ ⟨rfl, rfl⟩
  refine j_if_ne C 16 dX12_text_6 (by decide) (fun c6 => ?_) (fun c6 => ?_)
  · replace c6 := bI_t c6
    obtain ⟨un, gun, hun, rfl⟩ := inn_lit c6 (by omega)
    refine j_aload_n C 0 dX12_text_16 rfl ?_
    refine j_aload_n C 0 dX12_text_17 rfl ?_
    refine rg C (v := .ref (q 0)) 0 (by decide) kf12_7 rfl dX12_text_18 ?_
    refine j_aload_n C 0 dX12_text_21 rfl ?_
    refine rg C (v := .ref (q 3)) 3 (by decide) kf12_19 rfl dX12_text_22 ?_
    refine j_callVv (As := [.ref (q 0), .ref (q 3)]) (rest := []) C vw12_moveAll (c_moveAll_row_bf) rRcv rfl (Nat.le_of_ble_eq_true rfl) dX12_text_25 (by decide) ?_
    rintro _ rfl
    refine j_iconst C (v := (nI 0)) dX12_text_28 (by decide) ?_
    refine j_istore_n C [(2, .int (nI 0)), (0, .ref o), (1, .int (nI un))] dX12_text_29 (by decide) rfl ?_
    refine j_L [1, 2, 0] [(0, .ref o), (1, .int (nI un)), (2, .int (nI 0))] rfl ?_
    refine j_loop (X := Nat) (fun (i : Nat) => i ≤ 50) (fun (i : Nat) => 50 - i) (fun (i : Nat) => (sR V (tapW row un i) kept tried row fd pk bo so sh mv tr)) (fun (i : Nat) => [(0, .ref o), (1, .int (nI un)), (2, .int (nI i))]) (0) (Nat.zero_le _) (by rw [← tapW_0 row un]) rfl ?_
    rintro i hi ih
    try dsimp only at ih ⊢
    refine j_iload_n C 2 dX12_text_30 rfl ?_
    refine j_bipush C (v := (nI 50)) dX12_text_31 (by decide) ?_
    refine j_icmp_ge C 66 dX12_text_33 (by decide) (fun c33 => ?_) (fun c33 => ?_)
    · rw [nI_leI (by omega) (by omega)] at c33
      obtain rfl : i = 50 := by omega
      have e4t : tapW row un 50 4 = nI nt := by unfold tapW; rw [if_neg (by omega)]; exact e4
      refine j_aload_n C 0 dX12_text_66 rfl ?_
      refine rg C (v := .ref (q 0)) 0 (by decide) kf12_7 rfl dX12_text_67 ?_
      refine j_bipush C (v := (nI 6)) dX12_text_70 (by decide) ?_
      refine j_iload_n C 1 dX12_text_72 rfl ?_
      refine j_iaddN C dX12_text_73 ?_
      refine j_aload_n C 0 dX12_text_74 rfl ?_
      refine rg C (v := .ref (q 0)) 0 (by decide) kf12_7 rfl dX12_text_75 ?_
      refine j_iconst C (v := (nI 4)) dX12_text_78 (by decide) ?_
      refine rl_row C 4 rfl (by omega) dX12_text_79 ?_
      refine j_v (nI nt) e4t ?_
      refine rs_row C (6 + un) rfl (by omega) dX12_text_80 ?_
      have hrd : readF (txF (upd (tapW row un 50) (6 + un) (nI nt)) un) nt un = readF (tapF row) nt un := readF_congr (fun k hk => by
        show (upd (tapW row un 50) (6 + un) (nI nt)) (160 + 50 * un + k) = row (90 + k)
        rw [pk_un (by omega)]; unfold tapW; rw [if_pos (by omega)]; congr 1; omega)
      refine j_aload_n C 0 dX12_text_81 rfl ?_
      refine j_iload_n C 1 dX12_text_82 rfl ?_
      refine j_iconst C (v := (nI 1)) dX12_text_83 (by decide) ?_
      refine j_iconst C (v := (nI 1)) dX12_text_84 (by decide) ?_
      refine j_iconst C (v := (nI 1)) dX12_text_85 (by decide) ?_
      refine j_callV (As := [.int (nI un), .int (nI 1), .int (nI 1), .int (nI 1)]) (rest := []) C vw12_walks (c_walks (row := upd (tapW row un 50) (6 + un) (nI nt)) un (by omega) (n := nt) (by omega) (by rw [pk_us])) rRcv rfl (Nat.le_of_ble_eq_true rfl) dX12_text_86 (by decide) ?_
      rintro r0 _ ⟨V1, hV1, h8, h14, -, rfl⟩
      rw [hrd] at h8 h14
      refine j_istore_n C [(2, .int r0), (0, .ref o), (1, .int (nI un))] dX12_text_89 (by decide) rfl ?_
      refine j_aload_n C 1 dX12_text_90 rfl ?_
      refine rg C (v := .int (V1 14)) 14 (by decide) kf12_105 rfl dX12_text_91 ?_
      refine j_v (bI ((readF (tapF row) nt un).1 = true ∧ (readF (tapF row) nt un).2.1 = nt)) h14 ?_
      refine j_if_eq C 106 dX12_text_94 (by decide) (fun c94 => ?_) (fun c94 => ?_)
      · replace c94 := bI_f c94
        refine j_iconst C (v := (nI 0)) dX12_text_106 (by decide) ?_
        refine j_istore_n C [(3, .int (nI 0)), (2, .int r0), (0, .ref o), (1, .int (nI un))] dX12_text_107 (by decide) rfl ?_
        refine j_aload_n C 2 dX12_text_108 rfl ?_
        refine rg C (v := .int (V1 8)) 8 (by decide) kf12_109 rfl dX12_text_109 ?_
        refine j_v (nI ((readF (tapF row) nt un).2.1)) h8 ?_
        refine j_istore C [(4, .int (nI ((readF (tapF row) nt un).2.1))), (3, .int (nI 0)), (2, .int r0), (0, .ref o), (1, .int (nI un))] dX12_text_112 (by decide) rfl ?_
        refine j_iload_n C 1 dX12_text_114 rfl ?_
        refine j_if_ne C 130 dX12_text_115 (by decide) (fun c115 => ?_) (fun c115 => ?_)
        · rw [show (0 : Int32) = nI 0 from rfl, nI_eq (by omega) (by omega)] at c115
          exfalso; omega
        · rw [show (0 : Int32) = nI 0 from rfl, nI_eq (by omega) (by omega)] at c115
          refine j_aload_n C 3 dX12_text_118 rfl ?_
          refine j_aload_n C 3 dX12_text_119 rfl ?_
          refine rg C (v := .ref (q 3)) 3 (by decide) kf12_19 rfl dX12_text_120 ?_
          refine j_aload_n C 3 dX12_text_123 rfl ?_
          refine rg C (v := .ref (q 0)) 0 (by decide) kf12_7 rfl dX12_text_124 ?_
          refine j_callVv (As := [.ref (q 3), .ref (q 0)]) (rest := []) C vw12_moveAll (c_moveAll_bf_row) rRcv rfl (Nat.le_of_ble_eq_true rfl) dX12_text_127 (by decide) ?_
          rintro _ rfl
          refine j_aload_n C 3 dX12_text_130 rfl ?_
          refine rg C (v := .ref (q 0)) 0 (by decide) kf12_7 rfl dX12_text_131 ?_
          refine j_iconst C (v := (nI 4)) dX12_text_134 (by decide) ?_
          refine j_iconst C (v := (nI 0)) dX12_text_135 (by decide) ?_
          refine rs_row C 4 rfl (by omega) dX12_text_136 ?_
          refine j_iload_n C 1 dX12_text_137 rfl ?_
          refine j_if_eq C 145 dX12_text_138 (by decide) (fun c138 => ?_) (fun c138 => ?_)
          · rw [show (0 : Int32) = nI 0 from rfl, nI_eq (by omega) (by omega)] at c138
            refine j_bipush C (v := (-10)) dX12_text_145 (by decide) ?_
            refine j_iload C 0 dX12_text_147 rfl ?_
            refine j_isub C dX12_text_149 ?_
            refine j_iret C dX12_text_150 ?_
            unfold sp_text
            rw [if_pos c6, e4, tN_nI (n := nt) (by omega), tN_nI (n := un) (by omega)]
            rw [if_neg c94]
            exact ⟨rfl, EQ.ve hV1⟩
          · rw [show (0 : Int32) = nI 0 from rfl, nI_eq (by omega) (by omega)] at c138
            exact absurd c115 c138
      · replace c94 := bI_t c94
        refine j_iload_n C 0 dX12_text_97 rfl ?_
        refine j_iload_n C 0 dX12_text_98 rfl ?_
        refine j_icmp_ne C 106 dX12_text_99 (by decide) (fun c99 => ?_) (fun c99 => ?_)
        · skip
          exact absurd rfl c99
        · skip
          refine j_iconst C (v := (nI 1)) dX12_text_102 (by decide) ?_
          refine j_goto C 107 dX12_text_103 (by decide) ?_
          refine j_istore_n C [(3, .int (nI 1)), (2, .int r0), (0, .ref o), (1, .int (nI un))] dX12_text_107 (by decide) rfl ?_
          refine j_aload_n C 2 dX12_text_108 rfl ?_
          refine rg C (v := .int (V1 8)) 8 (by decide) kf12_109 rfl dX12_text_109 ?_
          refine j_v (nI ((readF (tapF row) nt un).2.1)) h8 ?_
          refine j_istore C [(4, .int (nI ((readF (tapF row) nt un).2.1))), (3, .int (nI 1)), (2, .int r0), (0, .ref o), (1, .int (nI un))] dX12_text_112 (by decide) rfl ?_
          refine j_iload_n C 1 dX12_text_114 rfl ?_
          refine j_if_ne C 130 dX12_text_115 (by decide) (fun c115 => ?_) (fun c115 => ?_)
          · rw [show (0 : Int32) = nI 0 from rfl, nI_eq (by omega) (by omega)] at c115
            refine j_aload_n C 3 dX12_text_130 rfl ?_
            refine rg C (v := .ref (q 0)) 0 (by decide) kf12_7 rfl dX12_text_131 ?_
            refine j_iconst C (v := (nI 4)) dX12_text_134 (by decide) ?_
            refine j_iconst C (v := (nI 0)) dX12_text_135 (by decide) ?_
            refine rs_row C 4 rfl (by omega) dX12_text_136 ?_
            refine j_iload_n C 1 dX12_text_137 rfl ?_
            refine j_if_eq C 145 dX12_text_138 (by decide) (fun c138 => ?_) (fun c138 => ?_)
            · rw [show (0 : Int32) = nI 0 from rfl, nI_eq (by omega) (by omega)] at c138
              exact absurd c138 c115
            · rw [show (0 : Int32) = nI 0 from rfl, nI_eq (by omega) (by omega)] at c138
              refine j_iconst C (v := (nI 1)) dX12_text_141 (by decide) ?_
              refine j_goto C 150 dX12_text_142 (by decide) ?_
              refine j_iret C dX12_text_150 ?_
              unfold sp_text
              rw [if_pos c6, e4, tN_nI (n := nt) (by omega), tN_nI (n := un) (by omega)]
              rw [if_pos c94]
              unfold newT
              rw [e4]
              exact ⟨rfl, EQ.ve hV1⟩
          · rw [show (0 : Int32) = nI 0 from rfl, nI_eq (by omega) (by omega)] at c115
            exfalso; omega
    · rw [nI_leI (by omega) (by omega)] at c33
      refine j_aload_n C 0 dX12_text_36 rfl ?_
      refine rg C (v := .ref (q 0)) 0 (by decide) kf12_7 rfl dX12_text_37 ?_
      refine j_sipush C (v := (nI 160)) dX12_text_40 (by decide) ?_
      refine j_bipush C (v := (nI 50)) dX12_text_43 (by decide) ?_
      refine j_iload_n C 1 dX12_text_45 rfl ?_
      refine j_imulN C dX12_text_46 ?_
      refine j_iaddN C dX12_text_47 ?_
      refine j_iload_n C 2 dX12_text_48 rfl ?_
      refine j_iaddN C dX12_text_49 ?_
      refine j_aload_n C 0 dX12_text_50 rfl ?_
      refine rg C (v := .ref (q 0)) 0 (by decide) kf12_7 rfl dX12_text_51 ?_
      refine j_bipush C (v := (nI 90)) dX12_text_54 (by decide) ?_
      refine j_iload_n C 2 dX12_text_56 rfl ?_
      refine j_iaddN C dX12_text_57 ?_
      refine rl_row C (90 + i) rfl (by omega) dX12_text_58 ?_
      refine rs_row C (160 + 50 * un + i) rfl (by omega) dX12_text_59 ?_
      refine j_iinc C (v := (nI (i + 1))) 2 [(2, .int (nI (i + 1))), (0, .ref o), (1, .int (nI un))] dX12_text_60 rfl (nI_1 _) (by decide) rfl ?_
      refine j_goto C 30 dX12_text_63 (by decide) ?_
      refine j_L [1, 2, 0] [(0, .ref o), (1, .int (nI un)), (2, .int (nI (i + 1)))] rfl ?_
      rw [tapW_s row (by omega)]
      exact ih (i + 1) (by omega) (by omega)
  · replace c6 := bI_f c6
    refine j_aload_n C 0 dX12_text_9 rfl ?_
    refine j_ldc C (-1000000001) dX12_text_10 kc12_55 ?_
    refine j_callV (As := [.int (-1000000001)]) (rest := []) C vw12_errs (c_errs 1 (by decide) (by decide)) rRcv rfl (Nat.le_of_ble_eq_true rfl) dX12_text_12 (by decide) ?_
    rintro _ _ ⟨rfl, rfl⟩
    refine j_iret C dX12_text_15 ?_
    unfold sp_text
    rw [if_neg c6]
    exact ⟨rfl, EQ.rf⟩

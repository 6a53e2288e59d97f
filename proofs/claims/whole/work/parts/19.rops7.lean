/-! The reference: best, brings. -/
theorem Iv_at {row : Nat → Int32} {nc np nw p c : Nat} (hI : Iv row nc np nw) (hp : p < 6) (hc : c < nc) : Iv (upd row (30 + 6 * p + 2) (nI c)) nc np nw := by
  refine Iv_of hI (FR_p hp (by omega) (by omega)) ?_ ?_
  · intro p' hp'
    obtain ⟨-, -, k2, k3, k4, k5⟩ := hI.2.2.2.1 p' hp'
    refine ⟨?_, ?_, ?_, ?_⟩
    · by_cases e : p' = p
      · subst e; rw [pk_us]; exact ⟨c, hc, rfl⟩
      · rw [pk_un (by omega)]; exact k2
    · rw [pk_un (by omega)]; exact k3
    · rw [pk_un (by omega)]; exact k4
    · rw [pk_un (by omega)]; exact k5
  · intro c' hc'
    have := hI.1.2.2
    rw [pk_un (by omega)]; exact hI.2.2.2.2.1 c' hc'
def bsV (V row : Nat → Int32) (np nw p n c : Nat) : Int32 := dawnsF np (wv V row nw) (upd row (30 + 6 * p + 2) (nI c)) n (30 + 6 * p + 4)
def bsF (V row : Nat → Int32) (np nw p n : Nat) : Nat → Nat × Int32
  | 0 => (0, -1)
  | c + 1 => if (bsF V row np nw p n c).2 < bsV V row np nw p n c then (c, bsV V row np nw p n c) else bsF V row np nw p n c
def sp_best (V row kept tried bf fd pk bo so sh mv tr : Nat → Int32) (p n what : Int32) : Int32 × RS := if inn p 0 (row 3 - 1) ∧ inn n (nI 0) (nI 60) ∧ inn what (nI 0) (nI 1) then (if what = 0 then nI (bsF V row (tN (row 3)) (tN (row 8)) (tN p) (tN n) (tN (row 2))).1 else (bsF V row (tN (row 3)) (tN (row 8)) (tN p) (tN n) (tN (row 2))).2, sR V row kept tried bf fd pk bo so sh mv tr) else er V row kept tried bf fd pk bo so sh mv tr (-1000000001) 1
abbrev brV (V : Nat → Int32) (p : Nat) (x : Int32) : Nat → Int32 := upd (upd V 18 (nI p)) 19 x
/-- what one picks at dawn k, so much weighing on one -/
def brK (V row : Nat → Int32) (np nw p : Nat) (x : Int32) (k : Nat) : Int32 := pickV (pksF np (wv (brV V p x) row nw) (dawnsF np (wv (brV V p x) row nw) row k) p) np (wv (brV V p x) row nw p) p
abbrev brP (V row sh : Nat → Int32) (np nw p s z : Nat) (x : Int32) : Prop := ∀ k, k < z → brK V row np nw p x k = sh (40 * s + k)
def brF (V row sh : Nat → Int32) (np nw p s z : Nat) : Nat → Nat × Int32
  | 0 => (0, nI 0)
  | i + 1 => if brP V row sh np nw p s z (nI 99 - nI i) then ((brF V row sh np nw p s z i).1 + 1, nI 99 - nI i) else brF V row sh np nw p s z i
theorem brF_le (V row sh : Nat → Int32) (np nw p s z i : Nat) : (brF V row sh np nw p s z i).1 ≤ i := by
  induction i with
  | zero => exact Nat.le_refl _
  | succ i ih => unfold brF; split
                 · dsimp only; omega
                 · omega
def sp_brings (V row kept tried bf fd pk bo so sh mv tr : Nat → Int32) (s p what : Int32) : Int32 × RS := if inn s 0 3 ∧ inn p 0 (row 3 - 1) ∧ inn what (nI 0) (nI 1) then (if bo (tN s) = 0 then er V row kept tried bf fd pk bo so sh mv tr (-1000000002) 2 else if what = nI 1 ∧ (brF V row sh (tN (row 3)) (tN (row 8)) (tN p) (tN s) (tN (so (tN s))) 100).1 = 0 then er V row kept tried bf fd pk bo so sh mv tr (-1000000002) 2 else (if what = 0 then nI (brF V row sh (tN (row 3)) (tN (row 8)) (tN p) (tN s) (tN (so (tN s))) 100).1 else (brF V row sh (tN (row 3)) (tN (row 8)) (tN p) (tN s) (tN (so (tN s))) 100).2, sR V row kept tried bf fd pk bo so sh mv tr)) else er V row kept tried bf fd pk bo so sh mv tr (-1000000001) 1
theorem wg_0 : ∀ i, i ≤ 100 → (nI 99 - nI i < 0 ↔ i = 100) := by decide +kernel
theorem wg_s : ∀ i, i ≤ 100 → nI 99 - nI i - nI 1 = nI 99 - nI (i + 1) := by decide +kernel

theorem dX12_best_0 : decode cX12_best 0 = .ok (.aload_n 0, 1) := by decide +kernel
theorem dX12_best_1 : decode cX12_best 1 = .ok (.iload_n 1, 1) := by decide +kernel
theorem dX12_best_2 : decode cX12_best 2 = .ok (.invokevirtual 80, 3) := by decide +kernel
theorem dX12_best_5 : decode cX12_best 5 = .ok (.ifCond .eq 22, 3) := by decide +kernel
theorem dX12_best_8 : decode cX12_best 8 = .ok (.iload_n 2, 1) := by decide +kernel
theorem dX12_best_9 : decode cX12_best 9 = .ok (.iconst 0, 1) := by decide +kernel
theorem dX12_best_10 : decode cX12_best 10 = .ok (.bipush 60, 2) := by decide +kernel
theorem dX12_best_12 : decode cX12_best 12 = .ok (.invokestatic 51, 3) := by decide +kernel
theorem dX12_best_15 : decode cX12_best 15 = .ok (.ifCond .eq 12, 3) := by decide +kernel
theorem dX12_best_18 : decode cX12_best 18 = .ok (.iload_n 3, 1) := by decide +kernel
theorem dX12_best_19 : decode cX12_best 19 = .ok (.iconst 0, 1) := by decide +kernel
theorem dX12_best_20 : decode cX12_best 20 = .ok (.iconst 1, 1) := by decide +kernel
theorem dX12_best_21 : decode cX12_best 21 = .ok (.invokestatic 51, 3) := by decide +kernel
theorem dX12_best_24 : decode cX12_best 24 = .ok (.ifCond .ne 10, 3) := by decide +kernel
theorem dX12_best_27 : decode cX12_best 27 = .ok (.aload_n 0, 1) := by decide +kernel
theorem dX12_best_28 : decode cX12_best 28 = .ok (.ldc 55, 2) := by decide +kernel
theorem dX12_best_30 : decode cX12_best 30 = .ok (.invokevirtual 56, 3) := by decide +kernel
theorem dX12_best_33 : decode cX12_best 33 = .ok (.ireturn, 1) := by decide +kernel
theorem dX12_best_34 : decode cX12_best 34 = .ok (.iconst 0, 1) := by decide +kernel
theorem dX12_best_35 : decode cX12_best 35 = .ok (.istore 4, 2) := by decide +kernel
theorem dX12_best_37 : decode cX12_best 37 = .ok (.iconst (-1), 1) := by decide +kernel
theorem dX12_best_38 : decode cX12_best 38 = .ok (.istore 5, 2) := by decide +kernel
theorem dX12_best_40 : decode cX12_best 40 = .ok (.aload_n 0, 1) := by decide +kernel
theorem dX12_best_41 : decode cX12_best 41 = .ok (.aload_n 0, 1) := by decide +kernel
theorem dX12_best_42 : decode cX12_best 42 = .ok (.getfield 7, 3) := by decide +kernel
theorem dX12_best_45 : decode cX12_best 45 = .ok (.aload_n 0, 1) := by decide +kernel
theorem dX12_best_46 : decode cX12_best 46 = .ok (.getfield 16, 3) := by decide +kernel
theorem dX12_best_49 : decode cX12_best 49 = .ok (.invokevirtual 171, 3) := by decide +kernel
theorem dX12_best_52 : decode cX12_best 52 = .ok (.iconst 0, 1) := by decide +kernel
theorem dX12_best_53 : decode cX12_best 53 = .ok (.istore 6, 2) := by decide +kernel
theorem dX12_best_55 : decode cX12_best 55 = .ok (.iload 6, 2) := by decide +kernel
theorem dX12_best_57 : decode cX12_best 57 = .ok (.aload_n 0, 1) := by decide +kernel
theorem dX12_best_58 : decode cX12_best 58 = .ok (.getfield 16, 3) := by decide +kernel
theorem dX12_best_61 : decode cX12_best 61 = .ok (.iconst 2, 1) := by decide +kernel
theorem dX12_best_62 : decode cX12_best 62 = .ok (.iaload, 1) := by decide +kernel
theorem dX12_best_63 : decode cX12_best 63 = .ok (.if_icmp .ge 74, 3) := by decide +kernel
theorem dX12_best_66 : decode cX12_best 66 = .ok (.aload_n 0, 1) := by decide +kernel
theorem dX12_best_67 : decode cX12_best 67 = .ok (.iload_n 1, 1) := by decide +kernel
theorem dX12_best_68 : decode cX12_best 68 = .ok (.iconst 2, 1) := by decide +kernel
theorem dX12_best_69 : decode cX12_best 69 = .ok (.iload 6, 2) := by decide +kernel
theorem dX12_best_71 : decode cX12_best 71 = .ok (.invokevirtual 76, 3) := by decide +kernel
theorem dX12_best_74 : decode cX12_best 74 = .ok (.aload_n 0, 1) := by decide +kernel
theorem dX12_best_75 : decode cX12_best 75 = .ok (.iload_n 2, 1) := by decide +kernel
theorem dX12_best_76 : decode cX12_best 76 = .ok (.invokevirtual 200, 3) := by decide +kernel
theorem dX12_best_79 : decode cX12_best 79 = .ok (.aload_n 0, 1) := by decide +kernel
theorem dX12_best_80 : decode cX12_best 80 = .ok (.iload_n 1, 1) := by decide +kernel
theorem dX12_best_81 : decode cX12_best 81 = .ok (.iconst 4, 1) := by decide +kernel
theorem dX12_best_82 : decode cX12_best 82 = .ok (.invokevirtual 69, 3) := by decide +kernel
theorem dX12_best_85 : decode cX12_best 85 = .ok (.istore 7, 2) := by decide +kernel
theorem dX12_best_87 : decode cX12_best 87 = .ok (.aload_n 0, 1) := by decide +kernel
theorem dX12_best_88 : decode cX12_best 88 = .ok (.aload_n 0, 1) := by decide +kernel
theorem dX12_best_89 : decode cX12_best 89 = .ok (.getfield 16, 3) := by decide +kernel
theorem dX12_best_92 : decode cX12_best 92 = .ok (.aload_n 0, 1) := by decide +kernel
theorem dX12_best_93 : decode cX12_best 93 = .ok (.getfield 7, 3) := by decide +kernel
theorem dX12_best_96 : decode cX12_best 96 = .ok (.invokevirtual 171, 3) := by decide +kernel
theorem dX12_best_99 : decode cX12_best 99 = .ok (.iload 7, 2) := by decide +kernel
theorem dX12_best_101 : decode cX12_best 101 = .ok (.iload 5, 2) := by decide +kernel
theorem dX12_best_103 : decode cX12_best 103 = .ok (.if_icmp .le 8, 3) := by decide +kernel
theorem dX12_best_106 : decode cX12_best 106 = .ok (.iload 6, 2) := by decide +kernel
theorem dX12_best_108 : decode cX12_best 108 = .ok (.goto 5, 3) := by decide +kernel
theorem dX12_best_111 : decode cX12_best 111 = .ok (.iload 4, 2) := by decide +kernel
theorem dX12_best_113 : decode cX12_best 113 = .ok (.istore 4, 2) := by decide +kernel
theorem dX12_best_115 : decode cX12_best 115 = .ok (.iload 7, 2) := by decide +kernel
theorem dX12_best_117 : decode cX12_best 117 = .ok (.iload 5, 2) := by decide +kernel
theorem dX12_best_119 : decode cX12_best 119 = .ok (.if_icmp .le 8, 3) := by decide +kernel
theorem dX12_best_122 : decode cX12_best 122 = .ok (.iload 7, 2) := by decide +kernel
theorem dX12_best_124 : decode cX12_best 124 = .ok (.goto 5, 3) := by decide +kernel
theorem dX12_best_127 : decode cX12_best 127 = .ok (.iload 5, 2) := by decide +kernel
theorem dX12_best_129 : decode cX12_best 129 = .ok (.istore 5, 2) := by decide +kernel
theorem dX12_best_131 : decode cX12_best 131 = .ok (.iinc 6 1, 3) := by decide +kernel
theorem dX12_best_134 : decode cX12_best 134 = .ok (.goto (-79), 3) := by decide +kernel
theorem dX12_best_137 : decode cX12_best 137 = .ok (.iload_n 3, 1) := by decide +kernel
theorem dX12_best_138 : decode cX12_best 138 = .ok (.ifCond .ne 8, 3) := by decide +kernel
theorem dX12_best_141 : decode cX12_best 141 = .ok (.iload 4, 2) := by decide +kernel
theorem dX12_best_143 : decode cX12_best 143 = .ok (.goto 5, 3) := by decide +kernel
theorem dX12_best_146 : decode cX12_best 146 = .ok (.iload 5, 2) := by decide +kernel
theorem dX12_best_148 : decode cX12_best 148 = .ok (.ireturn, 1) := by decide +kernel
set_option maxHeartbeats 2000000 in
set_option maxRecDepth 20000 in
theorem c_best {l : Launch} {D : va_G} {cI cG cW : ClassId} {o : Nat} {q : Nat → Nat} {V row kept tried bf fd pk bo so sh mv tr : Nat → Int32} {p n what : Int32} {nc np nw d nt nq : Nat} (hR : RKx row nc np nw d nt nq) : Ci l yX12_best cX12_best 8 (some .int) 90 D (tyL cI cG cW) (wR cI o q) [.ref o, .int p, .int n, .int what] (sR V row kept tried bf fd pk bo so sh mv tr) (fun r τ => r = (sp_best V row kept tried bf fd pk bo so sh mv tr p n what).1 ∧ EQ τ (sp_best V row kept tried bf fd pk bo so sh mv tr p n what).2) := by
  refine Ci.of (by decide) (Nat.le_of_ble_eq_true rfl) ?_
  intro p_ e_ s_ m_ b_ M_ c_ A_ C
  replace C : Cx _ _ _ _ _ _ _ _ RX12 _ _ _ _ := C
  refine j_L [0, 1, 2, 3] [(0, .ref o), (1, .int p), (2, .int n), (3, .int what)] rfl ?_
  obtain ⟨hI, hW, ⟨e0, hd⟩, ⟨e4, ht⟩, ⟨e5, hq⟩, hB⟩ := id hR
  obtain ⟨⟨e2, hc2, hc10⟩, ⟨e3, hn6⟩, ⟨e8, hw8⟩, hP, hE, hLo, hT0, hT1⟩ := id hI
  have hIc := hI
  refine j_aload_n C 0 dX12_best_0 rfl ?_
  refine j_iload_n C 1 dX12_best_1 rfl ?_
  refine j_callV (As := [.int p]) (rest := []) C vw12_isPerson (c_isPerson) rRcv rfl (Nat.le_of_ble_eq_true rfl) dX12_best_2 (by decide) ?_
  rintro _ _ ⟨rfl, rfl⟩
  refine j_if_eq C 27 dX12_best_5 (by decide) (fun c5 => ?_) (fun c5 => ?_)
  · replace c5 := bI_f c5
    refine j_aload_n C 0 dX12_best_27 rfl ?_
    refine j_ldc C (-1000000001) dX12_best_28 kc12_55 ?_
    refine j_callV (As := [.int (-1000000001)]) (rest := []) C vw12_errs (c_errs 1 (by decide) (by decide)) rRcv rfl (Nat.le_of_ble_eq_true rfl) dX12_best_30 (by decide) ?_
    rintro _ _ ⟨rfl, rfl⟩
    refine j_iret C dX12_best_33 ?_
    unfold sp_best
    rw [if_neg (fun h => c5 h.1)]
    exact ⟨rfl, EQ.rf⟩
  · replace c5 := bI_t c5
    obtain ⟨pn, hpn, rfl⟩ := inn_row c5 e3 (by omega)
    refine j_iload_n C 2 dX12_best_8 rfl ?_
    refine j_iconst C (v := (nI 0)) dX12_best_9 (by decide) ?_
    refine j_bipush C (v := (nI 60)) dX12_best_10 (by decide) ?_
    refine j_callS (As := [.int n, .int (nI 0), .int (nI 60)]) (rest := []) C vw12_in (c_in) rfl (Nat.le_of_ble_eq_true rfl) dX12_best_12 (by decide) ?_
    rintro _ _ ⟨rfl, rfl⟩
    refine j_if_eq C 27 dX12_best_15 (by decide) (fun c15 => ?_) (fun c15 => ?_)
    · replace c15 := bI_f c15
      refine j_aload_n C 0 dX12_best_27 rfl ?_
      refine j_ldc C (-1000000001) dX12_best_28 kc12_55 ?_
      refine j_callV (As := [.int (-1000000001)]) (rest := []) C vw12_errs (c_errs 1 (by decide) (by decide)) rRcv rfl (Nat.le_of_ble_eq_true rfl) dX12_best_30 (by decide) ?_
      rintro _ _ ⟨rfl, rfl⟩
      refine j_iret C dX12_best_33 ?_
      unfold sp_best
      rw [if_neg (fun h => c15 h.2.1)]
      exact ⟨rfl, EQ.rf⟩
    · replace c15 := bI_t c15
      obtain ⟨nn, gnn, hnn, rfl⟩ := inn_lit c15 (by omega)
      refine j_iload_n C 3 dX12_best_18 rfl ?_
      refine j_iconst C (v := (nI 0)) dX12_best_19 (by decide) ?_
      refine j_iconst C (v := (nI 1)) dX12_best_20 (by decide) ?_
      refine j_callS (As := [.int what, .int (nI 0), .int (nI 1)]) (rest := []) C vw12_in (c_in) rfl (Nat.le_of_ble_eq_true rfl) dX12_best_21 (by decide) ?_
      rintro _ _ ⟨rfl, rfl⟩
      refine j_if_ne C 34 dX12_best_24 (by decide) (fun c24 => ?_) (fun c24 => ?_)
      · replace c24 := bI_t c24
        refine j_iconst C (v := (nI 0)) dX12_best_34 (by decide) ?_
        refine j_istore C [(4, .int (nI 0)), (0, .ref o), (1, .int (nI pn)), (2, .int (nI nn)), (3, .int what)] dX12_best_35 (by decide) rfl ?_
        refine j_iconst C (v := (-1)) dX12_best_37 (by decide) ?_
        refine j_istore C [(5, .int (-1)), (4, .int (nI 0)), (0, .ref o), (1, .int (nI pn)), (2, .int (nI nn)), (3, .int what)] dX12_best_38 (by decide) rfl ?_
        refine j_aload_n C 2 dX12_best_40 rfl ?_
        refine j_aload_n C 2 dX12_best_41 rfl ?_
        refine rg C (v := .ref (q 0)) 0 (by decide) kf12_7 rfl dX12_best_42 ?_
        refine j_aload_n C 2 dX12_best_45 rfl ?_
        refine rg C (v := .ref (q 2)) 2 (by decide) kf12_16 rfl dX12_best_46 ?_
        refine j_callVv (As := [.ref (q 0), .ref (q 2)]) (rest := []) C vw12_moveAll (c_moveAll_row_tried) rRcv rfl (Nat.le_of_ble_eq_true rfl) dX12_best_49 (by decide) ?_
        rintro _ rfl
        refine j_iconst C (v := (nI 0)) dX12_best_52 (by decide) ?_
        refine j_istore C [(6, .int (nI 0)), (5, .int (-1)), (4, .int (nI 0)), (0, .ref o), (1, .int (nI pn)), (2, .int (nI nn)), (3, .int what)] dX12_best_53 (by decide) rfl ?_
        refine j_L [3, 4, 5, 6, 2, 1, 0] [(0, .ref o), (1, .int (nI pn)), (2, .int (nI nn)), (3, .int what), (4, .int (nI 0)), (5, .int (-1)), (6, .int (nI 0))] rfl ?_
        refine j_loop (X := Nat × (Nat → Int32) × (Nat → Int32)) (fun (z : Nat × (Nat → Int32) × (Nat → Int32)) => match z with | (c, V1, pk1) => c ≤ nc ∧ VE V1 V) (fun (z : Nat × (Nat → Int32) × (Nat → Int32)) => match z with | (c, V1, pk1) => nc - c) (fun (z : Nat × (Nat → Int32) × (Nat → Int32)) => match z with | (c, V1, pk1) => (sR V1 row kept row bf fd pk1 bo so sh mv tr)) (fun (z : Nat × (Nat → Int32) × (Nat → Int32)) => match z with | (c, V1, pk1) => [(0, .ref o), (1, .int (nI pn)), (2, .int (nI nn)), (3, .int what), (4, .int (nI (Prod.fst (bsF V row np nw pn nn c)))), (5, .int (Prod.snd (bsF V row np nw pn nn c))), (6, .int (nI c))]) (0, V, pk) (⟨Nat.zero_le _, VE.rf⟩) rfl rfl ?_
        rintro ⟨c, V1, pk1⟩ ⟨hc, hV⟩ ih
        try dsimp only at ih ⊢
        refine j_iload C 6 dX12_best_55 rfl ?_
        refine j_aload_n C 0 dX12_best_57 rfl ?_
        refine rg C (v := .ref (q 2)) 2 (by decide) kf12_16 rfl dX12_best_58 ?_
        refine j_iconst C (v := (nI 2)) dX12_best_61 (by decide) ?_
        refine rl_tried C 2 rfl (by omega) dX12_best_62 ?_
        refine j_v (nI nc) e2 ?_
        refine j_icmp_ge C 137 dX12_best_63 (by decide) (fun c63 => ?_) (fun c63 => ?_)
        · rw [nI_leI (by omega) (by omega)] at c63
          obtain rfl : nc = c := by omega
          refine j_iload_n C 3 dX12_best_137 rfl ?_
          refine j_if_ne C 146 dX12_best_138 (by decide) (fun c138 => ?_) (fun c138 => ?_)
          · skip
            refine j_iload C 5 dX12_best_146 rfl ?_
            refine j_iret C dX12_best_148 ?_
            unfold sp_best
            rw [if_pos ⟨c5, c15, c24⟩, tN_nI (n := pn) (by omega), tN_nI (n := nn) (by omega), e8, e3, e2, tN_nI (n := nw) (by omega), tN_nI (n := np) (by omega), tN_nI (n := nc) (by omega), if_neg c138]
            exact ⟨rfl, EQ.ve hV⟩
          · skip
            refine j_iload C 4 dX12_best_141 rfl ?_
            refine j_goto C 148 dX12_best_143 (by decide) ?_
            refine j_iret C dX12_best_148 ?_
            unfold sp_best
            rw [if_pos ⟨c5, c15, c24⟩, tN_nI (n := pn) (by omega), tN_nI (n := nn) (by omega), e8, e3, e2, tN_nI (n := nw) (by omega), tN_nI (n := np) (by omega), tN_nI (n := nc) (by omega), if_pos c138]
            exact ⟨rfl, EQ.ve hV⟩
        · rw [nI_leI (by omega) (by omega)] at c63
          refine j_aload_n C 0 dX12_best_66 rfl ?_
          refine j_iload_n C 1 dX12_best_67 rfl ?_
          refine j_iconst C (v := (nI 2)) dX12_best_68 (by decide) ?_
          refine j_iload C 6 dX12_best_69 rfl ?_
          refine j_callVv (As := [.int (nI pn), .int (nI 2), .int (nI c)]) (rest := []) C vw12_gets (c_gets pn 2 (by omega)) rRcv rfl (Nat.le_of_ble_eq_true rfl) dX12_best_71 (by decide) ?_
          rintro _ rfl
          have hIc := Iv_at (c := c) hI (show pn < 6 by omega) (by omega)
          have hwv := wv_eq nw hV (FR_p (r := row) (p := pn) (j := 2) (x := nI c) (by omega) (by omega) (by omega))
          refine j_aload_n C 0 dX12_best_74 rfl ?_
          refine j_iload_n C 2 dX12_best_75 rfl ?_
          refine j_callVv (As := [.int (nI nn)]) (rest := []) C vw12_passes (c_passes nn (by omega) hIc) rRcv rfl (Nat.le_of_ble_eq_true rfl) dX12_best_76 (by decide) ?_
          rintro _ ⟨Vx1, pkx2, hVx1, rfl⟩
          rw [hwv]
          refine j_aload_n C 0 dX12_best_79 rfl ?_
          refine j_iload_n C 1 dX12_best_80 rfl ?_
          refine j_iconst C (v := (nI 4)) dX12_best_81 (by decide) ?_
          refine j_callV (As := [.int (nI pn), .int (nI 4)]) (rest := []) C vw12_its (c_its pn 4 (by omega)) rRcv rfl (Nat.le_of_ble_eq_true rfl) dX12_best_82 (by decide) ?_
          rintro _ _ ⟨rfl, rfl⟩
          refine j_v (bsV V row np nw pn nn c) rfl ?_
          refine j_istore C [(7, .int (bsV V row np nw pn nn c)), (0, .ref o), (1, .int (nI pn)), (2, .int (nI nn)), (3, .int what), (4, .int (nI (Prod.fst (bsF V row np nw pn nn c)))), (5, .int (Prod.snd (bsF V row np nw pn nn c))), (6, .int (nI c))] dX12_best_85 (by decide) rfl ?_
          refine j_aload_n C 1 dX12_best_87 rfl ?_
          refine j_aload_n C 1 dX12_best_88 rfl ?_
          refine rg C (v := .ref (q 2)) 2 (by decide) kf12_16 rfl dX12_best_89 ?_
          refine j_aload_n C 1 dX12_best_92 rfl ?_
          refine rg C (v := .ref (q 0)) 0 (by decide) kf12_7 rfl dX12_best_93 ?_
          refine j_callVv (As := [.ref (q 2), .ref (q 0)]) (rest := []) C vw12_moveAll (c_moveAll_tried_row) rRcv rfl (Nat.le_of_ble_eq_true rfl) dX12_best_96 (by decide) ?_
          rintro _ rfl
          refine j_iload C 0 dX12_best_99 rfl ?_
          refine j_iload C 6 dX12_best_101 rfl ?_
          refine j_icmp_le C 111 dX12_best_103 (by decide) (fun c103 => ?_) (fun c103 => ?_)
          · skip
            refine j_iload C 5 dX12_best_111 rfl ?_
            refine j_istore C [(4, .int (nI (Prod.fst (bsF V row np nw pn nn c)))), (7, .int (bsV V row np nw pn nn c)), (0, .ref o), (1, .int (nI pn)), (2, .int (nI nn)), (3, .int what), (5, .int (Prod.snd (bsF V row np nw pn nn c))), (6, .int (nI c))] dX12_best_113 (by decide) rfl ?_
            refine j_iload C 1 dX12_best_115 rfl ?_
            refine j_iload C 6 dX12_best_117 rfl ?_
            refine j_icmp_le C 127 dX12_best_119 (by decide) (fun c119 => ?_) (fun c119 => ?_)
            · skip
              refine j_iload C 6 dX12_best_127 rfl ?_
              refine j_istore C [(5, .int (Prod.snd (bsF V row np nw pn nn c))), (4, .int (nI (Prod.fst (bsF V row np nw pn nn c)))), (7, .int (bsV V row np nw pn nn c)), (0, .ref o), (1, .int (nI pn)), (2, .int (nI nn)), (3, .int what), (6, .int (nI c))] dX12_best_129 (by decide) rfl ?_
              refine j_iinc C (v := (nI (c + 1))) 7 [(6, .int (nI (c + 1))), (5, .int (Prod.snd (bsF V row np nw pn nn c))), (4, .int (nI (Prod.fst (bsF V row np nw pn nn c)))), (7, .int (bsV V row np nw pn nn c)), (0, .ref o), (1, .int (nI pn)), (2, .int (nI nn)), (3, .int what)] dX12_best_131 rfl (nI_1 _) (by decide) rfl ?_
              refine j_goto C 55 dX12_best_134 (by decide) ?_
              refine j_L [4, 5, 6, 7, 2, 1, 0] [(0, .ref o), (1, .int (nI pn)), (2, .int (nI nn)), (3, .int what), (4, .int (nI (Prod.fst (bsF V row np nw pn nn c)))), (5, .int (Prod.snd (bsF V row np nw pn nn c))), (6, .int (nI (c + 1)))] rfl ?_
              have hbs : bsF V row np nw pn nn (c + 1) = _ := if_neg (show ¬ (bsF V row np nw pn nn c).2 < bsV V row np nw pn nn c from lnl c103)
              refine j_eqL [(0, .ref o), (1, .int (nI pn)), (2, .int (nI nn)), (3, .int what), (4, .int (nI (Prod.fst (bsF V row np nw pn nn (c + 1))))), (5, .int (Prod.snd (bsF V row np nw pn nn (c + 1)))), (6, .int (nI (c + 1)))] (by rw [hbs]; first | done | rfl) ?_
              exact ih (c + 1, Vx1, pkx2) ⟨by dsimp only; omega, hVx1.tr hV⟩ (by dsimp only; omega)
            · skip
              exact absurd c103 c119
          · skip
            refine j_iload C 7 dX12_best_106 rfl ?_
            refine j_goto C 113 dX12_best_108 (by decide) ?_
            refine j_istore C [(4, .int (nI c)), (7, .int (bsV V row np nw pn nn c)), (0, .ref o), (1, .int (nI pn)), (2, .int (nI nn)), (3, .int what), (5, .int (Prod.snd (bsF V row np nw pn nn c))), (6, .int (nI c))] dX12_best_113 (by decide) rfl ?_
            refine j_iload C 1 dX12_best_115 rfl ?_
            refine j_iload C 6 dX12_best_117 rfl ?_
            refine j_icmp_le C 127 dX12_best_119 (by decide) (fun c119 => ?_) (fun c119 => ?_)
            · skip
              exact absurd c119 c103
            · skip
              refine j_iload C 1 dX12_best_122 rfl ?_
              refine j_goto C 129 dX12_best_124 (by decide) ?_
              refine j_istore C [(5, .int (bsV V row np nw pn nn c)), (4, .int (nI c)), (7, .int (bsV V row np nw pn nn c)), (0, .ref o), (1, .int (nI pn)), (2, .int (nI nn)), (3, .int what), (6, .int (nI c))] dX12_best_129 (by decide) rfl ?_
              refine j_iinc C (v := (nI (c + 1))) 7 [(6, .int (nI (c + 1))), (5, .int (bsV V row np nw pn nn c)), (4, .int (nI c)), (7, .int (bsV V row np nw pn nn c)), (0, .ref o), (1, .int (nI pn)), (2, .int (nI nn)), (3, .int what)] dX12_best_131 rfl (nI_1 _) (by decide) rfl ?_
              refine j_goto C 55 dX12_best_134 (by decide) ?_
              refine j_L [4, 5, 6, 7, 2, 1, 0] [(0, .ref o), (1, .int (nI pn)), (2, .int (nI nn)), (3, .int what), (4, .int (nI c)), (5, .int (bsV V row np nw pn nn c)), (6, .int (nI (c + 1)))] rfl ?_
              have hbs : bsF V row np nw pn nn (c + 1) = _ := if_pos (show  (bsF V row np nw pn nn c).2 < bsV V row np nw pn nn c from nle c103)
              refine j_eqL [(0, .ref o), (1, .int (nI pn)), (2, .int (nI nn)), (3, .int what), (4, .int (nI (Prod.fst (bsF V row np nw pn nn (c + 1))))), (5, .int (Prod.snd (bsF V row np nw pn nn (c + 1)))), (6, .int (nI (c + 1)))] (by rw [hbs]; first | done | rfl) ?_
              exact ih (c + 1, Vx1, pkx2) ⟨by dsimp only; omega, hVx1.tr hV⟩ (by dsimp only; omega)
      · replace c24 := bI_f c24
        refine j_aload_n C 0 dX12_best_27 rfl ?_
        refine j_ldc C (-1000000001) dX12_best_28 kc12_55 ?_
        refine j_callV (As := [.int (-1000000001)]) (rest := []) C vw12_errs (c_errs 1 (by decide) (by decide)) rRcv rfl (Nat.le_of_ble_eq_true rfl) dX12_best_30 (by decide) ?_
        rintro _ _ ⟨rfl, rfl⟩
        refine j_iret C dX12_best_33 ?_
        unfold sp_best
        rw [if_neg (fun h => c24 h.2.2)]
        exact ⟨rfl, EQ.rf⟩
theorem dX12_brings_0 : decode cX12_brings 0 = .ok (.iload_n 1, 1) := by decide +kernel
theorem dX12_brings_1 : decode cX12_brings 1 = .ok (.invokestatic 220, 3) := by decide +kernel
theorem dX12_brings_4 : decode cX12_brings 4 = .ok (.ifCond .eq 20, 3) := by decide +kernel
theorem dX12_brings_7 : decode cX12_brings 7 = .ok (.aload_n 0, 1) := by decide +kernel
theorem dX12_brings_8 : decode cX12_brings 8 = .ok (.iload_n 2, 1) := by decide +kernel
theorem dX12_brings_9 : decode cX12_brings 9 = .ok (.invokevirtual 80, 3) := by decide +kernel
theorem dX12_brings_12 : decode cX12_brings 12 = .ok (.ifCond .eq 12, 3) := by decide +kernel
theorem dX12_brings_15 : decode cX12_brings 15 = .ok (.iload_n 3, 1) := by decide +kernel
theorem dX12_brings_16 : decode cX12_brings 16 = .ok (.iconst 0, 1) := by decide +kernel
theorem dX12_brings_17 : decode cX12_brings 17 = .ok (.iconst 1, 1) := by decide +kernel
theorem dX12_brings_18 : decode cX12_brings 18 = .ok (.invokestatic 51, 3) := by decide +kernel
theorem dX12_brings_21 : decode cX12_brings 21 = .ok (.ifCond .ne 10, 3) := by decide +kernel
theorem dX12_brings_24 : decode cX12_brings 24 = .ok (.aload_n 0, 1) := by decide +kernel
theorem dX12_brings_25 : decode cX12_brings 25 = .ok (.ldc 55, 2) := by decide +kernel
theorem dX12_brings_27 : decode cX12_brings 27 = .ok (.invokevirtual 56, 3) := by decide +kernel
theorem dX12_brings_30 : decode cX12_brings 30 = .ok (.ireturn, 1) := by decide +kernel
theorem dX12_brings_31 : decode cX12_brings 31 = .ok (.aload_n 0, 1) := by decide +kernel
theorem dX12_brings_32 : decode cX12_brings 32 = .ok (.getfield 35, 3) := by decide +kernel
theorem dX12_brings_35 : decode cX12_brings 35 = .ok (.iload_n 1, 1) := by decide +kernel
theorem dX12_brings_36 : decode cX12_brings 36 = .ok (.iaload, 1) := by decide +kernel
theorem dX12_brings_37 : decode cX12_brings 37 = .ok (.ifCond .ne 10, 3) := by decide +kernel
theorem dX12_brings_40 : decode cX12_brings 40 = .ok (.aload_n 0, 1) := by decide +kernel
theorem dX12_brings_41 : decode cX12_brings 41 = .ok (.ldc 213, 2) := by decide +kernel
theorem dX12_brings_43 : decode cX12_brings 43 = .ok (.invokevirtual 56, 3) := by decide +kernel
theorem dX12_brings_46 : decode cX12_brings 46 = .ok (.ireturn, 1) := by decide +kernel
theorem dX12_brings_47 : decode cX12_brings 47 = .ok (.iconst 0, 1) := by decide +kernel
theorem dX12_brings_48 : decode cX12_brings 48 = .ok (.istore 4, 2) := by decide +kernel
theorem dX12_brings_50 : decode cX12_brings 50 = .ok (.iconst 0, 1) := by decide +kernel
theorem dX12_brings_51 : decode cX12_brings 51 = .ok (.istore 5, 2) := by decide +kernel
theorem dX12_brings_53 : decode cX12_brings 53 = .ok (.aload_n 0, 1) := by decide +kernel
theorem dX12_brings_54 : decode cX12_brings 54 = .ok (.iload_n 2, 1) := by decide +kernel
theorem dX12_brings_55 : decode cX12_brings 55 = .ok (.putfield 29, 3) := by decide +kernel
theorem dX12_brings_58 : decode cX12_brings 58 = .ok (.aload_n 0, 1) := by decide +kernel
theorem dX12_brings_59 : decode cX12_brings 59 = .ok (.aload_n 0, 1) := by decide +kernel
theorem dX12_brings_60 : decode cX12_brings 60 = .ok (.getfield 7, 3) := by decide +kernel
theorem dX12_brings_63 : decode cX12_brings 63 = .ok (.aload_n 0, 1) := by decide +kernel
theorem dX12_brings_64 : decode cX12_brings 64 = .ok (.getfield 16, 3) := by decide +kernel
theorem dX12_brings_67 : decode cX12_brings 67 = .ok (.invokevirtual 171, 3) := by decide +kernel
theorem dX12_brings_70 : decode cX12_brings 70 = .ok (.aload_n 0, 1) := by decide +kernel
theorem dX12_brings_71 : decode cX12_brings 71 = .ok (.bipush 99, 2) := by decide +kernel
theorem dX12_brings_73 : decode cX12_brings 73 = .ok (.putfield 175, 3) := by decide +kernel
theorem dX12_brings_76 : decode cX12_brings 76 = .ok (.aload_n 0, 1) := by decide +kernel
theorem dX12_brings_77 : decode cX12_brings 77 = .ok (.getfield 175, 3) := by decide +kernel
theorem dX12_brings_80 : decode cX12_brings 80 = .ok (.ifCond .lt 119, 3) := by decide +kernel
theorem dX12_brings_83 : decode cX12_brings 83 = .ok (.iconst 1, 1) := by decide +kernel
theorem dX12_brings_84 : decode cX12_brings 84 = .ok (.istore 6, 2) := by decide +kernel
theorem dX12_brings_86 : decode cX12_brings 86 = .ok (.iconst 0, 1) := by decide +kernel
theorem dX12_brings_87 : decode cX12_brings 87 = .ok (.istore 7, 2) := by decide +kernel
theorem dX12_brings_89 : decode cX12_brings 89 = .ok (.iload 7, 2) := by decide +kernel
theorem dX12_brings_91 : decode cX12_brings 91 = .ok (.aload_n 0, 1) := by decide +kernel
theorem dX12_brings_92 : decode cX12_brings 92 = .ok (.getfield 38, 3) := by decide +kernel
theorem dX12_brings_95 : decode cX12_brings 95 = .ok (.iload_n 1, 1) := by decide +kernel
theorem dX12_brings_96 : decode cX12_brings 96 = .ok (.iaload, 1) := by decide +kernel
theorem dX12_brings_97 : decode cX12_brings 97 = .ok (.if_icmp .ge 46, 3) := by decide +kernel
theorem dX12_brings_100 : decode cX12_brings 100 = .ok (.iload 6, 2) := by decide +kernel
theorem dX12_brings_102 : decode cX12_brings 102 = .ok (.ifCond .eq 41, 3) := by decide +kernel
theorem dX12_brings_105 : decode cX12_brings 105 = .ok (.aload_n 0, 1) := by decide +kernel
theorem dX12_brings_106 : decode cX12_brings 106 = .ok (.invokevirtual 197, 3) := by decide +kernel
theorem dX12_brings_109 : decode cX12_brings 109 = .ok (.aload_n 0, 1) := by decide +kernel
theorem dX12_brings_110 : decode cX12_brings 110 = .ok (.getfield 32, 3) := by decide +kernel
theorem dX12_brings_113 : decode cX12_brings 113 = .ok (.iload_n 2, 1) := by decide +kernel
theorem dX12_brings_114 : decode cX12_brings 114 = .ok (.iaload, 1) := by decide +kernel
theorem dX12_brings_115 : decode cX12_brings 115 = .ok (.aload_n 0, 1) := by decide +kernel
theorem dX12_brings_116 : decode cX12_brings 116 = .ok (.getfield 41, 3) := by decide +kernel
theorem dX12_brings_119 : decode cX12_brings 119 = .ok (.bipush 40, 2) := by decide +kernel
theorem dX12_brings_121 : decode cX12_brings 121 = .ok (.iload_n 1, 1) := by decide +kernel
theorem dX12_brings_122 : decode cX12_brings 122 = .ok (.imul, 1) := by decide +kernel
theorem dX12_brings_123 : decode cX12_brings 123 = .ok (.iload 7, 2) := by decide +kernel
theorem dX12_brings_125 : decode cX12_brings 125 = .ok (.iadd, 1) := by decide +kernel
theorem dX12_brings_126 : decode cX12_brings 126 = .ok (.iaload, 1) := by decide +kernel
theorem dX12_brings_127 : decode cX12_brings 127 = .ok (.if_icmp .ne 7, 3) := by decide +kernel
theorem dX12_brings_130 : decode cX12_brings 130 = .ok (.iconst 1, 1) := by decide +kernel
theorem dX12_brings_131 : decode cX12_brings 131 = .ok (.goto 4, 3) := by decide +kernel
theorem dX12_brings_134 : decode cX12_brings 134 = .ok (.iconst 0, 1) := by decide +kernel
theorem dX12_brings_135 : decode cX12_brings 135 = .ok (.istore 6, 2) := by decide +kernel
theorem dX12_brings_137 : decode cX12_brings 137 = .ok (.iinc 7 1, 3) := by decide +kernel
theorem dX12_brings_140 : decode cX12_brings 140 = .ok (.goto (-51), 3) := by decide +kernel
theorem dX12_brings_143 : decode cX12_brings 143 = .ok (.aload_n 0, 1) := by decide +kernel
theorem dX12_brings_144 : decode cX12_brings 144 = .ok (.aload_n 0, 1) := by decide +kernel
theorem dX12_brings_145 : decode cX12_brings 145 = .ok (.getfield 16, 3) := by decide +kernel
theorem dX12_brings_148 : decode cX12_brings 148 = .ok (.aload_n 0, 1) := by decide +kernel
theorem dX12_brings_149 : decode cX12_brings 149 = .ok (.getfield 7, 3) := by decide +kernel
theorem dX12_brings_152 : decode cX12_brings 152 = .ok (.invokevirtual 171, 3) := by decide +kernel
theorem dX12_brings_155 : decode cX12_brings 155 = .ok (.iload 4, 2) := by decide +kernel
theorem dX12_brings_157 : decode cX12_brings 157 = .ok (.iload 6, 2) := by decide +kernel
theorem dX12_brings_159 : decode cX12_brings 159 = .ok (.ifCond .eq 7, 3) := by decide +kernel
theorem dX12_brings_162 : decode cX12_brings 162 = .ok (.iconst 1, 1) := by decide +kernel
theorem dX12_brings_163 : decode cX12_brings 163 = .ok (.goto 4, 3) := by decide +kernel
theorem dX12_brings_166 : decode cX12_brings 166 = .ok (.iconst 0, 1) := by decide +kernel
theorem dX12_brings_167 : decode cX12_brings 167 = .ok (.iadd, 1) := by decide +kernel
theorem dX12_brings_168 : decode cX12_brings 168 = .ok (.istore 4, 2) := by decide +kernel
theorem dX12_brings_170 : decode cX12_brings 170 = .ok (.iload 6, 2) := by decide +kernel
theorem dX12_brings_172 : decode cX12_brings 172 = .ok (.ifCond .eq 10, 3) := by decide +kernel
theorem dX12_brings_175 : decode cX12_brings 175 = .ok (.aload_n 0, 1) := by decide +kernel
theorem dX12_brings_176 : decode cX12_brings 176 = .ok (.getfield 175, 3) := by decide +kernel
theorem dX12_brings_179 : decode cX12_brings 179 = .ok (.goto 5, 3) := by decide +kernel
theorem dX12_brings_182 : decode cX12_brings 182 = .ok (.iload 5, 2) := by decide +kernel
theorem dX12_brings_184 : decode cX12_brings 184 = .ok (.istore 5, 2) := by decide +kernel
theorem dX12_brings_186 : decode cX12_brings 186 = .ok (.aload_n 0, 1) := by decide +kernel
theorem dX12_brings_187 : decode cX12_brings 187 = .ok (.dup, 1) := by decide +kernel
theorem dX12_brings_188 : decode cX12_brings 188 = .ok (.getfield 175, 3) := by decide +kernel
theorem dX12_brings_191 : decode cX12_brings 191 = .ok (.iconst 1, 1) := by decide +kernel
theorem dX12_brings_192 : decode cX12_brings 192 = .ok (.isub, 1) := by decide +kernel
theorem dX12_brings_193 : decode cX12_brings 193 = .ok (.putfield 175, 3) := by decide +kernel
theorem dX12_brings_196 : decode cX12_brings 196 = .ok (.goto (-120), 3) := by decide +kernel
theorem dX12_brings_199 : decode cX12_brings 199 = .ok (.aload_n 0, 1) := by decide +kernel
theorem dX12_brings_200 : decode cX12_brings 200 = .ok (.iconst (-1), 1) := by decide +kernel
theorem dX12_brings_201 : decode cX12_brings 201 = .ok (.putfield 29, 3) := by decide +kernel
theorem dX12_brings_204 : decode cX12_brings 204 = .ok (.iload_n 3, 1) := by decide +kernel
theorem dX12_brings_205 : decode cX12_brings 205 = .ok (.iconst 1, 1) := by decide +kernel
theorem dX12_brings_206 : decode cX12_brings 206 = .ok (.if_icmp .ne 15, 3) := by decide +kernel
theorem dX12_brings_209 : decode cX12_brings 209 = .ok (.iload 4, 2) := by decide +kernel
theorem dX12_brings_211 : decode cX12_brings 211 = .ok (.ifCond .ne 10, 3) := by decide +kernel
theorem dX12_brings_214 : decode cX12_brings 214 = .ok (.aload_n 0, 1) := by decide +kernel
theorem dX12_brings_215 : decode cX12_brings 215 = .ok (.ldc 213, 2) := by decide +kernel
theorem dX12_brings_217 : decode cX12_brings 217 = .ok (.invokevirtual 56, 3) := by decide +kernel
theorem dX12_brings_220 : decode cX12_brings 220 = .ok (.ireturn, 1) := by decide +kernel
theorem dX12_brings_221 : decode cX12_brings 221 = .ok (.iload_n 3, 1) := by decide +kernel
theorem dX12_brings_222 : decode cX12_brings 222 = .ok (.ifCond .ne 8, 3) := by decide +kernel
theorem dX12_brings_225 : decode cX12_brings 225 = .ok (.iload 4, 2) := by decide +kernel
theorem dX12_brings_227 : decode cX12_brings 227 = .ok (.goto 5, 3) := by decide +kernel
theorem dX12_brings_230 : decode cX12_brings 230 = .ok (.iload 5, 2) := by decide +kernel
theorem dX12_brings_232 : decode cX12_brings 232 = .ok (.ireturn, 1) := by decide +kernel
set_option maxHeartbeats 2000000 in
set_option maxRecDepth 20000 in
theorem c_brings {l : Launch} {D : va_G} {cI cG cW : ClassId} {o : Nat} {q : Nat → Nat} {V row kept tried bf fd pk bo so sh mv tr : Nat → Int32} {s p what : Int32} {nc np nw d nt nq : Nat} (hR : RKx row nc np nw d nt nq) (hV15 : V 15 = 0) (hV16 : V 16 = -1) (hV18 : V 18 = -1) (hSh : ∀ s, s < 4 → (bo s = nI 0 ∨ bo s = nI 8 ∨ bo s = nI 16 ∨ bo s = nI 32) ∧ ∃ n, n ≤ 40 ∧ so s = nI n) : Ci l yX12_brings cX12_brings 8 (some .int) 90 D (tyL cI cG cW) (wR cI o q) [.ref o, .int s, .int p, .int what] (sR V row kept tried bf fd pk bo so sh mv tr) (fun r τ => r = (sp_brings V row kept tried bf fd pk bo so sh mv tr s p what).1 ∧ EQ τ (sp_brings V row kept tried bf fd pk bo so sh mv tr s p what).2) := by
  refine Ci.of (by decide) (Nat.le_of_ble_eq_true rfl) ?_
  intro p_ e_ s_ m_ b_ M_ c_ A_ C
  replace C : Cx _ _ _ _ _ _ _ _ RX12 _ _ _ _ := C
  refine j_L [0, 1, 2, 3] [(0, .ref o), (1, .int s), (2, .int p), (3, .int what)] rfl ?_
  obtain ⟨hI, hW, ⟨e0, hd⟩, ⟨e4, ht⟩, ⟨e5, hq⟩, hB⟩ := id hR
  obtain ⟨⟨e2, hc2, hc10⟩, ⟨e3, hn6⟩, ⟨e8, hw8⟩, hP, hE, hLo, hT0, hT1⟩ := id hI
  have hIc := hI
  refine j_iload_n C 1 dX12_brings_0 rfl ?_
  refine j_callS (As := [.int s]) (rest := []) C vw12_isSheet (c_isSheet) rfl (Nat.le_of_ble_eq_true rfl) dX12_brings_1 (by decide) ?_
  rintro _ _ ⟨rfl, rfl⟩
  refine j_if_eq C 24 dX12_brings_4 (by decide) (fun c4 => ?_) (fun c4 => ?_)
  · replace c4 := bI_f c4
    refine j_aload_n C 0 dX12_brings_24 rfl ?_
    refine j_ldc C (-1000000001) dX12_brings_25 kc12_55 ?_
    refine j_callV (As := [.int (-1000000001)]) (rest := []) C vw12_errs (c_errs 1 (by decide) (by decide)) rRcv rfl (Nat.le_of_ble_eq_true rfl) dX12_brings_27 (by decide) ?_
    rintro _ _ ⟨rfl, rfl⟩
    refine j_iret C dX12_brings_30 ?_
    unfold sp_brings
    rw [if_neg (fun h => c4 h.1)]
    exact ⟨rfl, EQ.rf⟩
  · replace c4 := bI_t c4
    obtain ⟨sn, gsn, hsn, rfl⟩ := inn_lit (a := 0) (b := 3) c4 (by omega)
    refine j_aload_n C 0 dX12_brings_7 rfl ?_
    refine j_iload_n C 2 dX12_brings_8 rfl ?_
    refine j_callV (As := [.int p]) (rest := []) C vw12_isPerson (c_isPerson) rRcv rfl (Nat.le_of_ble_eq_true rfl) dX12_brings_9 (by decide) ?_
    rintro _ _ ⟨rfl, rfl⟩
    refine j_if_eq C 24 dX12_brings_12 (by decide) (fun c12 => ?_) (fun c12 => ?_)
    · replace c12 := bI_f c12
      refine j_aload_n C 0 dX12_brings_24 rfl ?_
      refine j_ldc C (-1000000001) dX12_brings_25 kc12_55 ?_
      refine j_callV (As := [.int (-1000000001)]) (rest := []) C vw12_errs (c_errs 1 (by decide) (by decide)) rRcv rfl (Nat.le_of_ble_eq_true rfl) dX12_brings_27 (by decide) ?_
      rintro _ _ ⟨rfl, rfl⟩
      refine j_iret C dX12_brings_30 ?_
      unfold sp_brings
      rw [if_neg (fun h => c12 h.2.1)]
      exact ⟨rfl, EQ.rf⟩
    · replace c12 := bI_t c12
      obtain ⟨pn, hpn, rfl⟩ := inn_row c12 e3 (by omega)
      refine j_iload_n C 3 dX12_brings_15 rfl ?_
      refine j_iconst C (v := (nI 0)) dX12_brings_16 (by decide) ?_
      refine j_iconst C (v := (nI 1)) dX12_brings_17 (by decide) ?_
      refine j_callS (As := [.int what, .int (nI 0), .int (nI 1)]) (rest := []) C vw12_in (c_in) rfl (Nat.le_of_ble_eq_true rfl) dX12_brings_18 (by decide) ?_
      rintro _ _ ⟨rfl, rfl⟩
      refine j_if_ne C 31 dX12_brings_21 (by decide) (fun c21 => ?_) (fun c21 => ?_)
      · replace c21 := bI_t c21
        obtain ⟨hbo, zn, hzn, es⟩ := hSh sn (by omega)
        refine j_aload_n C 0 dX12_brings_31 rfl ?_
        refine rg C (v := .ref (q 21)) 21 (by decide) kf12_35 rfl dX12_brings_32 ?_
        refine j_iload_n C 1 dX12_brings_35 rfl ?_
        refine rl_bo C sn rfl (by omega) dX12_brings_36 ?_
        refine j_if_ne C 47 dX12_brings_37 (by decide) (fun c37 => ?_) (fun c37 => ?_)
        · skip
          refine j_iconst C (v := (nI 0)) dX12_brings_47 (by decide) ?_
          refine j_istore C [(4, .int (nI 0)), (0, .ref o), (1, .int (nI sn)), (2, .int (nI pn)), (3, .int what)] dX12_brings_48 (by decide) rfl ?_
          refine j_iconst C (v := (nI 0)) dX12_brings_50 (by decide) ?_
          refine j_istore C [(5, .int (nI 0)), (4, .int (nI 0)), (0, .ref o), (1, .int (nI sn)), (2, .int (nI pn)), (3, .int what)] dX12_brings_51 (by decide) rfl ?_
          refine j_aload_n C 2 dX12_brings_53 rfl ?_
          refine j_iload_n C 4 dX12_brings_54 rfl ?_
          refine rp_18 C kf12_29 dX12_brings_55 ?_
          refine j_aload_n C 2 dX12_brings_58 rfl ?_
          refine j_aload_n C 2 dX12_brings_59 rfl ?_
          refine rg C (v := .ref (q 0)) 0 (by decide) kf12_7 rfl dX12_brings_60 ?_
          refine j_aload_n C 2 dX12_brings_63 rfl ?_
          refine rg C (v := .ref (q 2)) 2 (by decide) kf12_16 rfl dX12_brings_64 ?_
          refine j_callVv (As := [.ref (q 0), .ref (q 2)]) (rest := []) C vw12_moveAll (c_moveAll_row_tried) rRcv rfl (Nat.le_of_ble_eq_true rfl) dX12_brings_67 (by decide) ?_
          rintro _ rfl
          refine j_aload_n C 2 dX12_brings_70 rfl ?_
          refine j_bipush C (v := (nI 99)) dX12_brings_71 (by decide) ?_
          refine rp_19 C kf12_175 dX12_brings_73 ?_
          refine j_L [2, 3, 4, 5, 1, 0] [(0, .ref o), (1, .int (nI sn)), (2, .int (nI pn)), (3, .int what), (4, .int (nI 0)), (5, .int (nI 0))] rfl ?_
          refine j_loop (X := Nat × (Nat → Int32) × (Nat → Int32)) (fun (z : Nat × (Nat → Int32) × (Nat → Int32)) => match z with | (i, V1, pk1) => i ≤ 100 ∧ VE V1 (brV V pn (nI 99 - nI i))) (fun (z : Nat × (Nat → Int32) × (Nat → Int32)) => match z with | (i, V1, pk1) => 100 - i) (fun (z : Nat × (Nat → Int32) × (Nat → Int32)) => match z with | (i, V1, pk1) => (sR V1 row kept row bf fd pk1 bo so sh mv tr)) (fun (z : Nat × (Nat → Int32) × (Nat → Int32)) => match z with | (i, V1, pk1) => [(0, .ref o), (1, .int (nI sn)), (2, .int (nI pn)), (3, .int what), (4, .int (nI (Prod.fst (brF V row sh np nw pn sn zn i)))), (5, .int (Prod.snd (brF V row sh np nw pn sn zn i)))]) (0, upd (upd V 18 (nI pn)) 19 (nI 99), pk) (⟨Nat.zero_le _, VE.rf⟩) rfl rfl ?_
          rintro ⟨i, V1, pk1⟩ ⟨hi, hV⟩ ihA
          try dsimp only at ihA ⊢
          have hb19 : V1 19 = nI 99 - nI i := (hV 19 (by omega)).trans pk_us
          have hbl := brF_le V row sh np nw pn sn zn i
          refine j_aload_n C 0 dX12_brings_76 rfl ?_
          refine rg C (v := .int (V1 19)) 19 (by decide) kf12_175 rfl dX12_brings_77 ?_
          refine j_v (nI 99 - nI i) hb19 ?_
          refine j_if_lt C 199 dX12_brings_80 (by decide) (fun c80 => ?_) (fun c80 => ?_)
          · skip
            obtain rfl : i = 100 := (wg_0 i hi).mp c80
            refine j_aload_n C 0 dX12_brings_199 rfl ?_
            refine j_iconst C (v := (-1)) dX12_brings_200 (by decide) ?_
            refine rp_18 C kf12_29 dX12_brings_201 ?_
            refine j_iload_n C 3 dX12_brings_204 rfl ?_
            refine j_iconst C (v := (nI 1)) dX12_brings_205 (by decide) ?_
            refine j_icmp_ne C 221 dX12_brings_206 (by decide) (fun c206 => ?_) (fun c206 => ?_)
            · skip
              refine j_iload_n C 3 dX12_brings_221 rfl ?_
              refine j_if_ne C 230 dX12_brings_222 (by decide) (fun c222 => ?_) (fun c222 => ?_)
              · skip
                refine j_iload C 5 dX12_brings_230 rfl ?_
                refine j_iret C dX12_brings_232 ?_
                unfold sp_brings
                rw [if_pos ⟨c4, c12, c21⟩, tN_nI (n := sn) (by omega)]
                rw [if_neg c37, e3, e8, es, tN_nI (n := np) (by omega), tN_nI (n := nw) (by omega), tN_nI (n := pn) (by omega), tN_nI (n := zn) (by omega)]
                rw [if_neg (fun h => c206 h.1)]
                rw [if_neg c222]
                show _ = _ ∧ EQ (sR (upd V1 18 (-1)) row kept row bf fd pk1 bo so sh mv tr) (sR V row kept tried bf fd pk bo so sh mv tr)
                exact ⟨rfl, EQ.of6 (by rw [pk_un (by omega), hV 4 (by omega)]; rfl) (by rw [pk_un (by omega), hV 5 (by omega)]; rfl) (by rw [pk_un (by omega), hV 15 (by omega)]; rfl) (by rw [pk_un (by omega), hV 16 (by omega)]; rfl) (by rw [pk_us, hV18]) (by rw [pk_un (by omega), hV 26 (by omega)]; rfl)⟩
              · skip
                refine j_iload C 4 dX12_brings_225 rfl ?_
                refine j_goto C 232 dX12_brings_227 (by decide) ?_
                refine j_iret C dX12_brings_232 ?_
                unfold sp_brings
                rw [if_pos ⟨c4, c12, c21⟩, tN_nI (n := sn) (by omega)]
                rw [if_neg c37, e3, e8, es, tN_nI (n := np) (by omega), tN_nI (n := nw) (by omega), tN_nI (n := pn) (by omega), tN_nI (n := zn) (by omega)]
                rw [if_neg (fun h => c206 h.1)]
                rw [if_pos c222]
                show _ = _ ∧ EQ (sR (upd V1 18 (-1)) row kept row bf fd pk1 bo so sh mv tr) (sR V row kept tried bf fd pk bo so sh mv tr)
                exact ⟨rfl, EQ.of6 (by rw [pk_un (by omega), hV 4 (by omega)]; rfl) (by rw [pk_un (by omega), hV 5 (by omega)]; rfl) (by rw [pk_un (by omega), hV 15 (by omega)]; rfl) (by rw [pk_un (by omega), hV 16 (by omega)]; rfl) (by rw [pk_us, hV18]) (by rw [pk_un (by omega), hV 26 (by omega)]; rfl)⟩
            · skip
              refine j_iload C 4 dX12_brings_209 rfl ?_
              refine j_if_ne C 221 dX12_brings_211 (by decide) (fun c211 => ?_) (fun c211 => ?_)
              · rw [show (0 : Int32) = nI 0 from rfl, nI_eq (by omega) (by omega)] at c211
                refine j_iload_n C 3 dX12_brings_221 rfl ?_
                refine j_if_ne C 230 dX12_brings_222 (by decide) (fun c222 => ?_) (fun c222 => ?_)
                · skip
                  refine j_iload C 5 dX12_brings_230 rfl ?_
                  refine j_iret C dX12_brings_232 ?_
                  unfold sp_brings
                  rw [if_pos ⟨c4, c12, c21⟩, tN_nI (n := sn) (by omega)]
                  rw [if_neg c37, e3, e8, es, tN_nI (n := np) (by omega), tN_nI (n := nw) (by omega), tN_nI (n := pn) (by omega), tN_nI (n := zn) (by omega)]
                  rw [if_neg (fun h => c211 h.2)]
                  rw [if_neg c222]
                  show _ = _ ∧ EQ (sR (upd V1 18 (-1)) row kept row bf fd pk1 bo so sh mv tr) (sR V row kept tried bf fd pk bo so sh mv tr)
                  exact ⟨rfl, EQ.of6 (by rw [pk_un (by omega), hV 4 (by omega)]; rfl) (by rw [pk_un (by omega), hV 5 (by omega)]; rfl) (by rw [pk_un (by omega), hV 15 (by omega)]; rfl) (by rw [pk_un (by omega), hV 16 (by omega)]; rfl) (by rw [pk_us, hV18]) (by rw [pk_un (by omega), hV 26 (by omega)]; rfl)⟩
                · skip
                  refine j_iload C 4 dX12_brings_225 rfl ?_
                  refine j_goto C 232 dX12_brings_227 (by decide) ?_
                  refine j_iret C dX12_brings_232 ?_
                  unfold sp_brings
                  rw [if_pos ⟨c4, c12, c21⟩, tN_nI (n := sn) (by omega)]
                  rw [if_neg c37, e3, e8, es, tN_nI (n := np) (by omega), tN_nI (n := nw) (by omega), tN_nI (n := pn) (by omega), tN_nI (n := zn) (by omega)]
                  rw [if_neg (fun h => c211 h.2)]
                  rw [if_pos c222]
                  show _ = _ ∧ EQ (sR (upd V1 18 (-1)) row kept row bf fd pk1 bo so sh mv tr) (sR V row kept tried bf fd pk bo so sh mv tr)
                  exact ⟨rfl, EQ.of6 (by rw [pk_un (by omega), hV 4 (by omega)]; rfl) (by rw [pk_un (by omega), hV 5 (by omega)]; rfl) (by rw [pk_un (by omega), hV 15 (by omega)]; rfl) (by rw [pk_un (by omega), hV 16 (by omega)]; rfl) (by rw [pk_us, hV18]) (by rw [pk_un (by omega), hV 26 (by omega)]; rfl)⟩
              · rw [show (0 : Int32) = nI 0 from rfl, nI_eq (by omega) (by omega)] at c211
                refine j_aload_n C 0 dX12_brings_214 rfl ?_
                refine j_ldc C (-1000000002) dX12_brings_215 kc12_213 ?_
                refine j_callV (As := [.int (-1000000002)]) (rest := []) C vw12_errs (c_errs 2 (by decide) (by decide)) rRcv rfl (Nat.le_of_ble_eq_true rfl) dX12_brings_217 (by decide) ?_
                rintro _ _ ⟨rfl, rfl⟩
                refine j_iret C dX12_brings_220 ?_
                unfold sp_brings
                rw [if_pos ⟨c4, c12, c21⟩, tN_nI (n := sn) (by omega)]
                rw [if_neg c37, e3, e8, es, tN_nI (n := np) (by omega), tN_nI (n := nw) (by omega), tN_nI (n := pn) (by omega), tN_nI (n := zn) (by omega)]
                rw [if_pos ⟨c206, c211⟩]
                show _ = _ ∧ EQ (sR (upd V1 18 (-1)) row kept row bf (ue fd 2) pk1 bo so sh mv tr) (sR V row kept tried bf (ue fd 2) pk bo so sh mv tr)
                exact ⟨rfl, EQ.of6 (by rw [pk_un (by omega), hV 4 (by omega)]; rfl) (by rw [pk_un (by omega), hV 5 (by omega)]; rfl) (by rw [pk_un (by omega), hV 15 (by omega)]; rfl) (by rw [pk_un (by omega), hV 16 (by omega)]; rfl) (by rw [pk_us, hV18]) (by rw [pk_un (by omega), hV 26 (by omega)]; rfl)⟩
          · skip
            have hi100 : i < 100 := by
              rcases Nat.lt_or_ge i 100 with g | g
              · exact g
              · exact absurd ((wg_0 i hi).mpr (by omega)) c80
            refine j_iconst C (v := (nI 1)) dX12_brings_83 (by decide) ?_
            refine j_istore C [(6, .int (nI 1)), (0, .ref o), (1, .int (nI sn)), (2, .int (nI pn)), (3, .int what), (4, .int (nI (Prod.fst (brF V row sh np nw pn sn zn i)))), (5, .int (Prod.snd (brF V row sh np nw pn sn zn i)))] dX12_brings_84 (by decide) rfl ?_
            refine j_iconst C (v := (nI 0)) dX12_brings_86 (by decide) ?_
            refine j_istore C [(7, .int (nI 0)), (6, .int (nI 1)), (0, .ref o), (1, .int (nI sn)), (2, .int (nI pn)), (3, .int what), (4, .int (nI (Prod.fst (brF V row sh np nw pn sn zn i)))), (5, .int (Prod.snd (brF V row sh np nw pn sn zn i)))] dX12_brings_87 (by decide) rfl ?_
            refine j_L [2, 3, 4, 5, 6, 7, 1, 0] [(0, .ref o), (1, .int (nI sn)), (2, .int (nI pn)), (3, .int what), (4, .int (nI (Prod.fst (brF V row sh np nw pn sn zn i)))), (5, .int (Prod.snd (brF V row sh np nw pn sn zn i))), (6, .int (nI 1)), (7, .int (nI 0))] rfl ?_
            refine j_loop (X := Nat × (Nat → Int32) × (Nat → Int32)) (fun (z : Nat × (Nat → Int32) × (Nat → Int32)) => match z with | (k, V2, pk2) => k ≤ zn ∧ VE V2 (brV V pn (nI 99 - nI i)) ∧ ∀ j, j < k → brK V row np nw pn (nI 99 - nI i) j = sh (40 * sn + j)) (fun (z : Nat × (Nat → Int32) × (Nat → Int32)) => match z with | (k, V2, pk2) => zn - k) (fun (z : Nat × (Nat → Int32) × (Nat → Int32)) => match z with | (k, V2, pk2) => (sR V2 (dawnsF np (wv (brV V pn (nI 99 - nI i)) row nw) row k) kept row bf fd pk2 bo so sh mv tr)) (fun (z : Nat × (Nat → Int32) × (Nat → Int32)) => match z with | (k, V2, pk2) => [(0, .ref o), (1, .int (nI sn)), (2, .int (nI pn)), (3, .int what), (4, .int (nI (Prod.fst (brF V row sh np nw pn sn zn i)))), (5, .int (Prod.snd (brF V row sh np nw pn sn zn i))), (6, .int (nI 1)), (7, .int (nI k))]) (0, V1, pk1) (⟨Nat.zero_le _, hV, fun j h => absurd h (Nat.not_lt_zero _)⟩) rfl rfl ?_
            rintro ⟨k, V2, pk2⟩ ⟨hk, hV2, hok⟩ ihB
            try dsimp only at ihB ⊢
            obtain ⟨hIc, hFc⟩ := dawns_IF (wv (brV V pn (nI 99 - nI i)) row nw) hI k
            have hwv := wv_eq nw hV2 hFc
            refine j_iload C 7 dX12_brings_89 rfl ?_
            refine j_aload_n C 0 dX12_brings_91 rfl ?_
            refine rg C (v := .ref (q 22)) 22 (by decide) kf12_38 rfl dX12_brings_92 ?_
            refine j_iload_n C 1 dX12_brings_95 rfl ?_
            refine rl_so C sn rfl (by omega) dX12_brings_96 ?_
            refine j_v (nI zn) es ?_
            refine j_icmp_ge C 143 dX12_brings_97 (by decide) (fun c97 => ?_) (fun c97 => ?_)
            · rw [nI_leI (by omega) (by omega)] at c97
              refine j_aload_n C 0 dX12_brings_143 rfl ?_
              refine j_aload_n C 0 dX12_brings_144 rfl ?_
              refine rg C (v := .ref (q 2)) 2 (by decide) kf12_16 rfl dX12_brings_145 ?_
              refine j_aload_n C 0 dX12_brings_148 rfl ?_
              refine rg C (v := .ref (q 0)) 0 (by decide) kf12_7 rfl dX12_brings_149 ?_
              refine j_callVv (As := [.ref (q 2), .ref (q 0)]) (rest := []) C vw12_moveAll (c_moveAll_tried_row) rRcv rfl (Nat.le_of_ble_eq_true rfl) dX12_brings_152 (by decide) ?_
              rintro _ rfl
              refine j_iload C 4 dX12_brings_155 rfl ?_
              refine j_iload C 6 dX12_brings_157 rfl ?_
              refine j_if_eq C 166 dX12_brings_159 (by decide) (fun c159 => ?_) (fun c159 => ?_)
              · rw [show (0 : Int32) = nI 0 from rfl, nI_eq (by omega) (by omega)] at c159
                exfalso; omega
              · rw [show (0 : Int32) = nI 0 from rfl, nI_eq (by omega) (by omega)] at c159
                refine j_iconst C (v := (nI 1)) dX12_brings_162 (by decide) ?_
                refine j_goto C 167 dX12_brings_163 (by decide) ?_
                refine j_iaddN C dX12_brings_167 ?_
                refine j_istore C [(4, .int (nI (Prod.fst (brF V row sh np nw pn sn zn i) + 1))), (0, .ref o), (1, .int (nI sn)), (2, .int (nI pn)), (3, .int what), (5, .int (Prod.snd (brF V row sh np nw pn sn zn i))), (6, .int (nI 1)), (7, .int (nI k))] dX12_brings_168 (by decide) rfl ?_
                refine j_iload C 6 dX12_brings_170 rfl ?_
                refine j_if_eq C 182 dX12_brings_172 (by decide) (fun c172 => ?_) (fun c172 => ?_)
                · rw [show (0 : Int32) = nI 0 from rfl, nI_eq (by omega) (by omega)] at c172
                  exact absurd c172 c159
                · rw [show (0 : Int32) = nI 0 from rfl, nI_eq (by omega) (by omega)] at c172
                  refine j_aload_n C 1 dX12_brings_175 rfl ?_
                  refine rg C (v := .int (V2 19)) 19 (by decide) kf12_175 rfl dX12_brings_176 ?_
                  refine j_v (nI 99 - nI i) (by rw [(hV2) 19 (by omega)]; exact pk_us) ?_
                  refine j_goto C 184 dX12_brings_179 (by decide) ?_
                  refine j_istore C [(5, .int (nI 99 - nI i)), (4, .int (nI (Prod.fst (brF V row sh np nw pn sn zn i) + 1))), (0, .ref o), (1, .int (nI sn)), (2, .int (nI pn)), (3, .int what), (6, .int (nI 1)), (7, .int (nI k))] dX12_brings_184 (by decide) rfl ?_
                  refine j_aload_n C 2 dX12_brings_186 rfl ?_
                  refine j_dup C dX12_brings_187 rfl ?_
                  refine rg C (v := .int (V2 19)) 19 (by decide) kf12_175 rfl dX12_brings_188 ?_
                  refine j_v (nI 99 - nI i) (by rw [(hV2) 19 (by omega)]; exact pk_us) ?_
                  refine j_iconst C (v := (nI 1)) dX12_brings_191 (by decide) ?_
                  refine j_isub C dX12_brings_192 ?_
                  refine rp_19 C kf12_175 dX12_brings_193 ?_
                  refine j_goto C 76 dX12_brings_196 (by decide) ?_
                  refine j_L [2, 3, 4, 5, 1, 0] [(0, .ref o), (1, .int (nI sn)), (2, .int (nI pn)), (3, .int what), (4, .int (nI (Prod.fst (brF V row sh np nw pn sn zn i) + 1))), (5, .int (nI 99 - nI i))] rfl ?_
                  have hbr : brF V row sh np nw pn sn zn (i + 1) = _ := if_pos (show  brP V row sh np nw pn sn zn (nI 99 - nI i) from fun k2 hk2 => hok k2 (by omega))
                  refine j_eqL [(0, .ref o), (1, .int (nI sn)), (2, .int (nI pn)), (3, .int what), (4, .int (nI (Prod.fst (brF V row sh np nw pn sn zn (i + 1))))), (5, .int (Prod.snd (brF V row sh np nw pn sn zn (i + 1))))] (by rw [hbr]; first | done | rfl) ?_
                  rw [wg_s i (by omega)]
                  exact ihA (i + 1, upd V2 19 (nI 99 - nI (i + 1)), pk2) ⟨by dsimp only; omega, (hV2).ov⟩ (by dsimp only; omega)
            · rw [nI_leI (by omega) (by omega)] at c97
              refine j_iload C 6 dX12_brings_100 rfl ?_
              refine j_if_eq C 143 dX12_brings_102 (by decide) (fun c102 => ?_) (fun c102 => ?_)
              · rw [show (0 : Int32) = nI 0 from rfl, nI_eq (by omega) (by omega)] at c102
                exfalso; omega
              · rw [show (0 : Int32) = nI 0 from rfl, nI_eq (by omega) (by omega)] at c102
                refine j_aload_n C 0 dX12_brings_105 rfl ?_
                refine j_callVv (As := []) (rest := []) C vw12_oneDawn (c_oneDawn hIc) rRcv rfl (Nat.le_of_ble_eq_true rfl) dX12_brings_106 (by decide) ?_
                rintro _ ⟨Vx1, pkx2, hVx1, hpkx2, rfl⟩
                rw [hwv] at hpkx2 ⊢
                rw [← dawnsF_s]
                have hpv : pkx2 pn = brK V row np nw pn (nI 99 - nI i) k := hpkx2 pn hpn
                refine j_aload_n C 0 dX12_brings_109 rfl ?_
                refine rg C (v := .ref (q 20)) 20 (by decide) kf12_32 rfl dX12_brings_110 ?_
                refine j_iload_n C 2 dX12_brings_113 rfl ?_
                refine rl_pk C pn rfl (by omega) dX12_brings_114 ?_
                refine j_aload_n C 0 dX12_brings_115 rfl ?_
                refine rg C (v := .ref (q 23)) 23 (by decide) kf12_41 rfl dX12_brings_116 ?_
                refine j_bipush C (v := (nI 40)) dX12_brings_119 (by decide) ?_
                refine j_iload_n C 1 dX12_brings_121 rfl ?_
                refine j_imulN C dX12_brings_122 ?_
                refine j_iload C 7 dX12_brings_123 rfl ?_
                refine j_iaddN C dX12_brings_125 ?_
                refine rl_sh C (40 * sn + k) rfl (by omega) dX12_brings_126 ?_
                refine j_icmp_ne C 134 dX12_brings_127 (by decide) (fun c127 => ?_) (fun c127 => ?_)
                · skip
                  refine j_iconst C (v := (nI 0)) dX12_brings_134 (by decide) ?_
                  refine j_istore C [(6, .int (nI 0)), (0, .ref o), (1, .int (nI sn)), (2, .int (nI pn)), (3, .int what), (4, .int (nI (Prod.fst (brF V row sh np nw pn sn zn i)))), (5, .int (Prod.snd (brF V row sh np nw pn sn zn i))), (7, .int (nI k))] dX12_brings_135 (by decide) rfl ?_
                  refine j_iinc C (v := (nI (k + 1))) 7 [(7, .int (nI (k + 1))), (6, .int (nI 0)), (0, .ref o), (1, .int (nI sn)), (2, .int (nI pn)), (3, .int what), (4, .int (nI (Prod.fst (brF V row sh np nw pn sn zn i)))), (5, .int (Prod.snd (brF V row sh np nw pn sn zn i)))] dX12_brings_137 rfl (nI_1 _) (by decide) rfl ?_
                  refine j_goto C 89 dX12_brings_140 (by decide) ?_
                  refine j_iload C 0 dX12_brings_89 rfl ?_
                  refine j_aload_n C 2 dX12_brings_91 rfl ?_
                  refine rg C (v := .ref (q 22)) 22 (by decide) kf12_38 rfl dX12_brings_92 ?_
                  refine j_iload_n C 3 dX12_brings_95 rfl ?_
                  refine rl_so C sn rfl (by omega) dX12_brings_96 ?_
                  refine j_v (nI zn) es ?_
                  refine j_icmp_ge C 143 dX12_brings_97 (by decide) (fun c97 => ?_) (fun c97 => ?_)
                  · rw [nI_leI (by omega) (by omega)] at c97
                    have hbad : ¬ brK V row np nw pn (nI 99 - nI i) k = sh (40 * sn + k) := fun h => c127 (hpv.trans h)
                    refine j_aload_n C 2 dX12_brings_143 rfl ?_
                    refine j_aload_n C 2 dX12_brings_144 rfl ?_
                    refine rg C (v := .ref (q 2)) 2 (by decide) kf12_16 rfl dX12_brings_145 ?_
                    refine j_aload_n C 2 dX12_brings_148 rfl ?_
                    refine rg C (v := .ref (q 0)) 0 (by decide) kf12_7 rfl dX12_brings_149 ?_
                    refine j_callVv (As := [.ref (q 2), .ref (q 0)]) (rest := []) C vw12_moveAll (c_moveAll_tried_row) rRcv rfl (Nat.le_of_ble_eq_true rfl) dX12_brings_152 (by decide) ?_
                    rintro _ rfl
                    refine j_iload C 6 dX12_brings_155 rfl ?_
                    refine j_iload C 1 dX12_brings_157 rfl ?_
                    refine j_if_eq C 166 dX12_brings_159 (by decide) (fun c159 => ?_) (fun c159 => ?_)
                    · rw [show (0 : Int32) = nI 0 from rfl, nI_eq (by omega) (by omega)] at c159
                      refine j_iconst C (v := (nI 0)) dX12_brings_166 (by decide) ?_
                      refine j_iaddN C dX12_brings_167 ?_
                      refine j_istore C [(4, .int (nI (Prod.fst (brF V row sh np nw pn sn zn i) + 0))), (7, .int (nI (k + 1))), (6, .int (nI 0)), (0, .ref o), (1, .int (nI sn)), (2, .int (nI pn)), (3, .int what), (5, .int (Prod.snd (brF V row sh np nw pn sn zn i)))] dX12_brings_168 (by decide) rfl ?_
                      refine j_iload C 2 dX12_brings_170 rfl ?_
                      refine j_if_eq C 182 dX12_brings_172 (by decide) (fun c172 => ?_) (fun c172 => ?_)
                      · rw [show (0 : Int32) = nI 0 from rfl, nI_eq (by omega) (by omega)] at c172
                        refine j_iload C 7 dX12_brings_182 rfl ?_
                        refine j_istore C [(5, .int (Prod.snd (brF V row sh np nw pn sn zn i))), (4, .int (nI (Prod.fst (brF V row sh np nw pn sn zn i) + 0))), (7, .int (nI (k + 1))), (6, .int (nI 0)), (0, .ref o), (1, .int (nI sn)), (2, .int (nI pn)), (3, .int what)] dX12_brings_184 (by decide) rfl ?_
                        refine j_aload_n C 4 dX12_brings_186 rfl ?_
                        refine j_dup C dX12_brings_187 rfl ?_
                        refine rg C (v := .int (Vx1 19)) 19 (by decide) kf12_175 rfl dX12_brings_188 ?_
                        refine j_v (nI 99 - nI i) (by rw [(hVx1.tr hV2) 19 (by omega)]; exact pk_us) ?_
                        refine j_iconst C (v := (nI 1)) dX12_brings_191 (by decide) ?_
                        refine j_isub C dX12_brings_192 ?_
                        refine rp_19 C kf12_175 dX12_brings_193 ?_
                        refine j_goto C 76 dX12_brings_196 (by decide) ?_
                        refine j_L [4, 5, 6, 7, 1, 0] [(0, .ref o), (1, .int (nI sn)), (2, .int (nI pn)), (3, .int what), (4, .int (nI (Prod.fst (brF V row sh np nw pn sn zn i) + 0))), (5, .int (Prod.snd (brF V row sh np nw pn sn zn i)))] rfl ?_
                        have hbr : brF V row sh np nw pn sn zn (i + 1) = _ := if_neg (show ¬ brP V row sh np nw pn sn zn (nI 99 - nI i) from fun h => hbad (h k (by omega)))
                        refine j_eqL [(0, .ref o), (1, .int (nI sn)), (2, .int (nI pn)), (3, .int what), (4, .int (nI (Prod.fst (brF V row sh np nw pn sn zn (i + 1))))), (5, .int (Prod.snd (brF V row sh np nw pn sn zn (i + 1))))] (by rw [hbr]; first | done | rfl) ?_
                        rw [wg_s i (by omega)]
                        exact ihA (i + 1, upd Vx1 19 (nI 99 - nI (i + 1)), pkx2) ⟨by dsimp only; omega, (hVx1.tr hV2).ov⟩ (by dsimp only; omega)
                      · rw [show (0 : Int32) = nI 0 from rfl, nI_eq (by omega) (by omega)] at c172
                        exact absurd c159 c172
                    · rw [show (0 : Int32) = nI 0 from rfl, nI_eq (by omega) (by omega)] at c159
                      exfalso; omega
                  · rw [nI_leI (by omega) (by omega)] at c97
                    refine j_iload C 1 dX12_brings_100 rfl ?_
                    refine j_if_eq C 143 dX12_brings_102 (by decide) (fun c102 => ?_) (fun c102 => ?_)
                    · rw [show (0 : Int32) = nI 0 from rfl, nI_eq (by omega) (by omega)] at c102
                      have hbad : ¬ brK V row np nw pn (nI 99 - nI i) k = sh (40 * sn + k) := fun h => c127 (hpv.trans h)
                      refine j_aload_n C 2 dX12_brings_143 rfl ?_
                      refine j_aload_n C 2 dX12_brings_144 rfl ?_
                      refine rg C (v := .ref (q 2)) 2 (by decide) kf12_16 rfl dX12_brings_145 ?_
                      refine j_aload_n C 2 dX12_brings_148 rfl ?_
                      refine rg C (v := .ref (q 0)) 0 (by decide) kf12_7 rfl dX12_brings_149 ?_
                      refine j_callVv (As := [.ref (q 2), .ref (q 0)]) (rest := []) C vw12_moveAll (c_moveAll_tried_row) rRcv rfl (Nat.le_of_ble_eq_true rfl) dX12_brings_152 (by decide) ?_
                      rintro _ rfl
                      refine j_iload C 6 dX12_brings_155 rfl ?_
                      refine j_iload C 1 dX12_brings_157 rfl ?_
                      refine j_if_eq C 166 dX12_brings_159 (by decide) (fun c159 => ?_) (fun c159 => ?_)
                      · rw [show (0 : Int32) = nI 0 from rfl, nI_eq (by omega) (by omega)] at c159
                        refine j_iconst C (v := (nI 0)) dX12_brings_166 (by decide) ?_
                        refine j_iaddN C dX12_brings_167 ?_
                        refine j_istore C [(4, .int (nI (Prod.fst (brF V row sh np nw pn sn zn i) + 0))), (7, .int (nI (k + 1))), (6, .int (nI 0)), (0, .ref o), (1, .int (nI sn)), (2, .int (nI pn)), (3, .int what), (5, .int (Prod.snd (brF V row sh np nw pn sn zn i)))] dX12_brings_168 (by decide) rfl ?_
                        refine j_iload C 2 dX12_brings_170 rfl ?_
                        refine j_if_eq C 182 dX12_brings_172 (by decide) (fun c172 => ?_) (fun c172 => ?_)
                        · rw [show (0 : Int32) = nI 0 from rfl, nI_eq (by omega) (by omega)] at c172
                          refine j_iload C 7 dX12_brings_182 rfl ?_
                          refine j_istore C [(5, .int (Prod.snd (brF V row sh np nw pn sn zn i))), (4, .int (nI (Prod.fst (brF V row sh np nw pn sn zn i) + 0))), (7, .int (nI (k + 1))), (6, .int (nI 0)), (0, .ref o), (1, .int (nI sn)), (2, .int (nI pn)), (3, .int what)] dX12_brings_184 (by decide) rfl ?_
                          refine j_aload_n C 4 dX12_brings_186 rfl ?_
                          refine j_dup C dX12_brings_187 rfl ?_
                          refine rg C (v := .int (Vx1 19)) 19 (by decide) kf12_175 rfl dX12_brings_188 ?_
                          refine j_v (nI 99 - nI i) (by rw [(hVx1.tr hV2) 19 (by omega)]; exact pk_us) ?_
                          refine j_iconst C (v := (nI 1)) dX12_brings_191 (by decide) ?_
                          refine j_isub C dX12_brings_192 ?_
                          refine rp_19 C kf12_175 dX12_brings_193 ?_
                          refine j_goto C 76 dX12_brings_196 (by decide) ?_
                          refine j_L [4, 5, 6, 7, 1, 0] [(0, .ref o), (1, .int (nI sn)), (2, .int (nI pn)), (3, .int what), (4, .int (nI (Prod.fst (brF V row sh np nw pn sn zn i) + 0))), (5, .int (Prod.snd (brF V row sh np nw pn sn zn i)))] rfl ?_
                          have hbr : brF V row sh np nw pn sn zn (i + 1) = _ := if_neg (show ¬ brP V row sh np nw pn sn zn (nI 99 - nI i) from fun h => hbad (h k (by omega)))
                          refine j_eqL [(0, .ref o), (1, .int (nI sn)), (2, .int (nI pn)), (3, .int what), (4, .int (nI (Prod.fst (brF V row sh np nw pn sn zn (i + 1))))), (5, .int (Prod.snd (brF V row sh np nw pn sn zn (i + 1))))] (by rw [hbr]; first | done | rfl) ?_
                          rw [wg_s i (by omega)]
                          exact ihA (i + 1, upd Vx1 19 (nI 99 - nI (i + 1)), pkx2) ⟨by dsimp only; omega, (hVx1.tr hV2).ov⟩ (by dsimp only; omega)
                        · rw [show (0 : Int32) = nI 0 from rfl, nI_eq (by omega) (by omega)] at c172
                          exact absurd c159 c172
                      · rw [show (0 : Int32) = nI 0 from rfl, nI_eq (by omega) (by omega)] at c159
                        exact absurd c102 c159
                    · rw [show (0 : Int32) = nI 0 from rfl, nI_eq (by omega) (by omega)] at c102
                      exfalso; omega
                · skip
                  refine j_iconst C (v := (nI 1)) dX12_brings_130 (by decide) ?_
                  refine j_goto C 135 dX12_brings_131 (by decide) ?_
                  refine j_istore C [(6, .int (nI 1)), (0, .ref o), (1, .int (nI sn)), (2, .int (nI pn)), (3, .int what), (4, .int (nI (Prod.fst (brF V row sh np nw pn sn zn i)))), (5, .int (Prod.snd (brF V row sh np nw pn sn zn i))), (7, .int (nI k))] dX12_brings_135 (by decide) rfl ?_
                  refine j_iinc C (v := (nI (k + 1))) 7 [(7, .int (nI (k + 1))), (6, .int (nI 1)), (0, .ref o), (1, .int (nI sn)), (2, .int (nI pn)), (3, .int what), (4, .int (nI (Prod.fst (brF V row sh np nw pn sn zn i)))), (5, .int (Prod.snd (brF V row sh np nw pn sn zn i)))] dX12_brings_137 rfl (nI_1 _) (by decide) rfl ?_
                  refine j_goto C 89 dX12_brings_140 (by decide) ?_
                  refine j_L [2, 3, 4, 5, 6, 7, 1, 0] [(0, .ref o), (1, .int (nI sn)), (2, .int (nI pn)), (3, .int what), (4, .int (nI (Prod.fst (brF V row sh np nw pn sn zn i)))), (5, .int (Prod.snd (brF V row sh np nw pn sn zn i))), (6, .int (nI 1)), (7, .int (nI (k + 1)))] rfl ?_
                  refine ihB (k + 1, Vx1, pkx2) ⟨by dsimp only; omega, hVx1.tr hV2, fun j hj => ?_⟩ (by dsimp only; omega)
                  dsimp only at hj
                  by_cases ej : j = k
                  · subst ej; exact hpv.symm.trans c127
                  · exact hok j (by omega)
        · skip
          refine j_aload_n C 0 dX12_brings_40 rfl ?_
          refine j_ldc C (-1000000002) dX12_brings_41 kc12_213 ?_
          refine j_callV (As := [.int (-1000000002)]) (rest := []) C vw12_errs (c_errs 2 (by decide) (by decide)) rRcv rfl (Nat.le_of_ble_eq_true rfl) dX12_brings_43 (by decide) ?_
          rintro _ _ ⟨rfl, rfl⟩
          refine j_iret C dX12_brings_46 ?_
          unfold sp_brings
          rw [if_pos ⟨c4, c12, c21⟩, tN_nI (n := sn) (by omega)]
          rw [if_pos c37]
          exact ⟨rfl, EQ.rf⟩
      · replace c21 := bI_f c21
        refine j_aload_n C 0 dX12_brings_24 rfl ?_
        refine j_ldc C (-1000000001) dX12_brings_25 kc12_55 ?_
        refine j_callV (As := [.int (-1000000001)]) (rest := []) C vw12_errs (c_errs 1 (by decide) (by decide)) rRcv rfl (Nat.le_of_ble_eq_true rfl) dX12_brings_27 (by decide) ?_
        rintro _ _ ⟨rfl, rfl⟩
        refine j_iret C dX12_brings_30 ?_
        unfold sp_brings
        rw [if_neg (fun h => c21 h.2.2)]
        exact ⟨rfl, EQ.rf⟩

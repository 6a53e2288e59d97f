/-! The reference: odds, starves, pardons. -/
abbrev oddV (V : Nat → Int32) (w : Nat) : Nat → Int32 := upd V 15 (nI 1 <<< (nI w &&& 31))
def oddN (V row : Nat → Int32) (p n : Nat) : Nat → Nat
  | 0 => 0
  | k + 1 => oddN V row p n k + (if hgP (oddV V k) row n p then 0 else 1)
theorem oddN_le (V row : Nat → Int32) (p n k : Nat) : oddN V row p n k ≤ k := by
  induction k with
  | zero => exact Nat.le_refl _
  | succ k ih => unfold oddN; split <;> omega
theorem one_sub {P : Prop} [Decidable P] : nI 1 - bI P = nI (if P then 0 else 1) := by
  unfold bI; by_cases h : P
  · rw [if_pos h, if_pos h]; rfl
  · rw [if_neg h, if_neg h]; rfl
theorem ite01 {A B : Prop} [Decidable A] [Decidable B] (h : A ↔ B) : (if A then 0 else 1) = (if B then 0 else 1 : Nat) := by
  by_cases g : A
  · rw [if_pos g, if_pos (h.mp g)]
  · rw [if_neg g, if_neg (fun k => g (h.mpr k))]
def sp_odds (V row kept tried bf fd pk bo so sh mv tr : Nat → Int32) (p n part : Int32) : Int32 × RS := if inn p 0 (row 3 - 1) ∧ inn n (nI 0) (nI 60) ∧ inn part (nI 0) (nI 1) then (if tN (row 8) = 0 then er V row kept tried bf fd pk bo so sh mv tr (-1000000003) 3 else (if part = 0 then nI (oddN V row (tN p) (tN n) (tN (row 8)) / Nat.gcd (tN (row 8)) (oddN V row (tN p) (tN n) (tN (row 8)))) else nI (tN (row 8) / Nat.gcd (tN (row 8)) (oddN V row (tN p) (tN n) (tN (row 8)))), sR V row kept tried bf fd pk bo so sh mv tr)) else er V row kept tried bf fd pk bo so sh mv tr (-1000000001) 1
def mskF (row : Nat → Int32) (p : Nat) : Nat → Int32
  | 0 => nI 0
  | w + 1 => mskF row p w ||| (if row (66 + 3 * w) = nI p then nI 1 <<< (nI w &&& 31) else nI 0)
abbrev stV (V row : Nat → Int32) (p nw : Nat) : Nat → Int32 := upd V 15 (mskF row p nw)
def starF (V row : Nat → Int32) (n np nw : Nat) : Nat → Int32
  | 0 => nI 0
  | p + 1 => starF V row n np nw p ||| (hunF (dawnsF np (wv (stV V row p nw) row nw) row n) row np &&& (nI 1 <<< (nI p &&& 31)))
def sp_starves (V row kept tried bf fd pk bo so sh mv tr : Nat → Int32) (n : Int32) : Int32 × RS := if inn n (nI 0) (nI 60) then (starF V row (tN n) (tN (row 3)) (tN (row 8)) (tN (row 3)), sR V row kept tried bf fd pk bo so sh mv tr) else er V row kept tried bf fd pk bo so sh mv tr (-1000000001) 1
def popN (a : Nat) : Nat := a % 2 + a / 2 % 2 + a / 4 % 2 + a / 8 % 2 + a / 16 % 2 + a / 32 % 2 + a / 64 % 2 + a / 128 % 2
theorem popN_le (a : Nat) : popN a ≤ 8 := by unfold popN; omega
def lowN (a : Nat) : Nat := a &&& (a - 1)
theorem low_ok : ∀ a, a < 256 → a ≠ 0 → nI a &&& (nI a - nI 1) = nI (lowN a) ∧ popN (lowN a) + 1 = popN a ∧ lowN a < 256 := by decide +kernel
theorem pow_ok : ∀ n, n ≤ 8 → nI 1 <<< (nI n &&& 31) = nI (2 ^ n) := by decide +kernel
def opI : Option Nat → Int32
  | none => -1
  | some b => nI b
abbrev pdV (V : Nat → Int32) (i : Nat) : Nat → Int32 := upd V 15 (nI i)
abbrev fedP (V row : Nat → Int32) (n np : Nat) (i : Nat) : Prop := ∀ p, p < np → ¬ hgP (pdV V i) row n p
def pdF (V row : Nat → Int32) (n np : Nat) : Nat → Option Nat
  | 0 => none
  | i + 1 => match pdF V row n np i with
    | none => if fedP V row n np i then some i else none
    | some b => if popN b < popN i ∧ fedP V row n np i then some i else some b
theorem pdF_lt (V row : Nat → Int32) (n np : Nat) (i b : Nat) (h : pdF V row n np i = some b) : b < i := by
  induction i generalizing b with
  | zero => cases h
  | succ i ih =>
    unfold pdF at h
    cases e : pdF V row n np i with
    | none => rw [e] at h; dsimp only at h; split at h
              · cases h; omega
              · cases h
    | some c => rw [e] at h; dsimp only at h; split at h
                · cases h; omega
                · cases h; have := ih b e; omega
def sp_pardons (V row kept tried bf fd pk bo so sh mv tr : Nat → Int32) (n : Int32) : Int32 × RS := if inn n (nI 0) (nI 20) then (match pdF V row (tN n) (tN (row 3)) (2 ^ tN (row 8)) with | none => er V row kept tried bf fd pk bo so sh mv tr (-1000000002) 2 | some b => (nI b, sR V row kept tried bf fd pk bo so sh mv tr)) else er V row kept tried bf fd pk bo so sh mv tr (-1000000001) 1

theorem dX12_divisor_0 : decode cX12_divisor 0 = .ok (.iload_n 0, 1) := by decide +kernel
theorem dX12_divisor_1 : decode cX12_divisor 1 = .ok (.istore_n 2, 1) := by decide +kernel
theorem dX12_divisor_2 : decode cX12_divisor 2 = .ok (.iload_n 1, 1) := by decide +kernel
theorem dX12_divisor_3 : decode cX12_divisor 3 = .ok (.istore_n 3, 1) := by decide +kernel
theorem dX12_divisor_4 : decode cX12_divisor 4 = .ok (.iload_n 3, 1) := by decide +kernel
theorem dX12_divisor_5 : decode cX12_divisor 5 = .ok (.ifCond .eq 16, 3) := by decide +kernel
theorem dX12_divisor_8 : decode cX12_divisor 8 = .ok (.iload_n 2, 1) := by decide +kernel
theorem dX12_divisor_9 : decode cX12_divisor 9 = .ok (.iload_n 3, 1) := by decide +kernel
theorem dX12_divisor_10 : decode cX12_divisor 10 = .ok (.irem, 1) := by decide +kernel
theorem dX12_divisor_11 : decode cX12_divisor 11 = .ok (.istore 4, 2) := by decide +kernel
theorem dX12_divisor_13 : decode cX12_divisor 13 = .ok (.iload_n 3, 1) := by decide +kernel
theorem dX12_divisor_14 : decode cX12_divisor 14 = .ok (.istore_n 2, 1) := by decide +kernel
theorem dX12_divisor_15 : decode cX12_divisor 15 = .ok (.iload 4, 2) := by decide +kernel
theorem dX12_divisor_17 : decode cX12_divisor 17 = .ok (.istore_n 3, 1) := by decide +kernel
theorem dX12_divisor_18 : decode cX12_divisor 18 = .ok (.goto (-14), 3) := by decide +kernel
theorem dX12_divisor_21 : decode cX12_divisor 21 = .ok (.iload_n 2, 1) := by decide +kernel
theorem dX12_divisor_22 : decode cX12_divisor 22 = .ok (.ireturn, 1) := by decide +kernel
set_option maxHeartbeats 2000000 in
set_option maxRecDepth 20000 in
theorem c_divisor {l : Launch} {D : va_G} {cI cG cW : ClassId} {S : Type} {Wd : S → va_W} {σ : S} (a b : Nat) (ha : a < 1000) (hb : b < 1000) : Ci l yX12_divisor cX12_divisor 5 (some .int) 0 D (tyL cI cG cW) Wd [.int (nI a), .int (nI b)] σ (fun r τ => r = nI (Nat.gcd b a) ∧ τ = σ) := by
  refine Ci.of (by decide) (Nat.le_of_ble_eq_true rfl) ?_
  intro p_ e_ s_ m_ b_ M_ c_ A_ C
  replace C : Cx _ _ _ _ _ _ _ _ RX12 _ _ _ _ := C
  refine j_L [0, 1] [(0, .int (nI a)), (1, .int (nI b))] rfl ?_
  refine j_iload_n C 0 dX12_divisor_0 rfl ?_
  refine j_istore_n C [(2, .int (nI a)), (0, .int (nI a)), (1, .int (nI b))] dX12_divisor_1 (by decide) rfl ?_
  refine j_iload_n C 2 dX12_divisor_2 rfl ?_
  refine j_istore_n C [(3, .int (nI b)), (2, .int (nI a)), (0, .int (nI a)), (1, .int (nI b))] dX12_divisor_3 (by decide) rfl ?_
  refine j_L [2, 3, 1, 0] [(0, .int (nI a)), (1, .int (nI b)), (2, .int (nI a)), (3, .int (nI b))] rfl ?_
  refine j_loop (X := Nat × Nat) (fun (z : Nat × Nat) => match z with | (x, y) => x < 1000 ∧ y < 1000 ∧ Nat.gcd y x = Nat.gcd b a) (fun (z : Nat × Nat) => match z with | (x, y) => y) (fun (z : Nat × Nat) => match z with | (x, y) => σ) (fun (z : Nat × Nat) => match z with | (x, y) => [(0, .int (nI a)), (1, .int (nI b)), (2, .int (nI x)), (3, .int (nI y))]) (a, b) (⟨ha, hb, rfl⟩) rfl rfl ?_
  rintro ⟨x, y⟩ ⟨hx, hy, hg⟩ ih
  try dsimp only at ih ⊢
  refine j_iload_n C 3 dX12_divisor_4 rfl ?_
  refine j_if_eq C 21 dX12_divisor_5 (by decide) (fun c5 => ?_) (fun c5 => ?_)
  · rw [show (0 : Int32) = nI 0 from rfl, nI_eq (by omega) (by omega)] at c5
    refine j_iload_n C 2 dX12_divisor_21 rfl ?_
    refine j_iret C dX12_divisor_22 ?_
    refine ⟨?_, rfl⟩
    rw [← hg, show y = 0 from c5, Nat.gcd_zero_left]
  · rw [show (0 : Int32) = nI 0 from rfl, nI_eq (by omega) (by omega)] at c5
    have hnz : ¬ nI y = 0 := nI_ne0 (by omega) (by omega)
    refine j_iload_n C 2 dX12_divisor_8 rfl ?_
    refine j_iload_n C 3 dX12_divisor_9 rfl ?_
    refine j_irem C dX12_divisor_10 (by assumption) ?_
    refine j_v (nI (x % y)) (pk_rem (by omega) (by omega) (by omega)) ?_
    refine j_istore C [(4, .int (nI (x % y))), (0, .int (nI a)), (1, .int (nI b)), (2, .int (nI x)), (3, .int (nI y))] dX12_divisor_11 (by decide) rfl ?_
    refine j_iload_n C 4 dX12_divisor_13 rfl ?_
    refine j_istore_n C [(2, .int (nI y)), (4, .int (nI (x % y))), (0, .int (nI a)), (1, .int (nI b)), (3, .int (nI y))] dX12_divisor_14 (by decide) rfl ?_
    refine j_iload C 1 dX12_divisor_15 rfl ?_
    refine j_istore_n C [(3, .int (nI (x % y))), (2, .int (nI y)), (4, .int (nI (x % y))), (0, .int (nI a)), (1, .int (nI b))] dX12_divisor_17 (by decide) rfl ?_
    refine j_goto C 4 dX12_divisor_18 (by decide) ?_
    refine j_L [3, 4, 1, 0] [(0, .int (nI a)), (1, .int (nI b)), (2, .int (nI y)), (3, .int (nI (x % y)))] rfl ?_
    exact ih (y, x % y) (⟨hy, by dsimp only; have := Nat.mod_lt x (show y > 0 by omega); omega, by dsimp only; rw [← Nat.gcd_rec]; exact hg⟩) (by dsimp only; exact Nat.mod_lt x (by omega))
theorem dX12_odds_0 : decode cX12_odds 0 = .ok (.aload_n 0, 1) := by decide +kernel
theorem dX12_odds_1 : decode cX12_odds 1 = .ok (.iload_n 1, 1) := by decide +kernel
theorem dX12_odds_2 : decode cX12_odds 2 = .ok (.invokevirtual 80, 3) := by decide +kernel
theorem dX12_odds_5 : decode cX12_odds 5 = .ok (.ifCond .eq 22, 3) := by decide +kernel
theorem dX12_odds_8 : decode cX12_odds 8 = .ok (.iload_n 2, 1) := by decide +kernel
theorem dX12_odds_9 : decode cX12_odds 9 = .ok (.iconst 0, 1) := by decide +kernel
theorem dX12_odds_10 : decode cX12_odds 10 = .ok (.bipush 60, 2) := by decide +kernel
theorem dX12_odds_12 : decode cX12_odds 12 = .ok (.invokestatic 51, 3) := by decide +kernel
theorem dX12_odds_15 : decode cX12_odds 15 = .ok (.ifCond .eq 12, 3) := by decide +kernel
theorem dX12_odds_18 : decode cX12_odds 18 = .ok (.iload_n 3, 1) := by decide +kernel
theorem dX12_odds_19 : decode cX12_odds 19 = .ok (.iconst 0, 1) := by decide +kernel
theorem dX12_odds_20 : decode cX12_odds 20 = .ok (.iconst 1, 1) := by decide +kernel
theorem dX12_odds_21 : decode cX12_odds 21 = .ok (.invokestatic 51, 3) := by decide +kernel
theorem dX12_odds_24 : decode cX12_odds 24 = .ok (.ifCond .ne 10, 3) := by decide +kernel
theorem dX12_odds_27 : decode cX12_odds 27 = .ok (.aload_n 0, 1) := by decide +kernel
theorem dX12_odds_28 : decode cX12_odds 28 = .ok (.ldc 55, 2) := by decide +kernel
theorem dX12_odds_30 : decode cX12_odds 30 = .ok (.invokevirtual 56, 3) := by decide +kernel
theorem dX12_odds_33 : decode cX12_odds 33 = .ok (.ireturn, 1) := by decide +kernel
theorem dX12_odds_34 : decode cX12_odds 34 = .ok (.aload_n 0, 1) := by decide +kernel
theorem dX12_odds_35 : decode cX12_odds 35 = .ok (.getfield 7, 3) := by decide +kernel
theorem dX12_odds_38 : decode cX12_odds 38 = .ok (.bipush 8, 2) := by decide +kernel
theorem dX12_odds_40 : decode cX12_odds 40 = .ok (.iaload, 1) := by decide +kernel
theorem dX12_odds_41 : decode cX12_odds 41 = .ok (.istore 4, 2) := by decide +kernel
theorem dX12_odds_43 : decode cX12_odds 43 = .ok (.iload 4, 2) := by decide +kernel
theorem dX12_odds_45 : decode cX12_odds 45 = .ok (.ifCond .ne 10, 3) := by decide +kernel
theorem dX12_odds_48 : decode cX12_odds 48 = .ok (.aload_n 0, 1) := by decide +kernel
theorem dX12_odds_49 : decode cX12_odds 49 = .ok (.ldc 60, 2) := by decide +kernel
theorem dX12_odds_51 : decode cX12_odds 51 = .ok (.invokevirtual 56, 3) := by decide +kernel
theorem dX12_odds_54 : decode cX12_odds 54 = .ok (.ireturn, 1) := by decide +kernel
theorem dX12_odds_55 : decode cX12_odds 55 = .ok (.iconst 0, 1) := by decide +kernel
theorem dX12_odds_56 : decode cX12_odds 56 = .ok (.istore 5, 2) := by decide +kernel
theorem dX12_odds_58 : decode cX12_odds 58 = .ok (.iconst 0, 1) := by decide +kernel
theorem dX12_odds_59 : decode cX12_odds 59 = .ok (.istore 6, 2) := by decide +kernel
theorem dX12_odds_61 : decode cX12_odds 61 = .ok (.iload 6, 2) := by decide +kernel
theorem dX12_odds_63 : decode cX12_odds 63 = .ok (.iload 4, 2) := by decide +kernel
theorem dX12_odds_65 : decode cX12_odds 65 = .ok (.if_icmp .ge 33, 3) := by decide +kernel
theorem dX12_odds_68 : decode cX12_odds 68 = .ok (.aload_n 0, 1) := by decide +kernel
theorem dX12_odds_69 : decode cX12_odds 69 = .ok (.iconst 1, 1) := by decide +kernel
theorem dX12_odds_70 : decode cX12_odds 70 = .ok (.iload 6, 2) := by decide +kernel
theorem dX12_odds_72 : decode cX12_odds 72 = .ok (.ishl, 1) := by decide +kernel
theorem dX12_odds_73 : decode cX12_odds 73 = .ok (.putfield 181, 3) := by decide +kernel
theorem dX12_odds_76 : decode cX12_odds 76 = .ok (.iload 5, 2) := by decide +kernel
theorem dX12_odds_78 : decode cX12_odds 78 = .ok (.iconst 1, 1) := by decide +kernel
theorem dX12_odds_79 : decode cX12_odds 79 = .ok (.aload_n 0, 1) := by decide +kernel
theorem dX12_odds_80 : decode cX12_odds 80 = .ok (.iload_n 2, 1) := by decide +kernel
theorem dX12_odds_81 : decode cX12_odds 81 = .ok (.invokevirtual 214, 3) := by decide +kernel
theorem dX12_odds_84 : decode cX12_odds 84 = .ok (.iload_n 1, 1) := by decide +kernel
theorem dX12_odds_85 : decode cX12_odds 85 = .ok (.ishr, 1) := by decide +kernel
theorem dX12_odds_86 : decode cX12_odds 86 = .ok (.iconst 1, 1) := by decide +kernel
theorem dX12_odds_87 : decode cX12_odds 87 = .ok (.iand, 1) := by decide +kernel
theorem dX12_odds_88 : decode cX12_odds 88 = .ok (.isub, 1) := by decide +kernel
theorem dX12_odds_89 : decode cX12_odds 89 = .ok (.iadd, 1) := by decide +kernel
theorem dX12_odds_90 : decode cX12_odds 90 = .ok (.istore 5, 2) := by decide +kernel
theorem dX12_odds_92 : decode cX12_odds 92 = .ok (.iinc 6 1, 3) := by decide +kernel
theorem dX12_odds_95 : decode cX12_odds 95 = .ok (.goto (-34), 3) := by decide +kernel
theorem dX12_odds_98 : decode cX12_odds 98 = .ok (.aload_n 0, 1) := by decide +kernel
theorem dX12_odds_99 : decode cX12_odds 99 = .ok (.iconst 0, 1) := by decide +kernel
theorem dX12_odds_100 : decode cX12_odds 100 = .ok (.putfield 181, 3) := by decide +kernel
theorem dX12_odds_103 : decode cX12_odds 103 = .ok (.iload 5, 2) := by decide +kernel
theorem dX12_odds_105 : decode cX12_odds 105 = .ok (.iload 4, 2) := by decide +kernel
theorem dX12_odds_107 : decode cX12_odds 107 = .ok (.invokestatic 223, 3) := by decide +kernel
theorem dX12_odds_110 : decode cX12_odds 110 = .ok (.istore 6, 2) := by decide +kernel
theorem dX12_odds_112 : decode cX12_odds 112 = .ok (.iload_n 3, 1) := by decide +kernel
theorem dX12_odds_113 : decode cX12_odds 113 = .ok (.ifCond .ne 11, 3) := by decide +kernel
theorem dX12_odds_116 : decode cX12_odds 116 = .ok (.iload 5, 2) := by decide +kernel
theorem dX12_odds_118 : decode cX12_odds 118 = .ok (.iload 6, 2) := by decide +kernel
theorem dX12_odds_120 : decode cX12_odds 120 = .ok (.idiv, 1) := by decide +kernel
theorem dX12_odds_121 : decode cX12_odds 121 = .ok (.goto 8, 3) := by decide +kernel
theorem dX12_odds_124 : decode cX12_odds 124 = .ok (.iload 4, 2) := by decide +kernel
theorem dX12_odds_126 : decode cX12_odds 126 = .ok (.iload 6, 2) := by decide +kernel
theorem dX12_odds_128 : decode cX12_odds 128 = .ok (.idiv, 1) := by decide +kernel
theorem dX12_odds_129 : decode cX12_odds 129 = .ok (.ireturn, 1) := by decide +kernel
set_option maxHeartbeats 2000000 in
set_option maxRecDepth 20000 in
theorem c_odds {l : Launch} {D : va_G} {cI cG cW : ClassId} {o : Nat} {q : Nat → Nat} {V row kept tried bf fd pk bo so sh mv tr : Nat → Int32} {p n part : Int32} {nc np nw d nt nq : Nat} (hR : RKx row nc np nw d nt nq) (hV15 : V 15 = 0) (hV16 : V 16 = -1) (hV18 : V 18 = -1) : Ci l yX12_odds cX12_odds 7 (some .int) 90 D (tyL cI cG cW) (wR cI o q) [.ref o, .int p, .int n, .int part] (sR V row kept tried bf fd pk bo so sh mv tr) (fun r τ => r = (sp_odds V row kept tried bf fd pk bo so sh mv tr p n part).1 ∧ EQ τ (sp_odds V row kept tried bf fd pk bo so sh mv tr p n part).2) := by
  refine Ci.of (by decide) (Nat.le_of_ble_eq_true rfl) ?_
  intro p_ e_ s_ m_ b_ M_ c_ A_ C
  replace C : Cx _ _ _ _ _ _ _ _ RX12 _ _ _ _ := C
  refine j_L [0, 1, 2, 3] [(0, .ref o), (1, .int p), (2, .int n), (3, .int part)] rfl ?_
  obtain ⟨hI, hW, ⟨e0, hd⟩, ⟨e4, ht⟩, ⟨e5, hq⟩, hB⟩ := id hR
  obtain ⟨⟨e2, hc2, hc10⟩, ⟨e3, hn6⟩, ⟨e8, hw8⟩, hP, hE, hLo, hT0, hT1⟩ := id hI
  have hIc := hI
  refine j_aload_n C 0 dX12_odds_0 rfl ?_
  refine j_iload_n C 1 dX12_odds_1 rfl ?_
  refine j_callV (As := [.int p]) (rest := []) C vw12_isPerson (c_isPerson) rRcv rfl (Nat.le_of_ble_eq_true rfl) dX12_odds_2 (by decide) ?_
  rintro _ _ ⟨rfl, rfl⟩
  refine j_if_eq C 27 dX12_odds_5 (by decide) (fun c5 => ?_) (fun c5 => ?_)
  · replace c5 := bI_f c5
    refine j_aload_n C 0 dX12_odds_27 rfl ?_
    refine j_ldc C (-1000000001) dX12_odds_28 kc12_55 ?_
    refine j_callV (As := [.int (-1000000001)]) (rest := []) C vw12_errs (c_errs 1 (by decide) (by decide)) rRcv rfl (Nat.le_of_ble_eq_true rfl) dX12_odds_30 (by decide) ?_
    rintro _ _ ⟨rfl, rfl⟩
    refine j_iret C dX12_odds_33 ?_
    unfold sp_odds
    rw [if_neg (fun h => c5 h.1)]
    exact ⟨rfl, EQ.rf⟩
  · replace c5 := bI_t c5
    obtain ⟨pn, hpn, rfl⟩ := inn_row c5 e3 (by omega)
    refine j_iload_n C 2 dX12_odds_8 rfl ?_
    refine j_iconst C (v := (nI 0)) dX12_odds_9 (by decide) ?_
    refine j_bipush C (v := (nI 60)) dX12_odds_10 (by decide) ?_
    refine j_callS (As := [.int n, .int (nI 0), .int (nI 60)]) (rest := []) C vw12_in (c_in) rfl (Nat.le_of_ble_eq_true rfl) dX12_odds_12 (by decide) ?_
    rintro _ _ ⟨rfl, rfl⟩
    refine j_if_eq C 27 dX12_odds_15 (by decide) (fun c15 => ?_) (fun c15 => ?_)
    · replace c15 := bI_f c15
      refine j_aload_n C 0 dX12_odds_27 rfl ?_
      refine j_ldc C (-1000000001) dX12_odds_28 kc12_55 ?_
      refine j_callV (As := [.int (-1000000001)]) (rest := []) C vw12_errs (c_errs 1 (by decide) (by decide)) rRcv rfl (Nat.le_of_ble_eq_true rfl) dX12_odds_30 (by decide) ?_
      rintro _ _ ⟨rfl, rfl⟩
      refine j_iret C dX12_odds_33 ?_
      unfold sp_odds
      rw [if_neg (fun h => c15 h.2.1)]
      exact ⟨rfl, EQ.rf⟩
    · replace c15 := bI_t c15
      obtain ⟨nn, gnn, hnn, rfl⟩ := inn_lit c15 (by omega)
      refine j_iload_n C 3 dX12_odds_18 rfl ?_
      refine j_iconst C (v := (nI 0)) dX12_odds_19 (by decide) ?_
      refine j_iconst C (v := (nI 1)) dX12_odds_20 (by decide) ?_
      refine j_callS (As := [.int part, .int (nI 0), .int (nI 1)]) (rest := []) C vw12_in (c_in) rfl (Nat.le_of_ble_eq_true rfl) dX12_odds_21 (by decide) ?_
      rintro _ _ ⟨rfl, rfl⟩
      refine j_if_ne C 34 dX12_odds_24 (by decide) (fun c24 => ?_) (fun c24 => ?_)
      · replace c24 := bI_t c24
        refine j_aload_n C 0 dX12_odds_34 rfl ?_
        refine rg C (v := .ref (q 0)) 0 (by decide) kf12_7 rfl dX12_odds_35 ?_
        refine j_bipush C (v := (nI 8)) dX12_odds_38 (by decide) ?_
        refine rl_row C 8 rfl (by omega) dX12_odds_40 ?_
        refine j_v (nI nw) e8 ?_
        refine j_istore C [(4, .int (nI nw)), (0, .ref o), (1, .int (nI pn)), (2, .int (nI nn)), (3, .int part)] dX12_odds_41 (by decide) rfl ?_
        refine j_iload C 0 dX12_odds_43 rfl ?_
        refine j_if_ne C 55 dX12_odds_45 (by decide) (fun c45 => ?_) (fun c45 => ?_)
        · rw [show (0 : Int32) = nI 0 from rfl, nI_eq (by omega) (by omega)] at c45
          refine j_iconst C (v := (nI 0)) dX12_odds_55 (by decide) ?_
          refine j_istore C [(5, .int (nI 0)), (4, .int (nI nw)), (0, .ref o), (1, .int (nI pn)), (2, .int (nI nn)), (3, .int part)] dX12_odds_56 (by decide) rfl ?_
          refine j_iconst C (v := (nI 0)) dX12_odds_58 (by decide) ?_
          refine j_istore C [(6, .int (nI 0)), (5, .int (nI 0)), (4, .int (nI nw)), (0, .ref o), (1, .int (nI pn)), (2, .int (nI nn)), (3, .int part)] dX12_odds_59 (by decide) rfl ?_
          refine j_L [3, 4, 5, 6, 2, 1, 0] [(0, .ref o), (1, .int (nI pn)), (2, .int (nI nn)), (3, .int part), (4, .int (nI nw)), (5, .int (nI 0)), (6, .int (nI 0))] rfl ?_
          refine j_loop (X := Nat × (Nat → Int32) × (Nat → Int32) × (Nat → Int32) × Int32) (fun (z : Nat × (Nat → Int32) × (Nat → Int32) × (Nat → Int32) × Int32) => match z with | (i, V1, t1, pk1, z) => i ≤ nw ∧ VE V1 (upd V 15 z)) (fun (z : Nat × (Nat → Int32) × (Nat → Int32) × (Nat → Int32) × Int32) => match z with | (i, V1, t1, pk1, z) => nw - i) (fun (z : Nat × (Nat → Int32) × (Nat → Int32) × (Nat → Int32) × Int32) => match z with | (i, V1, t1, pk1, z) => (sR V1 row kept t1 bf fd pk1 bo so sh mv tr)) (fun (z : Nat × (Nat → Int32) × (Nat → Int32) × (Nat → Int32) × Int32) => match z with | (i, V1, t1, pk1, z) => [(0, .ref o), (1, .int (nI pn)), (2, .int (nI nn)), (3, .int part), (4, .int (nI nw)), (5, .int (nI (oddN V row pn nn i))), (6, .int (nI i))]) (0, V, tried, pk, 0) (⟨Nat.zero_le _, by rw [upd_self hV15]; exact VE.rf⟩) rfl rfl ?_
          rintro ⟨i, V1, t1, pk1, z⟩ ⟨hi, hV⟩ ih
          try dsimp only at ih ⊢
          refine j_iload C 6 dX12_odds_61 rfl ?_
          refine j_iload C 4 dX12_odds_63 rfl ?_
          refine j_icmp_ge C 98 dX12_odds_65 (by decide) (fun c65 => ?_) (fun c65 => ?_)
          · rw [nI_leI (by omega) (by omega)] at c65
            obtain rfl : nw = i := by omega
            have hso := oddN_le V row pn nn nw
            have hgp : 0 < Nat.gcd nw (oddN V row pn nn nw) := Nat.gcd_pos_of_pos_left _ (by omega)
            have hgl : Nat.gcd nw (oddN V row pn nn nw) ≤ nw := Nat.le_of_dvd (by omega) (Nat.gcd_dvd_left _ _)
            have hnz : ¬ nI (Nat.gcd nw (oddN V row pn nn nw)) = 0 := nI_ne0 hgp (by omega)
            refine j_aload_n C 0 dX12_odds_98 rfl ?_
            refine j_iconst C (v := (nI 0)) dX12_odds_99 (by decide) ?_
            refine rp_15 C kf12_181 dX12_odds_100 ?_
            refine j_iload C 5 dX12_odds_103 rfl ?_
            refine j_iload C 4 dX12_odds_105 rfl ?_
            refine j_callS (As := [.int (nI (oddN V row pn nn nw)), .int (nI nw)]) (rest := []) C vw12_divisor (c_divisor (oddN V row pn nn nw) nw (by omega) (by omega)) rfl (Nat.le_of_ble_eq_true rfl) dX12_odds_107 (by decide) ?_
            rintro _ _ ⟨rfl, rfl⟩
            refine j_istore C [(6, .int (nI (Nat.gcd nw (oddN V row pn nn nw)))), (0, .ref o), (1, .int (nI pn)), (2, .int (nI nn)), (3, .int part), (4, .int (nI nw)), (5, .int (nI (oddN V row pn nn nw)))] dX12_odds_110 (by decide) rfl ?_
            refine j_iload_n C 4 dX12_odds_112 rfl ?_
            refine j_if_ne C 124 dX12_odds_113 (by decide) (fun c113 => ?_) (fun c113 => ?_)
            · skip
              refine j_iload C 5 dX12_odds_124 rfl ?_
              refine j_iload C 0 dX12_odds_126 rfl ?_
              refine j_idiv C dX12_odds_128 (by assumption) ?_
              refine j_iret C dX12_odds_129 ?_
              unfold sp_odds
              rw [if_pos ⟨c5, c15, c24⟩, tN_nI (n := pn) (by omega), tN_nI (n := nn) (by omega), e8, tN_nI (n := nw) (by omega)]
              rw [if_neg c45, if_neg c113, pk_div (by omega) hgp (by omega)]
              exact ⟨rfl, EQ.of6 (by rw [pk_un (by omega), hV 4 (by omega)]; rfl) (by rw [pk_un (by omega), hV 5 (by omega)]; rfl) (by rw [pk_us, hV15]; rfl) (by rw [pk_un (by omega), hV 16 (by omega)]; rfl) (by rw [pk_un (by omega), hV 18 (by omega)]; rfl) (by rw [pk_un (by omega), hV 26 (by omega)]; rfl)⟩
            · skip
              refine j_iload C 6 dX12_odds_116 rfl ?_
              refine j_iload C 0 dX12_odds_118 rfl ?_
              refine j_idiv C dX12_odds_120 (by assumption) ?_
              refine j_goto C 129 dX12_odds_121 (by decide) ?_
              refine j_iret C dX12_odds_129 ?_
              unfold sp_odds
              rw [if_pos ⟨c5, c15, c24⟩, tN_nI (n := pn) (by omega), tN_nI (n := nn) (by omega), e8, tN_nI (n := nw) (by omega)]
              rw [if_neg c45, if_pos c113, pk_div (by omega) hgp (by omega)]
              exact ⟨rfl, EQ.of6 (by rw [pk_un (by omega), hV 4 (by omega)]; rfl) (by rw [pk_un (by omega), hV 5 (by omega)]; rfl) (by rw [pk_us, hV15]; rfl) (by rw [pk_un (by omega), hV 16 (by omega)]; rfl) (by rw [pk_un (by omega), hV 18 (by omega)]; rfl) (by rw [pk_un (by omega), hV 26 (by omega)]; rfl)⟩
          · rw [nI_leI (by omega) (by omega)] at c65
            refine j_aload_n C 0 dX12_odds_68 rfl ?_
            refine j_iconst C (v := (nI 1)) dX12_odds_69 (by decide) ?_
            refine j_iload C 6 dX12_odds_70 rfl ?_
            refine j_ishl C dX12_odds_72 ?_
            refine rp_15 C kf12_181 dX12_odds_73 ?_
            have hwv := wv_eq nw (hV.ov (y := nI 1 <<< (nI i &&& 31))) (FR.rf (r := row))
            refine j_iload C 5 dX12_odds_76 rfl ?_
            refine j_iconst C (v := (nI 1)) dX12_odds_78 (by decide) ?_
            refine j_aload_n C 0 dX12_odds_79 rfl ?_
            refine j_iload_n C 2 dX12_odds_80 rfl ?_
            refine j_callV (As := [.int (nI nn)]) (rest := [.int (nI 1), .int (nI (oddN V row pn nn i))]) C vw12_starving (c_starving nn (by omega) hI) rRcv rfl (Nat.le_of_ble_eq_true rfl) dX12_odds_81 (by decide) ?_
            rintro _ _ ⟨Vx1, pkx2, hVx1, rfl, rfl⟩
            refine j_iload_n C 1 dX12_odds_84 rfl ?_
            refine j_ishr C dX12_odds_85 ?_
            refine j_iconst C (v := (nI 1)) dX12_odds_86 (by decide) ?_
            refine j_iand C dX12_odds_87 ?_
            rw [hwv]
            refine j_v (bI (row (30 + 6 * pn + 5) < dawnsF np (wv (oddV V i) row nw) row nn (30 + 6 * pn + 5))) (hun_bit hn6 hpn) ?_
            refine j_isub C dX12_odds_88 ?_
            refine j_v (nI (if hgP (oddV V i) row nn pn then 0 else 1)) (by rw [one_sub, ite01 (hg_eq e3 e8 hn6 hw8).symm]) ?_
            refine j_iaddN C dX12_odds_89 ?_
            refine j_istore C [(5, .int (nI (oddN V row pn nn i + if hgP (oddV V i) row nn pn then 0 else 1))), (0, .ref o), (1, .int (nI pn)), (2, .int (nI nn)), (3, .int part), (4, .int (nI nw)), (6, .int (nI i))] dX12_odds_90 (by decide) rfl ?_
            refine j_iinc C (v := (nI (i + 1))) 6 [(6, .int (nI (i + 1))), (5, .int (nI (oddN V row pn nn i + if hgP (oddV V i) row nn pn then 0 else 1))), (0, .ref o), (1, .int (nI pn)), (2, .int (nI nn)), (3, .int part), (4, .int (nI nw))] dX12_odds_92 rfl (nI_1 _) (by decide) rfl ?_
            refine j_goto C 61 dX12_odds_95 (by decide) ?_
            refine j_L [2, 3, 4, 5, 6, 1, 0] [(0, .ref o), (1, .int (nI pn)), (2, .int (nI nn)), (3, .int part), (4, .int (nI nw)), (5, .int (nI (oddN V row pn nn i + if hgP (oddV V i) row nn pn then 0 else 1))), (6, .int (nI (i + 1)))] rfl ?_
            exact ih (i + 1, Vx1, row, pkx2, nI 1 <<< (nI i &&& 31)) ⟨by dsimp only; omega, hVx1.tr hV.ov⟩ (by dsimp only; omega)
        · rw [show (0 : Int32) = nI 0 from rfl, nI_eq (by omega) (by omega)] at c45
          refine j_aload_n C 1 dX12_odds_48 rfl ?_
          refine j_ldc C (-1000000003) dX12_odds_49 kc12_60 ?_
          refine j_callV (As := [.int (-1000000003)]) (rest := []) C vw12_errs (c_errs 3 (by decide) (by decide)) rRcv rfl (Nat.le_of_ble_eq_true rfl) dX12_odds_51 (by decide) ?_
          rintro _ _ ⟨rfl, rfl⟩
          refine j_iret C dX12_odds_54 ?_
          unfold sp_odds
          rw [if_pos ⟨c5, c15, c24⟩, tN_nI (n := pn) (by omega), tN_nI (n := nn) (by omega), e8, tN_nI (n := nw) (by omega)]
          rw [if_pos c45]
          exact ⟨rfl, EQ.rf⟩
      · replace c24 := bI_f c24
        refine j_aload_n C 0 dX12_odds_27 rfl ?_
        refine j_ldc C (-1000000001) dX12_odds_28 kc12_55 ?_
        refine j_callV (As := [.int (-1000000001)]) (rest := []) C vw12_errs (c_errs 1 (by decide) (by decide)) rRcv rfl (Nat.le_of_ble_eq_true rfl) dX12_odds_30 (by decide) ?_
        rintro _ _ ⟨rfl, rfl⟩
        refine j_iret C dX12_odds_33 ?_
        unfold sp_odds
        rw [if_neg (fun h => c24 h.2.2)]
        exact ⟨rfl, EQ.rf⟩
theorem dX12_starves_0 : decode cX12_starves 0 = .ok (.iload_n 1, 1) := by decide +kernel
theorem dX12_starves_1 : decode cX12_starves 1 = .ok (.iconst 0, 1) := by decide +kernel
theorem dX12_starves_2 : decode cX12_starves 2 = .ok (.bipush 60, 2) := by decide +kernel
theorem dX12_starves_4 : decode cX12_starves 4 = .ok (.invokestatic 51, 3) := by decide +kernel
theorem dX12_starves_7 : decode cX12_starves 7 = .ok (.ifCond .ne 10, 3) := by decide +kernel
theorem dX12_starves_10 : decode cX12_starves 10 = .ok (.aload_n 0, 1) := by decide +kernel
theorem dX12_starves_11 : decode cX12_starves 11 = .ok (.ldc 55, 2) := by decide +kernel
theorem dX12_starves_13 : decode cX12_starves 13 = .ok (.invokevirtual 56, 3) := by decide +kernel
theorem dX12_starves_16 : decode cX12_starves 16 = .ok (.ireturn, 1) := by decide +kernel
theorem dX12_starves_17 : decode cX12_starves 17 = .ok (.iconst 0, 1) := by decide +kernel
theorem dX12_starves_18 : decode cX12_starves 18 = .ok (.istore_n 2, 1) := by decide +kernel
theorem dX12_starves_19 : decode cX12_starves 19 = .ok (.iconst 0, 1) := by decide +kernel
theorem dX12_starves_20 : decode cX12_starves 20 = .ok (.istore_n 3, 1) := by decide +kernel
theorem dX12_starves_21 : decode cX12_starves 21 = .ok (.iload_n 3, 1) := by decide +kernel
theorem dX12_starves_22 : decode cX12_starves 22 = .ok (.aload_n 0, 1) := by decide +kernel
theorem dX12_starves_23 : decode cX12_starves 23 = .ok (.getfield 7, 3) := by decide +kernel
theorem dX12_starves_26 : decode cX12_starves 26 = .ok (.iconst 3, 1) := by decide +kernel
theorem dX12_starves_27 : decode cX12_starves 27 = .ok (.iaload, 1) := by decide +kernel
theorem dX12_starves_28 : decode cX12_starves 28 = .ok (.if_icmp .ge 80, 3) := by decide +kernel
theorem dX12_starves_31 : decode cX12_starves 31 = .ok (.aload_n 0, 1) := by decide +kernel
theorem dX12_starves_32 : decode cX12_starves 32 = .ok (.iconst 0, 1) := by decide +kernel
theorem dX12_starves_33 : decode cX12_starves 33 = .ok (.putfield 181, 3) := by decide +kernel
theorem dX12_starves_36 : decode cX12_starves 36 = .ok (.iconst 0, 1) := by decide +kernel
theorem dX12_starves_37 : decode cX12_starves 37 = .ok (.istore 4, 2) := by decide +kernel
theorem dX12_starves_39 : decode cX12_starves 39 = .ok (.iload 4, 2) := by decide +kernel
theorem dX12_starves_41 : decode cX12_starves 41 = .ok (.aload_n 0, 1) := by decide +kernel
theorem dX12_starves_42 : decode cX12_starves 42 = .ok (.getfield 7, 3) := by decide +kernel
theorem dX12_starves_45 : decode cX12_starves 45 = .ok (.bipush 8, 2) := by decide +kernel
theorem dX12_starves_47 : decode cX12_starves 47 = .ok (.iaload, 1) := by decide +kernel
theorem dX12_starves_48 : decode cX12_starves 48 = .ok (.if_icmp .ge 42, 3) := by decide +kernel
theorem dX12_starves_51 : decode cX12_starves 51 = .ok (.aload_n 0, 1) := by decide +kernel
theorem dX12_starves_52 : decode cX12_starves 52 = .ok (.dup, 1) := by decide +kernel
theorem dX12_starves_53 : decode cX12_starves 53 = .ok (.getfield 181, 3) := by decide +kernel
theorem dX12_starves_56 : decode cX12_starves 56 = .ok (.aload_n 0, 1) := by decide +kernel
theorem dX12_starves_57 : decode cX12_starves 57 = .ok (.getfield 7, 3) := by decide +kernel
theorem dX12_starves_60 : decode cX12_starves 60 = .ok (.bipush 66, 2) := by decide +kernel
theorem dX12_starves_62 : decode cX12_starves 62 = .ok (.iconst 3, 1) := by decide +kernel
theorem dX12_starves_63 : decode cX12_starves 63 = .ok (.iload 4, 2) := by decide +kernel
theorem dX12_starves_65 : decode cX12_starves 65 = .ok (.imul, 1) := by decide +kernel
theorem dX12_starves_66 : decode cX12_starves 66 = .ok (.iadd, 1) := by decide +kernel
theorem dX12_starves_67 : decode cX12_starves 67 = .ok (.iaload, 1) := by decide +kernel
theorem dX12_starves_68 : decode cX12_starves 68 = .ok (.iload_n 3, 1) := by decide +kernel
theorem dX12_starves_69 : decode cX12_starves 69 = .ok (.if_icmp .ne 10, 3) := by decide +kernel
theorem dX12_starves_72 : decode cX12_starves 72 = .ok (.iconst 1, 1) := by decide +kernel
theorem dX12_starves_73 : decode cX12_starves 73 = .ok (.iload 4, 2) := by decide +kernel
theorem dX12_starves_75 : decode cX12_starves 75 = .ok (.ishl, 1) := by decide +kernel
theorem dX12_starves_76 : decode cX12_starves 76 = .ok (.goto 4, 3) := by decide +kernel
theorem dX12_starves_79 : decode cX12_starves 79 = .ok (.iconst 0, 1) := by decide +kernel
theorem dX12_starves_80 : decode cX12_starves 80 = .ok (.ior, 1) := by decide +kernel
theorem dX12_starves_81 : decode cX12_starves 81 = .ok (.putfield 181, 3) := by decide +kernel
theorem dX12_starves_84 : decode cX12_starves 84 = .ok (.iinc 4 1, 3) := by decide +kernel
theorem dX12_starves_87 : decode cX12_starves 87 = .ok (.goto (-48), 3) := by decide +kernel
theorem dX12_starves_90 : decode cX12_starves 90 = .ok (.iload_n 2, 1) := by decide +kernel
theorem dX12_starves_91 : decode cX12_starves 91 = .ok (.aload_n 0, 1) := by decide +kernel
theorem dX12_starves_92 : decode cX12_starves 92 = .ok (.iload_n 1, 1) := by decide +kernel
theorem dX12_starves_93 : decode cX12_starves 93 = .ok (.invokevirtual 214, 3) := by decide +kernel
theorem dX12_starves_96 : decode cX12_starves 96 = .ok (.iconst 1, 1) := by decide +kernel
theorem dX12_starves_97 : decode cX12_starves 97 = .ok (.iload_n 3, 1) := by decide +kernel
theorem dX12_starves_98 : decode cX12_starves 98 = .ok (.ishl, 1) := by decide +kernel
theorem dX12_starves_99 : decode cX12_starves 99 = .ok (.iand, 1) := by decide +kernel
theorem dX12_starves_100 : decode cX12_starves 100 = .ok (.ior, 1) := by decide +kernel
theorem dX12_starves_101 : decode cX12_starves 101 = .ok (.istore_n 2, 1) := by decide +kernel
theorem dX12_starves_102 : decode cX12_starves 102 = .ok (.iinc 3 1, 3) := by decide +kernel
theorem dX12_starves_105 : decode cX12_starves 105 = .ok (.goto (-84), 3) := by decide +kernel
theorem dX12_starves_108 : decode cX12_starves 108 = .ok (.aload_n 0, 1) := by decide +kernel
theorem dX12_starves_109 : decode cX12_starves 109 = .ok (.iconst 0, 1) := by decide +kernel
theorem dX12_starves_110 : decode cX12_starves 110 = .ok (.putfield 181, 3) := by decide +kernel
theorem dX12_starves_113 : decode cX12_starves 113 = .ok (.iload_n 2, 1) := by decide +kernel
theorem dX12_starves_114 : decode cX12_starves 114 = .ok (.ireturn, 1) := by decide +kernel
set_option maxHeartbeats 2000000 in
set_option maxRecDepth 20000 in
theorem c_starves {l : Launch} {D : va_G} {cI cG cW : ClassId} {o : Nat} {q : Nat → Nat} {V row kept tried bf fd pk bo so sh mv tr : Nat → Int32} {n : Int32} {nc np nw d nt nq : Nat} (hR : RKx row nc np nw d nt nq) (hV15 : V 15 = 0) (hV16 : V 16 = -1) (hV18 : V 18 = -1) : Ci l yX12_starves cX12_starves 5 (some .int) 90 D (tyL cI cG cW) (wR cI o q) [.ref o, .int n] (sR V row kept tried bf fd pk bo so sh mv tr) (fun r τ => r = (sp_starves V row kept tried bf fd pk bo so sh mv tr n).1 ∧ EQ τ (sp_starves V row kept tried bf fd pk bo so sh mv tr n).2) := by
  refine Ci.of (by decide) (Nat.le_of_ble_eq_true rfl) ?_
  intro p_ e_ s_ m_ b_ M_ c_ A_ C
  replace C : Cx _ _ _ _ _ _ _ _ RX12 _ _ _ _ := C
  refine j_L [0, 1] [(0, .ref o), (1, .int n)] rfl ?_
  obtain ⟨hI, hW, ⟨e0, hd⟩, ⟨e4, ht⟩, ⟨e5, hq⟩, hB⟩ := id hR
  obtain ⟨⟨e2, hc2, hc10⟩, ⟨e3, hn6⟩, ⟨e8, hw8⟩, hP, hE, hLo, hT0, hT1⟩ := id hI
  have hIc := hI
  refine j_iload_n C 1 dX12_starves_0 rfl ?_
  refine j_iconst C (v := (nI 0)) dX12_starves_1 (by decide) ?_
  refine j_bipush C (v := (nI 60)) dX12_starves_2 (by decide) ?_
  refine j_callS (As := [.int n, .int (nI 0), .int (nI 60)]) (rest := []) C vw12_in (c_in) rfl (Nat.le_of_ble_eq_true rfl) dX12_starves_4 (by decide) ?_
  rintro _ _ ⟨rfl, rfl⟩
  refine j_if_ne C 17 dX12_starves_7 (by decide) (fun c7 => ?_) (fun c7 => ?_)
  · replace c7 := bI_t c7
    obtain ⟨nn, gnn, hnn, rfl⟩ := inn_lit c7 (by omega)
    refine j_iconst C (v := (nI 0)) dX12_starves_17 (by decide) ?_
    refine j_istore_n C [(2, .int (nI 0)), (0, .ref o), (1, .int (nI nn))] dX12_starves_18 (by decide) rfl ?_
    refine j_iconst C (v := (nI 0)) dX12_starves_19 (by decide) ?_
    refine j_istore_n C [(3, .int (nI 0)), (2, .int (nI 0)), (0, .ref o), (1, .int (nI nn))] dX12_starves_20 (by decide) rfl ?_
    refine j_L [2, 3, 1, 0] [(0, .ref o), (1, .int (nI nn)), (2, .int (nI 0)), (3, .int (nI 0))] rfl ?_
    refine j_loop (X := Nat × (Nat → Int32) × (Nat → Int32) × (Nat → Int32) × Int32) (fun (z : Nat × (Nat → Int32) × (Nat → Int32) × (Nat → Int32) × Int32) => match z with | (i, V1, t1, pk1, z) => i ≤ np ∧ VE V1 (upd V 15 z)) (fun (z : Nat × (Nat → Int32) × (Nat → Int32) × (Nat → Int32) × Int32) => match z with | (i, V1, t1, pk1, z) => np - i) (fun (z : Nat × (Nat → Int32) × (Nat → Int32) × (Nat → Int32) × Int32) => match z with | (i, V1, t1, pk1, z) => (sR V1 row kept t1 bf fd pk1 bo so sh mv tr)) (fun (z : Nat × (Nat → Int32) × (Nat → Int32) × (Nat → Int32) × Int32) => match z with | (i, V1, t1, pk1, z) => [(0, .ref o), (1, .int (nI nn)), (2, .int (starF V row nn np nw i)), (3, .int (nI i))]) (0, V, tried, pk, 0) (⟨Nat.zero_le _, by rw [upd_self hV15]; exact VE.rf⟩) rfl rfl ?_
    rintro ⟨i, V1, t1, pk1, z⟩ ⟨hi, hV⟩ ihA
    try dsimp only at ihA ⊢
    refine j_iload_n C 3 dX12_starves_21 rfl ?_
    refine j_aload_n C 0 dX12_starves_22 rfl ?_
    refine rg C (v := .ref (q 0)) 0 (by decide) kf12_7 rfl dX12_starves_23 ?_
    refine j_iconst C (v := (nI 3)) dX12_starves_26 (by decide) ?_
    refine rl_row C 3 rfl (by omega) dX12_starves_27 ?_
    refine j_v (nI np) e3 ?_
    refine j_icmp_ge C 108 dX12_starves_28 (by decide) (fun c28 => ?_) (fun c28 => ?_)
    · rw [nI_leI (by omega) (by omega)] at c28
      obtain rfl : np = i := by omega
      refine j_aload_n C 0 dX12_starves_108 rfl ?_
      refine j_iconst C (v := (nI 0)) dX12_starves_109 (by decide) ?_
      refine rp_15 C kf12_181 dX12_starves_110 ?_
      refine j_iload_n C 2 dX12_starves_113 rfl ?_
      refine j_iret C dX12_starves_114 ?_
      unfold sp_starves
      rw [if_pos c7, tN_nI (n := nn) (by omega), e3, e8, tN_nI (n := np) (by omega), tN_nI (n := nw) (by omega)]
      exact ⟨rfl, EQ.of6 (by rw [pk_un (by omega), hV 4 (by omega)]; rfl) (by rw [pk_un (by omega), hV 5 (by omega)]; rfl) (by rw [pk_us, hV15]; rfl) (by rw [pk_un (by omega), hV 16 (by omega)]; rfl) (by rw [pk_un (by omega), hV 18 (by omega)]; rfl) (by rw [pk_un (by omega), hV 26 (by omega)]; rfl)⟩
    · rw [nI_leI (by omega) (by omega)] at c28
      refine j_aload_n C 0 dX12_starves_31 rfl ?_
      refine j_iconst C (v := (nI 0)) dX12_starves_32 (by decide) ?_
      refine rp_15 C kf12_181 dX12_starves_33 ?_
      refine j_iconst C (v := (nI 0)) dX12_starves_36 (by decide) ?_
      refine j_istore C [(4, .int (nI 0)), (0, .ref o), (1, .int (nI nn)), (2, .int (starF V row nn np nw i)), (3, .int (nI i))] dX12_starves_37 (by decide) rfl ?_
      refine j_L [1, 2, 3, 4, 0] [(0, .ref o), (1, .int (nI nn)), (2, .int (starF V row nn np nw i)), (3, .int (nI i)), (4, .int (nI 0))] rfl ?_
      refine j_loop (X := Nat × (Nat → Int32)) (fun (z : Nat × (Nat → Int32)) => match z with | (w, V2) => w ≤ nw ∧ VE V2 (upd V 15 (mskF row i w))) (fun (z : Nat × (Nat → Int32)) => match z with | (w, V2) => nw - w) (fun (z : Nat × (Nat → Int32)) => match z with | (w, V2) => (sR V2 row kept t1 bf fd pk1 bo so sh mv tr)) (fun (z : Nat × (Nat → Int32)) => match z with | (w, V2) => [(0, .ref o), (1, .int (nI nn)), (2, .int (starF V row nn np nw i)), (3, .int (nI i)), (4, .int (nI w))]) (0, upd V1 15 (nI 0)) (⟨Nat.zero_le _, hV.ov⟩) rfl rfl ?_
      rintro ⟨w, V2⟩ ⟨hw, hV2⟩ ih
      try dsimp only at ih ⊢
      have hb15 : V2 15 = mskF row i w := (hV2 15 (by omega)).trans pk_us
      refine j_iload C 4 dX12_starves_39 rfl ?_
      refine j_aload_n C 0 dX12_starves_41 rfl ?_
      refine rg C (v := .ref (q 0)) 0 (by decide) kf12_7 rfl dX12_starves_42 ?_
      refine j_bipush C (v := (nI 8)) dX12_starves_45 (by decide) ?_
      refine rl_row C 8 rfl (by omega) dX12_starves_47 ?_
      refine j_v (nI nw) e8 ?_
      refine j_icmp_ge C 90 dX12_starves_48 (by decide) (fun c48 => ?_) (fun c48 => ?_)
      · rw [nI_leI (by omega) (by omega)] at c48
        obtain rfl : nw = w := by omega
        have hwv := wv_eq nw hV2 (FR.rf (r := row))
        refine j_iload_n C 2 dX12_starves_90 rfl ?_
        refine j_aload_n C 0 dX12_starves_91 rfl ?_
        refine j_iload_n C 1 dX12_starves_92 rfl ?_
        refine j_callV (As := [.int (nI nn)]) (rest := [.int (starF V row nn np nw i)]) C vw12_starving (c_starving nn (by omega) hI) rRcv rfl (Nat.le_of_ble_eq_true rfl) dX12_starves_93 (by decide) ?_
        rintro _ _ ⟨Vx1, pkx2, hVx1, rfl, rfl⟩
        refine j_iconst C (v := (nI 1)) dX12_starves_96 (by decide) ?_
        refine j_iload_n C 3 dX12_starves_97 rfl ?_
        refine j_ishl C dX12_starves_98 ?_
        refine j_iand C dX12_starves_99 ?_
        refine j_ior C dX12_starves_100 ?_
        refine j_istore_n C [(2, .int ((starF V row nn np nw i) ||| ((hunF (dawnsF np (wv V2 row nw) row nn) row np) &&& ((nI 1) <<< ((nI i) &&& 31))))), (0, .ref o), (1, .int (nI nn)), (3, .int (nI i)), (4, .int (nI nw))] dX12_starves_101 (by decide) rfl ?_
        refine j_iinc C (v := (nI (i + 1))) 3 [(3, .int (nI (i + 1))), (2, .int ((starF V row nn np nw i) ||| ((hunF (dawnsF np (wv V2 row nw) row nn) row np) &&& ((nI 1) <<< ((nI i) &&& 31))))), (0, .ref o), (1, .int (nI nn)), (4, .int (nI nw))] dX12_starves_102 rfl (nI_1 _) (by decide) rfl ?_
        refine j_goto C 21 dX12_starves_105 (by decide) ?_
        refine j_L [2, 3, 1, 0] [(0, .ref o), (1, .int (nI nn)), (2, .int ((starF V row nn np nw i) ||| ((hunF (dawnsF np (wv V2 row nw) row nn) row np) &&& ((nI 1) <<< ((nI i) &&& 31))))), (3, .int (nI (i + 1)))] rfl ?_
        rw [hwv]
        exact ihA (i + 1, Vx1, row, pkx2, mskF row i nw) ⟨by dsimp only; omega, hVx1.tr hV2⟩ (by dsimp only; omega)
      · rw [nI_leI (by omega) (by omega)] at c48
        refine j_aload_n C 0 dX12_starves_51 rfl ?_
        refine j_dup C dX12_starves_52 rfl ?_
        refine rg C (v := .int (V2 15)) 15 (by decide) kf12_181 rfl dX12_starves_53 ?_
        refine j_v (mskF row i w) hb15 ?_
        refine j_aload_n C 0 dX12_starves_56 rfl ?_
        refine rg C (v := .ref (q 0)) 0 (by decide) kf12_7 rfl dX12_starves_57 ?_
        refine j_bipush C (v := (nI 66)) dX12_starves_60 (by decide) ?_
        refine j_iconst C (v := (nI 3)) dX12_starves_62 (by decide) ?_
        refine j_iload C 4 dX12_starves_63 rfl ?_
        refine j_imulN C dX12_starves_65 ?_
        refine j_iaddN C dX12_starves_66 ?_
        refine rl_row C (66 + 3 * w) rfl (by omega) dX12_starves_67 ?_
        refine j_iload_n C 3 dX12_starves_68 rfl ?_
        refine j_icmp_ne C 79 dX12_starves_69 (by decide) (fun c69 => ?_) (fun c69 => ?_)
        · skip
          refine j_iconst C (v := (nI 0)) dX12_starves_79 (by decide) ?_
          refine j_ior C dX12_starves_80 ?_
          refine rp_15 C kf12_181 dX12_starves_81 ?_
          refine j_iinc C (v := (nI (w + 1))) 4 [(4, .int (nI (w + 1))), (0, .ref o), (1, .int (nI nn)), (2, .int (starF V row nn np nw i)), (3, .int (nI i))] dX12_starves_84 rfl (nI_1 _) (by decide) rfl ?_
          refine j_goto C 39 dX12_starves_87 (by decide) ?_
          refine j_L [1, 2, 3, 4, 0] [(0, .ref o), (1, .int (nI nn)), (2, .int (starF V row nn np nw i)), (3, .int (nI i)), (4, .int (nI (w + 1)))] rfl ?_
          refine ih (w + 1, upd V2 15 ((mskF row i w) ||| (nI 0))) ⟨by dsimp only; omega, ?_⟩ (by dsimp only; omega)
          show VE _ (upd V 15 (mskF row i w ||| (if row (66 + 3 * w) = nI i then nI 1 <<< (nI w &&& 31) else nI 0)))
          rw [if_neg c69]
          exact hV2.ov
        · skip
          refine j_iconst C (v := (nI 1)) dX12_starves_72 (by decide) ?_
          refine j_iload C 4 dX12_starves_73 rfl ?_
          refine j_ishl C dX12_starves_75 ?_
          refine j_goto C 80 dX12_starves_76 (by decide) ?_
          refine j_ior C dX12_starves_80 ?_
          refine rp_15 C kf12_181 dX12_starves_81 ?_
          refine j_iinc C (v := (nI (w + 1))) 4 [(4, .int (nI (w + 1))), (0, .ref o), (1, .int (nI nn)), (2, .int (starF V row nn np nw i)), (3, .int (nI i))] dX12_starves_84 rfl (nI_1 _) (by decide) rfl ?_
          refine j_goto C 39 dX12_starves_87 (by decide) ?_
          refine j_L [1, 2, 3, 4, 0] [(0, .ref o), (1, .int (nI nn)), (2, .int (starF V row nn np nw i)), (3, .int (nI i)), (4, .int (nI (w + 1)))] rfl ?_
          refine ih (w + 1, upd V2 15 ((mskF row i w) ||| ((nI 1) <<< ((nI w) &&& 31)))) ⟨by dsimp only; omega, ?_⟩ (by dsimp only; omega)
          show VE _ (upd V 15 (mskF row i w ||| (if row (66 + 3 * w) = nI i then nI 1 <<< (nI w &&& 31) else nI 0)))
          rw [if_pos c69]
          exact hV2.ov
  · replace c7 := bI_f c7
    refine j_aload_n C 0 dX12_starves_10 rfl ?_
    refine j_ldc C (-1000000001) dX12_starves_11 kc12_55 ?_
    refine j_callV (As := [.int (-1000000001)]) (rest := []) C vw12_errs (c_errs 1 (by decide) (by decide)) rRcv rfl (Nat.le_of_ble_eq_true rfl) dX12_starves_13 (by decide) ?_
    rintro _ _ ⟨rfl, rfl⟩
    refine j_iret C dX12_starves_16 ?_
    unfold sp_starves
    rw [if_neg c7]
    exact ⟨rfl, EQ.rf⟩
theorem dX12_bits_0 : decode cX12_bits 0 = .ok (.iconst 0, 1) := by decide +kernel
theorem dX12_bits_1 : decode cX12_bits 1 = .ok (.istore_n 1, 1) := by decide +kernel
theorem dX12_bits_2 : decode cX12_bits 2 = .ok (.iload_n 0, 1) := by decide +kernel
theorem dX12_bits_3 : decode cX12_bits 3 = .ok (.istore_n 2, 1) := by decide +kernel
theorem dX12_bits_4 : decode cX12_bits 4 = .ok (.iload_n 2, 1) := by decide +kernel
theorem dX12_bits_5 : decode cX12_bits 5 = .ok (.ifCond .eq 15, 3) := by decide +kernel
theorem dX12_bits_8 : decode cX12_bits 8 = .ok (.iinc 1 1, 3) := by decide +kernel
theorem dX12_bits_11 : decode cX12_bits 11 = .ok (.iload_n 2, 1) := by decide +kernel
theorem dX12_bits_12 : decode cX12_bits 12 = .ok (.iload_n 2, 1) := by decide +kernel
theorem dX12_bits_13 : decode cX12_bits 13 = .ok (.iconst 1, 1) := by decide +kernel
theorem dX12_bits_14 : decode cX12_bits 14 = .ok (.isub, 1) := by decide +kernel
theorem dX12_bits_15 : decode cX12_bits 15 = .ok (.iand, 1) := by decide +kernel
theorem dX12_bits_16 : decode cX12_bits 16 = .ok (.istore_n 2, 1) := by decide +kernel
theorem dX12_bits_17 : decode cX12_bits 17 = .ok (.goto (-13), 3) := by decide +kernel
theorem dX12_bits_20 : decode cX12_bits 20 = .ok (.iload_n 1, 1) := by decide +kernel
theorem dX12_bits_21 : decode cX12_bits 21 = .ok (.ireturn, 1) := by decide +kernel
set_option maxHeartbeats 2000000 in
set_option maxRecDepth 20000 in
theorem c_bits {l : Launch} {D : va_G} {cI cG cW : ClassId} {S : Type} {Wd : S → va_W} {σ : S} (a : Nat) (ha : a < 256) : Ci l yX12_bits cX12_bits 3 (some .int) 0 D (tyL cI cG cW) Wd [.int (nI a)] σ (fun r τ => r = nI (popN a) ∧ τ = σ) := by
  refine Ci.of (by decide) (Nat.le_of_ble_eq_true rfl) ?_
  intro p_ e_ s_ m_ b_ M_ c_ A_ C
  replace C : Cx _ _ _ _ _ _ _ _ RX12 _ _ _ _ := C
  refine j_L [0] [(0, .int (nI a))] rfl ?_
  refine j_iconst C (v := (nI 0)) dX12_bits_0 (by decide) ?_
  refine j_istore_n C [(1, .int (nI 0)), (0, .int (nI a))] dX12_bits_1 (by decide) rfl ?_
  refine j_iload_n C 1 dX12_bits_2 rfl ?_
  refine j_istore_n C [(2, .int (nI a)), (1, .int (nI 0)), (0, .int (nI a))] dX12_bits_3 (by decide) rfl ?_
  refine j_L [2, 1, 0] [(0, .int (nI a)), (1, .int (nI 0)), (2, .int (nI a))] rfl ?_
  refine j_loop (X := Nat × Nat) (fun (z : Nat × Nat) => match z with | (x, n) => x < 256 ∧ n + popN x = popN a) (fun (z : Nat × Nat) => match z with | (x, n) => popN x) (fun (z : Nat × Nat) => match z with | (x, n) => σ) (fun (z : Nat × Nat) => match z with | (x, n) => [(0, .int (nI a)), (1, .int (nI n)), (2, .int (nI x))]) (a, 0) (⟨ha, by omega⟩) rfl rfl ?_
  rintro ⟨x, n⟩ ⟨hx, hn⟩ ih
  try dsimp only at ih ⊢
  refine j_iload_n C 2 dX12_bits_4 rfl ?_
  refine j_if_eq C 20 dX12_bits_5 (by decide) (fun c5 => ?_) (fun c5 => ?_)
  · rw [show (0 : Int32) = nI 0 from rfl, nI_eq (by omega) (by omega)] at c5
    refine j_iload_n C 1 dX12_bits_20 rfl ?_
    refine j_iret C dX12_bits_21 ?_
    refine ⟨?_, rfl⟩
    rw [show x = 0 from c5] at hn
    rw [← hn]
    rfl
  · rw [show (0 : Int32) = nI 0 from rfl, nI_eq (by omega) (by omega)] at c5
    have hlo := low_ok x hx c5
    refine j_iinc C (v := (nI (n + 1))) 1 [(1, .int (nI (n + 1))), (0, .int (nI a)), (2, .int (nI x))] dX12_bits_8 rfl (nI_1 _) (by decide) rfl ?_
    refine j_iload_n C 2 dX12_bits_11 rfl ?_
    refine j_iload_n C 2 dX12_bits_12 rfl ?_
    refine j_iconst C (v := (nI 1)) dX12_bits_13 (by decide) ?_
    refine j_isub C dX12_bits_14 ?_
    refine j_iand C dX12_bits_15 ?_
    refine j_v (nI (lowN x)) hlo.1 ?_
    refine j_istore_n C [(2, .int (nI (lowN x))), (1, .int (nI (n + 1))), (0, .int (nI a))] dX12_bits_16 (by decide) rfl ?_
    refine j_goto C 4 dX12_bits_17 (by decide) ?_
    refine j_L [2, 1, 0] [(0, .int (nI a)), (1, .int (nI (n + 1))), (2, .int (nI (lowN x)))] rfl ?_
    exact ih (lowN x, n + 1) (⟨hlo.2.2, by dsimp only; omega⟩) (by dsimp only; omega)
theorem dX12_pardons_0 : decode cX12_pardons 0 = .ok (.iload_n 1, 1) := by decide +kernel
theorem dX12_pardons_1 : decode cX12_pardons 1 = .ok (.iconst 0, 1) := by decide +kernel
theorem dX12_pardons_2 : decode cX12_pardons 2 = .ok (.bipush 20, 2) := by decide +kernel
theorem dX12_pardons_4 : decode cX12_pardons 4 = .ok (.invokestatic 51, 3) := by decide +kernel
theorem dX12_pardons_7 : decode cX12_pardons 7 = .ok (.ifCond .ne 10, 3) := by decide +kernel
theorem dX12_pardons_10 : decode cX12_pardons 10 = .ok (.aload_n 0, 1) := by decide +kernel
theorem dX12_pardons_11 : decode cX12_pardons 11 = .ok (.ldc 55, 2) := by decide +kernel
theorem dX12_pardons_13 : decode cX12_pardons 13 = .ok (.invokevirtual 56, 3) := by decide +kernel
theorem dX12_pardons_16 : decode cX12_pardons 16 = .ok (.ireturn, 1) := by decide +kernel
theorem dX12_pardons_17 : decode cX12_pardons 17 = .ok (.iconst (-1), 1) := by decide +kernel
theorem dX12_pardons_18 : decode cX12_pardons 18 = .ok (.istore_n 2, 1) := by decide +kernel
theorem dX12_pardons_19 : decode cX12_pardons 19 = .ok (.iconst 0, 1) := by decide +kernel
theorem dX12_pardons_20 : decode cX12_pardons 20 = .ok (.istore_n 3, 1) := by decide +kernel
theorem dX12_pardons_21 : decode cX12_pardons 21 = .ok (.iload_n 3, 1) := by decide +kernel
theorem dX12_pardons_22 : decode cX12_pardons 22 = .ok (.iconst 1, 1) := by decide +kernel
theorem dX12_pardons_23 : decode cX12_pardons 23 = .ok (.aload_n 0, 1) := by decide +kernel
theorem dX12_pardons_24 : decode cX12_pardons 24 = .ok (.getfield 7, 3) := by decide +kernel
theorem dX12_pardons_27 : decode cX12_pardons 27 = .ok (.bipush 8, 2) := by decide +kernel
theorem dX12_pardons_29 : decode cX12_pardons 29 = .ok (.iaload, 1) := by decide +kernel
theorem dX12_pardons_30 : decode cX12_pardons 30 = .ok (.ishl, 1) := by decide +kernel
theorem dX12_pardons_31 : decode cX12_pardons 31 = .ok (.if_icmp .ge 43, 3) := by decide +kernel
theorem dX12_pardons_34 : decode cX12_pardons 34 = .ok (.iload_n 2, 1) := by decide +kernel
theorem dX12_pardons_35 : decode cX12_pardons 35 = .ok (.ifCond .lt 14, 3) := by decide +kernel
theorem dX12_pardons_38 : decode cX12_pardons 38 = .ok (.iload_n 3, 1) := by decide +kernel
theorem dX12_pardons_39 : decode cX12_pardons 39 = .ok (.invokestatic 217, 3) := by decide +kernel
theorem dX12_pardons_42 : decode cX12_pardons 42 = .ok (.iload_n 2, 1) := by decide +kernel
theorem dX12_pardons_43 : decode cX12_pardons 43 = .ok (.invokestatic 217, 3) := by decide +kernel
theorem dX12_pardons_46 : decode cX12_pardons 46 = .ok (.if_icmp .le 22, 3) := by decide +kernel
theorem dX12_pardons_49 : decode cX12_pardons 49 = .ok (.aload_n 0, 1) := by decide +kernel
theorem dX12_pardons_50 : decode cX12_pardons 50 = .ok (.iload_n 3, 1) := by decide +kernel
theorem dX12_pardons_51 : decode cX12_pardons 51 = .ok (.putfield 181, 3) := by decide +kernel
theorem dX12_pardons_54 : decode cX12_pardons 54 = .ok (.aload_n 0, 1) := by decide +kernel
theorem dX12_pardons_55 : decode cX12_pardons 55 = .ok (.iload_n 1, 1) := by decide +kernel
theorem dX12_pardons_56 : decode cX12_pardons 56 = .ok (.invokevirtual 214, 3) := by decide +kernel
theorem dX12_pardons_59 : decode cX12_pardons 59 = .ok (.ifCond .ne 7, 3) := by decide +kernel
theorem dX12_pardons_62 : decode cX12_pardons 62 = .ok (.iload_n 3, 1) := by decide +kernel
theorem dX12_pardons_63 : decode cX12_pardons 63 = .ok (.goto 4, 3) := by decide +kernel
theorem dX12_pardons_66 : decode cX12_pardons 66 = .ok (.iload_n 2, 1) := by decide +kernel
theorem dX12_pardons_67 : decode cX12_pardons 67 = .ok (.istore_n 2, 1) := by decide +kernel
theorem dX12_pardons_68 : decode cX12_pardons 68 = .ok (.iinc 3 1, 3) := by decide +kernel
theorem dX12_pardons_71 : decode cX12_pardons 71 = .ok (.goto (-50), 3) := by decide +kernel
theorem dX12_pardons_74 : decode cX12_pardons 74 = .ok (.aload_n 0, 1) := by decide +kernel
theorem dX12_pardons_75 : decode cX12_pardons 75 = .ok (.iconst 0, 1) := by decide +kernel
theorem dX12_pardons_76 : decode cX12_pardons 76 = .ok (.putfield 181, 3) := by decide +kernel
theorem dX12_pardons_79 : decode cX12_pardons 79 = .ok (.iload_n 2, 1) := by decide +kernel
theorem dX12_pardons_80 : decode cX12_pardons 80 = .ok (.ifCond .ge 12, 3) := by decide +kernel
theorem dX12_pardons_83 : decode cX12_pardons 83 = .ok (.aload_n 0, 1) := by decide +kernel
theorem dX12_pardons_84 : decode cX12_pardons 84 = .ok (.ldc 213, 2) := by decide +kernel
theorem dX12_pardons_86 : decode cX12_pardons 86 = .ok (.invokevirtual 56, 3) := by decide +kernel
theorem dX12_pardons_89 : decode cX12_pardons 89 = .ok (.goto 4, 3) := by decide +kernel
theorem dX12_pardons_92 : decode cX12_pardons 92 = .ok (.iload_n 2, 1) := by decide +kernel
theorem dX12_pardons_93 : decode cX12_pardons 93 = .ok (.ireturn, 1) := by decide +kernel
set_option maxHeartbeats 2000000 in
set_option maxRecDepth 20000 in
theorem c_pardons {l : Launch} {D : va_G} {cI cG cW : ClassId} {o : Nat} {q : Nat → Nat} {V row kept tried bf fd pk bo so sh mv tr : Nat → Int32} {n : Int32} {nc np nw d nt nq : Nat} (hR : RKx row nc np nw d nt nq) (hV15 : V 15 = 0) (hV16 : V 16 = -1) (hV18 : V 18 = -1) : Ci l yX12_pardons cX12_pardons 4 (some .int) 90 D (tyL cI cG cW) (wR cI o q) [.ref o, .int n] (sR V row kept tried bf fd pk bo so sh mv tr) (fun r τ => r = (sp_pardons V row kept tried bf fd pk bo so sh mv tr n).1 ∧ EQ τ (sp_pardons V row kept tried bf fd pk bo so sh mv tr n).2) := by
  refine Ci.of (by decide) (Nat.le_of_ble_eq_true rfl) ?_
  intro p_ e_ s_ m_ b_ M_ c_ A_ C
  replace C : Cx _ _ _ _ _ _ _ _ RX12 _ _ _ _ := C
  refine j_L [0, 1] [(0, .ref o), (1, .int n)] rfl ?_
  obtain ⟨hI, hW, ⟨e0, hd⟩, ⟨e4, ht⟩, ⟨e5, hq⟩, hB⟩ := id hR
  obtain ⟨⟨e2, hc2, hc10⟩, ⟨e3, hn6⟩, ⟨e8, hw8⟩, hP, hE, hLo, hT0, hT1⟩ := id hI
  have hIc := hI
  refine j_iload_n C 1 dX12_pardons_0 rfl ?_
  refine j_iconst C (v := (nI 0)) dX12_pardons_1 (by decide) ?_
  refine j_bipush C (v := (nI 20)) dX12_pardons_2 (by decide) ?_
  refine j_callS (As := [.int n, .int (nI 0), .int (nI 20)]) (rest := []) C vw12_in (c_in) rfl (Nat.le_of_ble_eq_true rfl) dX12_pardons_4 (by decide) ?_
  rintro _ _ ⟨rfl, rfl⟩
  refine j_if_ne C 17 dX12_pardons_7 (by decide) (fun c7 => ?_) (fun c7 => ?_)
  · replace c7 := bI_t c7
    obtain ⟨nn, gnn, hnn, rfl⟩ := inn_lit c7 (by omega)
    refine j_iconst C (v := (-1)) dX12_pardons_17 (by decide) ?_
    refine j_istore_n C [(2, .int (-1)), (0, .ref o), (1, .int (nI nn))] dX12_pardons_18 (by decide) rfl ?_
    refine j_iconst C (v := (nI 0)) dX12_pardons_19 (by decide) ?_
    refine j_istore_n C [(3, .int (nI 0)), (2, .int (-1)), (0, .ref o), (1, .int (nI nn))] dX12_pardons_20 (by decide) rfl ?_
    refine j_L [2, 3, 1, 0] [(0, .ref o), (1, .int (nI nn)), (2, .int (-1)), (3, .int (nI 0))] rfl ?_
    refine j_loop (X := Nat × (Option Nat) × (Nat → Int32) × (Nat → Int32) × (Nat → Int32) × Int32) (fun (z : Nat × (Option Nat) × (Nat → Int32) × (Nat → Int32) × (Nat → Int32) × Int32) => match z with | (i, bst, V1, t1, pk1, z) => i ≤ 2 ^ nw ∧ VE V1 (upd V 15 z) ∧ bst = pdF V row nn np i) (fun (z : Nat × (Option Nat) × (Nat → Int32) × (Nat → Int32) × (Nat → Int32) × Int32) => match z with | (i, bst, V1, t1, pk1, z) => 2 ^ nw - i) (fun (z : Nat × (Option Nat) × (Nat → Int32) × (Nat → Int32) × (Nat → Int32) × Int32) => match z with | (i, bst, V1, t1, pk1, z) => (sR V1 row kept t1 bf fd pk1 bo so sh mv tr)) (fun (z : Nat × (Option Nat) × (Nat → Int32) × (Nat → Int32) × (Nat → Int32) × Int32) => match z with | (i, bst, V1, t1, pk1, z) => [(0, .ref o), (1, .int (nI nn)), (2, .int (opI bst)), (3, .int (nI i))]) (0, none, V, tried, pk, 0) (⟨Nat.zero_le _, by rw [upd_self hV15]; exact VE.rf, rfl⟩) rfl rfl ?_
    rintro ⟨i, bst, V1, t1, pk1, z⟩ ⟨hi, hV, hb⟩ ih
    try dsimp only at ih ⊢
    have h256 : 2 ^ nw ≤ 256 := Nat.pow_le_pow_right (n := 2) (i := nw) (j := 8) (by omega) hw8
    refine j_iload_n C 3 dX12_pardons_21 rfl ?_
    refine j_iconst C (v := (nI 1)) dX12_pardons_22 (by decide) ?_
    refine j_aload_n C 0 dX12_pardons_23 rfl ?_
    refine rg C (v := .ref (q 0)) 0 (by decide) kf12_7 rfl dX12_pardons_24 ?_
    refine j_bipush C (v := (nI 8)) dX12_pardons_27 (by decide) ?_
    refine rl_row C 8 rfl (by omega) dX12_pardons_29 ?_
    refine j_v (nI nw) e8 ?_
    refine j_ishl C dX12_pardons_30 ?_
    refine j_v (nI (2 ^ nw)) (pow_ok nw hw8) ?_
    refine j_icmp_ge C 74 dX12_pardons_31 (by decide) (fun c31 => ?_) (fun c31 => ?_)
    · rw [nI_leI (by omega) (by omega)] at c31
      obtain rfl : i = 2 ^ nw := by omega
      rcases bst with _ | b
      · refine j_eqL [(0, .ref o), (1, .int (nI nn)), (2, .int (-1)), (3, .int (nI (2 ^ nw)))] rfl ?_
        refine j_aload_n C 0 dX12_pardons_74 rfl ?_
        refine j_iconst C (v := (nI 0)) dX12_pardons_75 (by decide) ?_
        refine rp_15 C kf12_181 dX12_pardons_76 ?_
        refine j_iload_n C 2 dX12_pardons_79 rfl ?_
        refine j_if_ge C 92 dX12_pardons_80 (by decide) (fun c80 => ?_) (fun c80 => ?_)
        · skip
          exact absurd c80 (by decide)
        · skip
          refine j_aload_n C 0 dX12_pardons_83 rfl ?_
          refine j_ldc C (-1000000002) dX12_pardons_84 kc12_213 ?_
          refine j_callV (As := [.int (-1000000002)]) (rest := []) C vw12_errs (c_errs 2 (by decide) (by decide)) rRcv rfl (Nat.le_of_ble_eq_true rfl) dX12_pardons_86 (by decide) ?_
          rintro _ _ ⟨rfl, rfl⟩
          refine j_goto C 93 dX12_pardons_89 (by decide) ?_
          refine j_iret C dX12_pardons_93 ?_
          unfold sp_pardons
          rw [if_pos c7, tN_nI (n := nn) (by omega), e3, e8, tN_nI (n := np) (by omega), tN_nI (n := nw) (by omega), ← hb]
          show _ = _ ∧ EQ (sR (upd V1 15 (nI 0)) row kept t1 bf (ue fd 2) pk1 bo so sh mv tr) (sR V row kept tried bf (ue fd 2) pk bo so sh mv tr)
          exact ⟨rfl, EQ.of6 (by rw [pk_un (by omega), hV 4 (by omega)]; rfl) (by rw [pk_un (by omega), hV 5 (by omega)]; rfl) (by rw [pk_us, hV15]; rfl) (by rw [pk_un (by omega), hV 16 (by omega)]; rfl) (by rw [pk_un (by omega), hV 18 (by omega)]; rfl) (by rw [pk_un (by omega), hV 26 (by omega)]; rfl)⟩
      · have hbl := pdF_lt V row nn np _ b hb.symm
        refine j_eqL [(0, .ref o), (1, .int (nI nn)), (2, .int (nI b)), (3, .int (nI (2 ^ nw)))] rfl ?_
        refine j_aload_n C 0 dX12_pardons_74 rfl ?_
        refine j_iconst C (v := (nI 0)) dX12_pardons_75 (by decide) ?_
        refine rp_15 C kf12_181 dX12_pardons_76 ?_
        refine j_iload_n C 2 dX12_pardons_79 rfl ?_
        refine j_if_ge C 92 dX12_pardons_80 (by decide) (fun c80 => ?_) (fun c80 => ?_)
        · rw [show (0 : Int32) = nI 0 from rfl, nI_leI (by omega) (by omega)] at c80
          refine j_iload_n C 2 dX12_pardons_92 rfl ?_
          refine j_iret C dX12_pardons_93 ?_
          unfold sp_pardons
          rw [if_pos c7, tN_nI (n := nn) (by omega), e3, e8, tN_nI (n := np) (by omega), tN_nI (n := nw) (by omega), ← hb]
          show _ = _ ∧ EQ (sR (upd V1 15 (nI 0)) row kept t1 bf fd pk1 bo so sh mv tr) (sR V row kept tried bf fd pk bo so sh mv tr)
          exact ⟨rfl, EQ.of6 (by rw [pk_un (by omega), hV 4 (by omega)]; rfl) (by rw [pk_un (by omega), hV 5 (by omega)]; rfl) (by rw [pk_us, hV15]; rfl) (by rw [pk_un (by omega), hV 16 (by omega)]; rfl) (by rw [pk_un (by omega), hV 18 (by omega)]; rfl) (by rw [pk_un (by omega), hV 26 (by omega)]; rfl)⟩
        · rw [show (0 : Int32) = nI 0 from rfl, nI_leI (by omega) (by omega)] at c80
          exfalso; omega
    · rw [nI_leI (by omega) (by omega)] at c31
      rcases bst with _ | b
      · refine j_eqL [(0, .ref o), (1, .int (nI nn)), (2, .int (-1)), (3, .int (nI i))] rfl ?_
        refine j_iload_n C 2 dX12_pardons_34 rfl ?_
        refine j_if_lt C 49 dX12_pardons_35 (by decide) (fun c35 => ?_) (fun c35 => ?_)
        · skip
          refine j_aload_n C 0 dX12_pardons_49 rfl ?_
          refine j_iload_n C 3 dX12_pardons_50 rfl ?_
          refine rp_15 C kf12_181 dX12_pardons_51 ?_
          have hwv := wv_eq nw (hV.ov (y := nI i)) (FR.rf (r := row))
          refine j_aload_n C 0 dX12_pardons_54 rfl ?_
          refine j_iload_n C 1 dX12_pardons_55 rfl ?_
          refine j_callV (As := [.int (nI nn)]) (rest := []) C vw12_starving (c_starving nn (by omega) hI) rRcv rfl (Nat.le_of_ble_eq_true rfl) dX12_pardons_56 (by decide) ?_
          rintro _ _ ⟨Vx1, pkx2, hVx1, rfl, rfl⟩
          rw [hwv]
          refine j_if_ne C 66 dX12_pardons_59 (by decide) (fun c59 => ?_) (fun c59 => ?_)
          · skip
            refine j_iload_n C 2 dX12_pardons_66 rfl ?_
            refine j_istore_n C [(2, .int (-1)), (0, .ref o), (1, .int (nI nn)), (3, .int (nI i))] dX12_pardons_67 (by decide) rfl ?_
            refine j_iinc C (v := (nI (i + 1))) 3 [(3, .int (nI (i + 1))), (2, .int (-1)), (0, .ref o), (1, .int (nI nn))] dX12_pardons_68 rfl (nI_1 _) (by decide) rfl ?_
            refine j_goto C 21 dX12_pardons_71 (by decide) ?_
            refine j_L [2, 3, 1, 0] [(0, .ref o), (1, .int (nI nn)), (2, .int (-1)), (3, .int (nI (i + 1)))] rfl ?_
            refine ih (i + 1, none, Vx1, row, pkx2, nI i) ⟨by dsimp only; omega, hVx1.tr hV.ov, ?_⟩ (by dsimp only; omega)
            dsimp only
            unfold pdF
            rw [← hb]
            dsimp only
            rw [if_neg (fun h => c59 ((hun_0 hn6).mpr (fun p hp g => h p hp ((hg_eq e3 e8 hn6 hw8).mpr g))))]
          · skip
            refine j_iload_n C 3 dX12_pardons_62 rfl ?_
            refine j_goto C 67 dX12_pardons_63 (by decide) ?_
            refine j_istore_n C [(2, .int (nI i)), (0, .ref o), (1, .int (nI nn)), (3, .int (nI i))] dX12_pardons_67 (by decide) rfl ?_
            refine j_iinc C (v := (nI (i + 1))) 3 [(3, .int (nI (i + 1))), (2, .int (nI i)), (0, .ref o), (1, .int (nI nn))] dX12_pardons_68 rfl (nI_1 _) (by decide) rfl ?_
            refine j_goto C 21 dX12_pardons_71 (by decide) ?_
            refine j_L [2, 3, 1, 0] [(0, .ref o), (1, .int (nI nn)), (2, .int (nI i)), (3, .int (nI (i + 1)))] rfl ?_
            refine ih (i + 1, some i, Vx1, row, pkx2, nI i) ⟨by dsimp only; omega, hVx1.tr hV.ov, ?_⟩ (by dsimp only; omega)
            dsimp only
            unfold pdF
            rw [← hb]
            dsimp only
            rw [if_pos (fun p hp g => (hun_0 hn6).mp c59 p hp ((hg_eq e3 e8 hn6 hw8).mp g))]
        · skip
          exact absurd (by decide) c35
      · have hbl := pdF_lt V row nn np i b hb.symm
        have hpb := popN_le b
        have hpi := popN_le i
        refine j_eqL [(0, .ref o), (1, .int (nI nn)), (2, .int (nI b)), (3, .int (nI i))] rfl ?_
        refine j_iload_n C 2 dX12_pardons_34 rfl ?_
        refine j_if_lt C 49 dX12_pardons_35 (by decide) (fun c35 => ?_) (fun c35 => ?_)
        · rw [show (0 : Int32) = nI 0 from rfl, nI_ltI (by omega) (by omega)] at c35
          exfalso; omega
        · rw [show (0 : Int32) = nI 0 from rfl, nI_ltI (by omega) (by omega)] at c35
          refine j_iload_n C 3 dX12_pardons_38 rfl ?_
          refine j_callS (As := [.int (nI i)]) (rest := []) C vw12_bits (c_bits i (by omega)) rfl (Nat.le_of_ble_eq_true rfl) dX12_pardons_39 (by decide) ?_
          rintro _ _ ⟨rfl, rfl⟩
          refine j_iload_n C 2 dX12_pardons_42 rfl ?_
          refine j_callS (As := [.int (nI b)]) (rest := [.int (nI (popN i))]) C vw12_bits (c_bits b (by omega)) rfl (Nat.le_of_ble_eq_true rfl) dX12_pardons_43 (by decide) ?_
          rintro _ _ ⟨rfl, rfl⟩
          refine j_icmp_le C 68 dX12_pardons_46 (by decide) (fun c46 => ?_) (fun c46 => ?_)
          · rw [nI_leI (by omega) (by omega)] at c46
            refine j_iinc C (v := (nI (i + 1))) 3 [(3, .int (nI (i + 1))), (0, .ref o), (1, .int (nI nn)), (2, .int (nI b))] dX12_pardons_68 rfl (nI_1 _) (by decide) rfl ?_
            refine j_goto C 21 dX12_pardons_71 (by decide) ?_
            refine j_L [1, 2, 3, 0] [(0, .ref o), (1, .int (nI nn)), (2, .int (nI b)), (3, .int (nI (i + 1)))] rfl ?_
            refine ih (i + 1, some b, V1, t1, pk1, z) ⟨by dsimp only; omega, hV, ?_⟩ (by dsimp only; omega)
            dsimp only
            unfold pdF
            rw [← hb]
            dsimp only
            rw [if_neg (fun h => by omega)]
          · rw [nI_leI (by omega) (by omega)] at c46
            refine j_aload_n C 0 dX12_pardons_49 rfl ?_
            refine j_iload_n C 3 dX12_pardons_50 rfl ?_
            refine rp_15 C kf12_181 dX12_pardons_51 ?_
            have hwv := wv_eq nw (hV.ov (y := nI i)) (FR.rf (r := row))
            refine j_aload_n C 0 dX12_pardons_54 rfl ?_
            refine j_iload_n C 1 dX12_pardons_55 rfl ?_
            refine j_callV (As := [.int (nI nn)]) (rest := []) C vw12_starving (c_starving nn (by omega) hI) rRcv rfl (Nat.le_of_ble_eq_true rfl) dX12_pardons_56 (by decide) ?_
            rintro _ _ ⟨Vx3, pkx4, hVx3, rfl, rfl⟩
            rw [hwv]
            refine j_if_ne C 66 dX12_pardons_59 (by decide) (fun c59 => ?_) (fun c59 => ?_)
            · skip
              refine j_iload_n C 2 dX12_pardons_66 rfl ?_
              refine j_istore_n C [(2, .int (nI b)), (0, .ref o), (1, .int (nI nn)), (3, .int (nI i))] dX12_pardons_67 (by decide) rfl ?_
              refine j_iinc C (v := (nI (i + 1))) 3 [(3, .int (nI (i + 1))), (2, .int (nI b)), (0, .ref o), (1, .int (nI nn))] dX12_pardons_68 rfl (nI_1 _) (by decide) rfl ?_
              refine j_goto C 21 dX12_pardons_71 (by decide) ?_
              refine j_L [2, 3, 1, 0] [(0, .ref o), (1, .int (nI nn)), (2, .int (nI b)), (3, .int (nI (i + 1)))] rfl ?_
              refine ih (i + 1, some b, Vx3, row, pkx4, nI i) ⟨by dsimp only; omega, hVx3.tr hV.ov, ?_⟩ (by dsimp only; omega)
              dsimp only
              unfold pdF
              rw [← hb]
              dsimp only
              rw [if_neg (fun h => c59 ((hun_0 hn6).mpr (fun p hp g => h.2 p hp ((hg_eq e3 e8 hn6 hw8).mpr g))))]
            · skip
              refine j_iload_n C 3 dX12_pardons_62 rfl ?_
              refine j_goto C 67 dX12_pardons_63 (by decide) ?_
              refine j_istore_n C [(2, .int (nI i)), (0, .ref o), (1, .int (nI nn)), (3, .int (nI i))] dX12_pardons_67 (by decide) rfl ?_
              refine j_iinc C (v := (nI (i + 1))) 3 [(3, .int (nI (i + 1))), (2, .int (nI i)), (0, .ref o), (1, .int (nI nn))] dX12_pardons_68 rfl (nI_1 _) (by decide) rfl ?_
              refine j_goto C 21 dX12_pardons_71 (by decide) ?_
              refine j_L [2, 3, 1, 0] [(0, .ref o), (1, .int (nI nn)), (2, .int (nI i)), (3, .int (nI (i + 1)))] rfl ?_
              refine ih (i + 1, some i, Vx3, row, pkx4, nI i) ⟨by dsimp only; omega, hVx3.tr hV.ov, ?_⟩ (by dsimp only; omega)
              dsimp only
              unfold pdF
              rw [← hb]
              dsimp only
              rw [if_pos ⟨by omega, fun p hp g => (hun_0 hn6).mp c59 p hp ((hg_eq e3 e8 hn6 hw8).mp g)⟩]
  · replace c7 := bI_f c7
    refine j_aload_n C 0 dX12_pardons_10 rfl ?_
    refine j_ldc C (-1000000001) dX12_pardons_11 kc12_55 ?_
    refine j_callV (As := [.int (-1000000001)]) (rest := []) C vw12_errs (c_errs 1 (by decide) (by decide)) rRcv rfl (Nat.le_of_ble_eq_true rfl) dX12_pardons_13 (by decide) ?_
    rintro _ _ ⟨rfl, rfl⟩
    refine j_iret C dX12_pardons_16 ?_
    unfold sp_pardons
    rw [if_neg c7]
    exact ⟨rfl, EQ.rf⟩

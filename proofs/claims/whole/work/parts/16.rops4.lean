/-! The reference's public calls: feed, loose, upright, adds. -/
theorem kl12_169 : Cond.constantLong RX12 169 255 ∈ lw_g := gw 1241 (by decide +kernel) rfl
theorem j_ldc2 {p : Program} {l : Launch} {e : Env} {R : Room} {s : State} {m : MethodId} {args : Array Value} {below : List Frame} {meth : Method} {c : Code} {Q : State → Prop} {nL : Nat} {D : va_G} {A : Nat → Prop} {S : Type} {Wd : S → va_W} {σ : S} {pc : Nat} {L : List (Nat × Value)} {rest : List Value} {cc : ByteArray} {own : String} {ret : Option FieldType} {tys : List (ClassId × FieldType)} (C : Cx p s m args meth c cc nL own ret D tys A) {index : Nat} (v : Int64) (hdg : decode cc pc = .ok (.ldc2_w index, 3)) (hc : Cond.constantLong own index v ∈ lw_g) (kk : JJ p l e R s m args below meth c Q nL D A Wd σ (pc + 3) L (.long v :: rest)) : JJ p l e R s m args below meth c Q nL D A Wd σ pc L rest := by
  obtain ⟨hx, hb, hml, hown, hts, hK, hA, hr, hlocks⟩ := C
  intro H locs ls hP hD hS hl
  exact lv_ldc2 hx hb hown (hts _ hc) hdg (kk H locs ls hP hD hS hl)
def bytF8 (w : Int64) (i : Nat) : Int32 := ((w >>> ((nI (8 * i)).toInt64 &&& 63)) &&& 255).toInt32
def fdF (row : Nat → Int32) (w : Int64) (nt : Nat) : Nat → Nat → Int32
  | 0 => row
  | i + 1 => upd (upd (fdF row w nt i) (90 + (nt + i)) (bytF8 w i)) 4 (nI (nt + i + 1))
theorem fdF_4 {row : Nat → Int32} {w : Int64} {nt : Nat} (e4 : row 4 = nI nt) (i : Nat) : fdF row w nt i 4 = nI (nt + i) := by
  cases i with
  | zero => exact e4
  | succ i => unfold fdF; rw [pk_us]; rfl
def sp_feed (V row kept tried bf fd pk bo so sh mv tr : Nat → Int32) (w : Int64) (n : Int32) : Int32 × RS := if inn n (nI 1) (nI 8) then (if row 4 + n ≤ nI 50 then (row 4 + n, sR V (fdF row w (tN (row 4)) (tN n)) kept tried bf fd pk bo so sh mv tr) else er V row kept tried bf fd pk bo so sh mv tr (-1000000004) 4) else er V row kept tried bf fd pk bo so sh mv tr (-1000000001) 1
theorem Iv_up {row : Nat → Int32} {nc np nw k : Nat} (hI : Iv row nc np nw) (x : Int32) (hk : k < 10 ∧ k ≠ 2 ∧ k ≠ 3 ∧ k ≠ 6 ∧ k ≠ 7 ∧ k ≠ 8) : Iv (upd row k x) nc np nw := by
  obtain ⟨⟨e2, g2, g10⟩, ⟨e3, g6⟩, ⟨e8, g8⟩, hP0, hE0, hL0, hT0, hT1⟩ := hI
  have ht : ∀ u, u ≤ 1 → txtOK row u → txtOK (upd row k x) u := by
    intro u hu h
    have e1 : txF (upd row k x) u = txF row u := by funext j; exact pk_un (by omega)
    unfold txtOK
    rw [e1, pk_un (by omega)]
    exact h
  refine ⟨⟨?_, g2, g10⟩, ⟨?_, g6⟩, ⟨?_, g8⟩, fun p hp => ?_, fun c hc => ?_, fun c hc => ?_, ht 0 (by omega) hT0, ht 1 (by omega) hT1⟩
  · rw [pk_un (by omega)]; exact e2
  · rw [pk_un (by omega)]; exact e3
  · rw [pk_un (by omega)]; exact e8
  · obtain ⟨h0, h1, h2, h3, h4, h5⟩ := hP0 p hp
    refine ⟨?_, ?_, ?_, ?_, ?_, ?_⟩ <;> rw [pk_un (by omega)] <;> assumption
  · rw [pk_un (by omega)]; exact hE0 c hc
  · rw [pk_un (by omega)]; exact hL0 c hc
theorem wv_up (V row : Nat → Int32) (nw k : Nat) (x : Int32) (h8 : nw ≤ 8) (hk : k < 10) : wv V (upd row k x) nw = wv V row nw := by
  funext p
  have hs : ∀ n, n ≤ 8 → ∀ par s, sumW (upd row k x) par p s n = sumW row par p s n := by
    intro n
    induction n with
    | zero => intro _ _ _; rfl
    | succ n ih => intro hn par s; unfold sumW; rw [ih (by omega), pk_un (by omega), pk_un (by omega)]
  unfold wv wS
  rw [hs nw h8, pk_un (by omega), pk_un (by omega)]
theorem drw_lt (row : Nat → Int32) {b : Nat} (hb : 0 < b) (hb2 : b < 2 ^ 31) : ∃ j, j < b ∧ drwV row b = nI j := by
  unfold drwV
  have h := pk_ushr (row 1 * 1103515245 + nI 12345) (nI 8) 8 (by decide)
  generalize ((row 1 * 1103515245 + nI 12345).toUInt32 >>> ((nI 8).toUInt32 &&& Int32.toUInt32 31)).toInt32 = y at h ⊢
  have hy : y = nI ((row 1 * 1103515245 + nI 12345).toBitVec.toNat / 2 ^ 8) := by
    apply Int32.toBitVec_inj.mp
    apply BitVec.eq_of_toNat_eq
    have hlt := (row 1 * 1103515245 + nI 12345).toBitVec.isLt
    rw [h, pk_tn (by omega)]
  have hlt := (row 1 * 1103515245 + nI 12345).toBitVec.isLt
  rw [hy]
  unfold rem
  rw [pk_rem (by omega) hb hb2]
  exact ⟨_, Nat.mod_lt _ hb, rfl⟩
theorem way_ok {j : Nat} (h : j < 3) : nI j - nI 1 = -1 ∨ nI j - nI 1 = 0 ∨ nI j - nI 1 = 1 := by
  rcases (show j = 0 ∨ j = 1 ∨ j = 2 by omega) with rfl | rfl | rfl <;> decide
theorem Iv_way {row : Nat → Int32} {nc np nw p : Nat} {x : Int32} (hI : Iv row nc np nw) (hp : p < 6) (hx : x = -1 ∨ x = 0 ∨ x = 1) : Iv (upd row (30 + 6 * p + 3) x) nc np nw := by
  refine Iv_of hI (FR_p hp (by omega) (by omega)) ?_ ?_
  · intro p' hp'
    obtain ⟨-, -, k2, k3, k4, k5⟩ := hI.2.2.2.1 p' hp'
    refine ⟨?_, ?_, ?_, ?_⟩
    · rw [pk_un (by omega)]; exact k2
    · by_cases e : p' = p
      · subst e; rw [pk_us]; exact hx
      · rw [pk_un (by omega)]; exact k3
    · rw [pk_un (by omega)]; exact k4
    · rw [pk_un (by omega)]; exact k5
  · intro c hc
    have := hI.1.2.2
    rw [pk_un (by omega)]; exact hI.2.2.2.2.1 c hc
/-- the row before the dawn of a loose one -/
def losG (np : Nat) (row : Nat → Int32) : Nat → Int32 := if np = 0 then row else upd (drwF (drwF row)) (30 + 6 * tN (drwV row np) + 3) (drwV (drwF row) 3 - nI 1)
theorem losG_ok {V row : Nat → Int32} {nc np nw : Nat} (hI : Iv row nc np nw) : Iv (losG np row) nc np nw ∧ wv V (losG np row) nw = wv V row nw := by
  have h6 := hI.2.1.2
  have h8 := hI.2.2.1.2
  unfold losG
  by_cases e : np = 0
  · rw [if_pos e]; exact ⟨hI, rfl⟩
  · rw [if_neg e]
    obtain ⟨j, hj, ej⟩ := drw_lt row (b := np) (by omega) (by omega)
    obtain ⟨k, hk, ek⟩ := drw_lt (drwF row) (b := 3) (by omega) (by omega)
    rw [ej, ek, tN_nI (by omega)]
    have h2 : Iv (drwF (drwF row)) nc np nw := Iv_up (Iv_up hI _ (by omega)) _ (by omega)
    refine ⟨Iv_way h2 (by omega) (way_ok hk), ?_⟩
    rw [wv_eq nw (VE.rf (V := V)) (FR_p (p := j) (j := 3) (by omega) (by omega) (by omega))]
    unfold drwF
    rw [wv_up _ _ _ _ _ h8 (by omega), wv_up _ _ _ _ _ h8 (by omega)]
theorem losF_eq (V : Nat → Int32) (np nw : Nat) (row : Nat → Int32) : losF V np nw row = dawnF np (wv V row nw) (losG np row) := rfl
theorem los_ok {V row : Nat → Int32} {nc np nw : Nat} (hI : Iv row nc np nw) : Iv (losF V np nw row) nc np nw ∧ wv V (losF V np nw row) nw = wv V row nw := by
  obtain ⟨h1, h2⟩ := losG_ok (V := V) hI
  rw [losF_eq]
  obtain ⟨g1, g2⟩ := dawn_IF (wv V row nw) h1
  exact ⟨g1, (wv_eq nw (VE.rf (V := V)) g2).trans h2⟩
theorem loss_ok {V row : Nat → Int32} {nc np nw : Nat} (hI : Iv row nc np nw) (n : Nat) : Iv (itN (fun _ r => losF V np nw r) n row) nc np nw ∧ wv V (itN (fun _ r => losF V np nw r) n row) nw = wv V row nw := by
  induction n with
  | zero => exact ⟨hI, rfl⟩
  | succ n ih => exact ⟨(los_ok ih.1).1, (los_ok ih.1).2.trans ih.2⟩
abbrev uprQ (V row : Nat → Int32) (n : Nat) : Prop := ¬ ∀ p, p < tN (row 3) → ¬ hgP V row n p
def sp_upright (V row kept tried bf fd pk bo so sh mv tr : Nat → Int32) (what : Int32) : Int32 × RS := if inn what (nI 0) (nI 1) then (if lsF (uprQ V row) 61 0 ≤ 60 then (if what = 0 then nI (lsF (uprQ V row) 61 0) else nI (lsF (hgP V row (lsF (uprQ V row) 61 0)) 6 0), sR V row kept tried bf fd pk bo so sh mv tr) else er V row kept tried bf fd pk bo so sh mv tr (-1000000002) 2) else er V row kept tried bf fd pk bo so sh mv tr (-1000000001) 1
abbrev addV (V : Nat → Int32) (p b : Nat) : Nat → Int32 := upd (upd V 16 (nI p)) 17 (nI b)
abbrev addP (V row : Nat → Int32) (p n b : Nat) : Prop := ¬ hgP (addV V p b) row n p
def sp_adds (V row kept tried bf fd pk bo so sh mv tr : Nat → Int32) (p n : Int32) : Int32 × RS := if inn p 0 (row 3 - 1) ∧ inn n (nI 0) (nI 60) then (if lsF (addP V row (tN p) (tN n)) 41 0 ≤ 40 then (nI (lsF (addP V row (tN p) (tN n)) 41 0), sR V row kept tried bf fd pk bo so sh mv tr) else er V row kept tried bf fd pk bo so sh mv tr (-1000000002) 2) else er V row kept tried bf fd pk bo so sh mv tr (-1000000001) 1
theorem bI_n1 {p : Prop} [Decidable p] (h : ¬ bI p = nI 1) : ¬ p := fun hp => h (by unfold bI; rw [if_pos hp]; rfl)
theorem bI_e1 {p : Prop} [Decidable p] (h : bI p = nI 1) : p := by
  by_cases hp : p
  · exact hp
  · unfold bI at h; rw [if_neg hp] at h; exact absurd h (by decide)
theorem hg_eq {V row : Nat → Int32} {np nw n p : Nat} (e3 : row 3 = nI np) (e8 : row 8 = nI nw) (h6 : np ≤ 6) (h8 : nw ≤ 8) : hgP V row n p ↔ row (30 + 6 * p + 5) < dawnsF np (wv V row nw) row n (30 + 6 * p + 5) := by
  unfold hgP dwF; rw [e3, e8, tN_nI (by omega), tN_nI (by omega)]

theorem dX12_feed_0 : decode cX12_feed 0 = .ok (.iload_n 3, 1) := by decide +kernel
theorem dX12_feed_1 : decode cX12_feed 1 = .ok (.iconst 1, 1) := by decide +kernel
theorem dX12_feed_2 : decode cX12_feed 2 = .ok (.bipush 8, 2) := by decide +kernel
theorem dX12_feed_4 : decode cX12_feed 4 = .ok (.invokestatic 51, 3) := by decide +kernel
theorem dX12_feed_7 : decode cX12_feed 7 = .ok (.ifCond .ne 10, 3) := by decide +kernel
theorem dX12_feed_10 : decode cX12_feed 10 = .ok (.aload_n 0, 1) := by decide +kernel
theorem dX12_feed_11 : decode cX12_feed 11 = .ok (.ldc 55, 2) := by decide +kernel
theorem dX12_feed_13 : decode cX12_feed 13 = .ok (.invokevirtual 56, 3) := by decide +kernel
theorem dX12_feed_16 : decode cX12_feed 16 = .ok (.ireturn, 1) := by decide +kernel
theorem dX12_feed_17 : decode cX12_feed 17 = .ok (.aload_n 0, 1) := by decide +kernel
theorem dX12_feed_18 : decode cX12_feed 18 = .ok (.getfield 7, 3) := by decide +kernel
theorem dX12_feed_21 : decode cX12_feed 21 = .ok (.iconst 4, 1) := by decide +kernel
theorem dX12_feed_22 : decode cX12_feed 22 = .ok (.iaload, 1) := by decide +kernel
theorem dX12_feed_23 : decode cX12_feed 23 = .ok (.iload_n 3, 1) := by decide +kernel
theorem dX12_feed_24 : decode cX12_feed 24 = .ok (.iadd, 1) := by decide +kernel
theorem dX12_feed_25 : decode cX12_feed 25 = .ok (.bipush 50, 2) := by decide +kernel
theorem dX12_feed_27 : decode cX12_feed 27 = .ok (.if_icmp .le 10, 3) := by decide +kernel
theorem dX12_feed_30 : decode cX12_feed 30 = .ok (.aload_n 0, 1) := by decide +kernel
theorem dX12_feed_31 : decode cX12_feed 31 = .ok (.ldc 75, 2) := by decide +kernel
theorem dX12_feed_33 : decode cX12_feed 33 = .ok (.invokevirtual 56, 3) := by decide +kernel
theorem dX12_feed_36 : decode cX12_feed 36 = .ok (.ireturn, 1) := by decide +kernel
theorem dX12_feed_37 : decode cX12_feed 37 = .ok (.iconst 0, 1) := by decide +kernel
theorem dX12_feed_38 : decode cX12_feed 38 = .ok (.istore 4, 2) := by decide +kernel
theorem dX12_feed_40 : decode cX12_feed 40 = .ok (.iload 4, 2) := by decide +kernel
theorem dX12_feed_42 : decode cX12_feed 42 = .ok (.iload_n 3, 1) := by decide +kernel
theorem dX12_feed_43 : decode cX12_feed 43 = .ok (.if_icmp .ge 45, 3) := by decide +kernel
theorem dX12_feed_46 : decode cX12_feed 46 = .ok (.aload_n 0, 1) := by decide +kernel
theorem dX12_feed_47 : decode cX12_feed 47 = .ok (.getfield 7, 3) := by decide +kernel
theorem dX12_feed_50 : decode cX12_feed 50 = .ok (.bipush 90, 2) := by decide +kernel
theorem dX12_feed_52 : decode cX12_feed 52 = .ok (.aload_n 0, 1) := by decide +kernel
theorem dX12_feed_53 : decode cX12_feed 53 = .ok (.getfield 7, 3) := by decide +kernel
theorem dX12_feed_56 : decode cX12_feed 56 = .ok (.iconst 4, 1) := by decide +kernel
theorem dX12_feed_57 : decode cX12_feed 57 = .ok (.iaload, 1) := by decide +kernel
theorem dX12_feed_58 : decode cX12_feed 58 = .ok (.iadd, 1) := by decide +kernel
theorem dX12_feed_59 : decode cX12_feed 59 = .ok (.lload_n 1, 1) := by decide +kernel
theorem dX12_feed_60 : decode cX12_feed 60 = .ok (.bipush 8, 2) := by decide +kernel
theorem dX12_feed_62 : decode cX12_feed 62 = .ok (.iload 4, 2) := by decide +kernel
theorem dX12_feed_64 : decode cX12_feed 64 = .ok (.imul, 1) := by decide +kernel
theorem dX12_feed_65 : decode cX12_feed 65 = .ok (.lshr, 1) := by decide +kernel
theorem dX12_feed_66 : decode cX12_feed 66 = .ok (.ldc2_w 169, 3) := by decide +kernel
theorem dX12_feed_69 : decode cX12_feed 69 = .ok (.land, 1) := by decide +kernel
theorem dX12_feed_70 : decode cX12_feed 70 = .ok (.l2i, 1) := by decide +kernel
theorem dX12_feed_71 : decode cX12_feed 71 = .ok (.iastore, 1) := by decide +kernel
theorem dX12_feed_72 : decode cX12_feed 72 = .ok (.aload_n 0, 1) := by decide +kernel
theorem dX12_feed_73 : decode cX12_feed 73 = .ok (.getfield 7, 3) := by decide +kernel
theorem dX12_feed_76 : decode cX12_feed 76 = .ok (.iconst 4, 1) := by decide +kernel
theorem dX12_feed_77 : decode cX12_feed 77 = .ok (.dup2, 1) := by decide +kernel
theorem dX12_feed_78 : decode cX12_feed 78 = .ok (.iaload, 1) := by decide +kernel
theorem dX12_feed_79 : decode cX12_feed 79 = .ok (.iconst 1, 1) := by decide +kernel
theorem dX12_feed_80 : decode cX12_feed 80 = .ok (.iadd, 1) := by decide +kernel
theorem dX12_feed_81 : decode cX12_feed 81 = .ok (.iastore, 1) := by decide +kernel
theorem dX12_feed_82 : decode cX12_feed 82 = .ok (.iinc 4 1, 3) := by decide +kernel
theorem dX12_feed_85 : decode cX12_feed 85 = .ok (.goto (-45), 3) := by decide +kernel
theorem dX12_feed_88 : decode cX12_feed 88 = .ok (.aload_n 0, 1) := by decide +kernel
theorem dX12_feed_89 : decode cX12_feed 89 = .ok (.getfield 7, 3) := by decide +kernel
theorem dX12_feed_92 : decode cX12_feed 92 = .ok (.iconst 4, 1) := by decide +kernel
theorem dX12_feed_93 : decode cX12_feed 93 = .ok (.iaload, 1) := by decide +kernel
theorem dX12_feed_94 : decode cX12_feed 94 = .ok (.ireturn, 1) := by decide +kernel
set_option maxHeartbeats 2000000 in
set_option maxRecDepth 20000 in
theorem c_feed {l : Launch} {D : va_G} {cI cG cW : ClassId} {o : Nat} {q : Nat → Nat} {V row kept tried bf fd pk bo so sh mv tr : Nat → Int32} {w : Int64} {n : Int32} {nc np nw d nt nq : Nat} (hR : RKx row nc np nw d nt nq) : Ci l yX12_feed cX12_feed 5 (some .int) 3 D (tyL cI cG cW) (wR cI o q) [.ref o, .long w, .int n] (sR V row kept tried bf fd pk bo so sh mv tr) (fun r τ => r = (sp_feed V row kept tried bf fd pk bo so sh mv tr w n).1 ∧ EQ τ (sp_feed V row kept tried bf fd pk bo so sh mv tr w n).2) := by
  refine Ci.of (by decide) (Nat.le_of_ble_eq_true rfl) ?_
  intro p_ e_ s_ m_ b_ M_ c_ A_ C
  replace C : Cx _ _ _ _ _ _ _ _ RX12 _ _ _ _ := C
  refine j_L [0, 1, 2] [(0, .ref o), (1, .long w), (3, .int n)] rfl ?_
  obtain ⟨hI, hW, ⟨e0, hd⟩, ⟨e4, ht⟩, ⟨e5, hq⟩, hB⟩ := id hR
  obtain ⟨⟨e2, hc2, hc10⟩, ⟨e3, hn6⟩, ⟨e8, hw8⟩, hP, hE, hLo, hT0, hT1⟩ := id hI
  have hIc := hI
  refine j_iload_n C 2 dX12_feed_0 rfl ?_
  refine j_iconst C (v := (nI 1)) dX12_feed_1 (by decide) ?_
  refine j_bipush C (v := (nI 8)) dX12_feed_2 (by decide) ?_
  refine j_callS (As := [.int n, .int (nI 1), .int (nI 8)]) (rest := []) C vw12_in (c_in) rfl (Nat.le_of_ble_eq_true rfl) dX12_feed_4 (by decide) ?_
  rintro _ _ ⟨rfl, rfl⟩
  refine j_if_ne C 17 dX12_feed_7 (by decide) (fun c7 => ?_) (fun c7 => ?_)
  · replace c7 := bI_t c7
    obtain ⟨nn, gnn, hnn, rfl⟩ := inn_lit c7 (by omega)
    refine j_aload_n C 0 dX12_feed_17 rfl ?_
    refine rg C (v := .ref (q 0)) 0 (by decide) kf12_7 rfl dX12_feed_18 ?_
    refine j_iconst C (v := (nI 4)) dX12_feed_21 (by decide) ?_
    refine rl_row C 4 rfl (by omega) dX12_feed_22 ?_
    refine j_iload_n C 2 dX12_feed_23 rfl ?_
    refine j_iadd C dX12_feed_24 ?_
    refine j_bipush C (v := (nI 50)) dX12_feed_25 (by decide) ?_
    refine j_icmp_le C 37 dX12_feed_27 (by decide) (fun c27 => ?_) (fun c27 => ?_)
    · skip
      have hfit := c27
      rw [e4, nI_add, nI_leI (by omega) (by omega)] at hfit
      refine j_iconst C (v := (nI 0)) dX12_feed_37 (by decide) ?_
      refine j_istore C [(4, .int (nI 0)), (0, .ref o), (1, .long w), (3, .int (nI nn))] dX12_feed_38 (by decide) rfl ?_
      refine j_L [1, 2, 3, 0] [(0, .ref o), (1, .long w), (3, .int (nI nn)), (4, .int (nI 0))] rfl ?_
      refine j_loop (X := Nat) (fun (i : Nat) => i ≤ nn) (fun (i : Nat) => nn - i) (fun (i : Nat) => (sR V (fdF row w nt i) kept tried bf fd pk bo so sh mv tr)) (fun (i : Nat) => [(0, .ref o), (1, .long w), (3, .int (nI nn)), (4, .int (nI i))]) (0) (Nat.zero_le _) rfl rfl ?_
      rintro i hi ih
      try dsimp only at ih ⊢
      refine j_iload C 3 dX12_feed_40 rfl ?_
      refine j_iload_n C 2 dX12_feed_42 rfl ?_
      refine j_icmp_ge C 88 dX12_feed_43 (by decide) (fun c43 => ?_) (fun c43 => ?_)
      · rw [nI_leI (by omega) (by omega)] at c43
        obtain rfl : nn = i := by omega
        refine j_aload_n C 0 dX12_feed_88 rfl ?_
        refine rg C (v := .ref (q 0)) 0 (by decide) kf12_7 rfl dX12_feed_89 ?_
        refine j_iconst C (v := (nI 4)) dX12_feed_92 (by decide) ?_
        refine rl_row C 4 rfl (by omega) dX12_feed_93 ?_
        refine j_v (nI (nt + nn)) (fdF_4 e4 nn) ?_
        refine j_iret C dX12_feed_94 ?_
        unfold sp_feed
        rw [if_pos c7]
        rw [if_pos c27, e4, tN_nI (n := nt) (by omega), tN_nI (n := nn) (by omega), nI_add]
        exact ⟨rfl, EQ.rf⟩
      · rw [nI_leI (by omega) (by omega)] at c43
        refine j_aload_n C 0 dX12_feed_46 rfl ?_
        refine rg C (v := .ref (q 0)) 0 (by decide) kf12_7 rfl dX12_feed_47 ?_
        refine j_bipush C (v := (nI 90)) dX12_feed_50 (by decide) ?_
        refine j_aload_n C 0 dX12_feed_52 rfl ?_
        refine rg C (v := .ref (q 0)) 0 (by decide) kf12_7 rfl dX12_feed_53 ?_
        refine j_iconst C (v := (nI 4)) dX12_feed_56 (by decide) ?_
        refine rl_row C 4 rfl (by omega) dX12_feed_57 ?_
        refine j_v (nI (nt + i)) (fdF_4 e4 i) ?_
        refine j_iaddN C dX12_feed_58 ?_
        refine j_lload_n C 1 dX12_feed_59 rfl ?_
        refine j_bipush C (v := (nI 8)) dX12_feed_60 (by decide) ?_
        refine j_iload C 3 dX12_feed_62 rfl ?_
        refine j_imulN C dX12_feed_64 ?_
        refine j_lshr C dX12_feed_65 ?_
        refine j_ldc2 C 255 dX12_feed_66 kl12_169 ?_
        refine j_land C dX12_feed_69 ?_
        refine j_l2i C dX12_feed_70 ?_
        refine rs_row C (90 + (nt + i)) rfl (by omega) dX12_feed_71 ?_
        refine j_aload_n C 0 dX12_feed_72 rfl ?_
        refine rg C (v := .ref (q 0)) 0 (by decide) kf12_7 rfl dX12_feed_73 ?_
        refine j_iconst C (v := (nI 4)) dX12_feed_76 (by decide) ?_
        refine j_dup2 C dX12_feed_77 rfl rfl ?_
        refine rl_row C 4 rfl (by omega) dX12_feed_78 ?_
        refine j_v (nI (nt + i)) (by rw [pk_un (by omega)]; exact (fdF_4 e4 i)) ?_
        refine j_iconst C (v := (nI 1)) dX12_feed_79 (by decide) ?_
        refine j_iaddN C dX12_feed_80 ?_
        refine rs_row C 4 rfl (by omega) dX12_feed_81 ?_
        refine j_iinc C (v := (nI (i + 1))) 3 [(4, .int (nI (i + 1))), (0, .ref o), (1, .long w), (3, .int (nI nn))] dX12_feed_82 rfl (nI_1 _) (by decide) rfl ?_
        refine j_goto C 40 dX12_feed_85 (by decide) ?_
        refine j_L [1, 2, 3, 0] [(0, .ref o), (1, .long w), (3, .int (nI nn)), (4, .int (nI (i + 1)))] rfl ?_
        exact ih (i + 1) (by omega) (by omega)
    · skip
      refine j_aload_n C 0 dX12_feed_30 rfl ?_
      refine j_ldc C (-1000000004) dX12_feed_31 kc12_75 ?_
      refine j_callV (As := [.int (-1000000004)]) (rest := []) C vw12_errs (c_errs 4 (by decide) (by decide)) rRcv rfl (Nat.le_of_ble_eq_true rfl) dX12_feed_33 (by decide) ?_
      rintro _ _ ⟨rfl, rfl⟩
      refine j_iret C dX12_feed_36 ?_
      unfold sp_feed
      rw [if_pos c7]
      rw [if_neg c27]
      exact ⟨rfl, EQ.rf⟩
  · replace c7 := bI_f c7
    refine j_aload_n C 0 dX12_feed_10 rfl ?_
    refine j_ldc C (-1000000001) dX12_feed_11 kc12_55 ?_
    refine j_callV (As := [.int (-1000000001)]) (rest := []) C vw12_errs (c_errs 1 (by decide) (by decide)) rRcv rfl (Nat.le_of_ble_eq_true rfl) dX12_feed_13 (by decide) ?_
    rintro _ _ ⟨rfl, rfl⟩
    refine j_iret C dX12_feed_16 ?_
    unfold sp_feed
    rw [if_neg c7]
    exact ⟨rfl, EQ.rf⟩
theorem dX12_loose_0 : decode cX12_loose 0 = .ok (.iload_n 1, 1) := by decide +kernel
theorem dX12_loose_1 : decode cX12_loose 1 = .ok (.iconst 1, 1) := by decide +kernel
theorem dX12_loose_2 : decode cX12_loose 2 = .ok (.bipush 40, 2) := by decide +kernel
theorem dX12_loose_4 : decode cX12_loose 4 = .ok (.invokestatic 51, 3) := by decide +kernel
theorem dX12_loose_7 : decode cX12_loose 7 = .ok (.ifCond .ne 10, 3) := by decide +kernel
theorem dX12_loose_10 : decode cX12_loose 10 = .ok (.aload_n 0, 1) := by decide +kernel
theorem dX12_loose_11 : decode cX12_loose 11 = .ok (.ldc 55, 2) := by decide +kernel
theorem dX12_loose_13 : decode cX12_loose 13 = .ok (.invokevirtual 56, 3) := by decide +kernel
theorem dX12_loose_16 : decode cX12_loose 16 = .ok (.ireturn, 1) := by decide +kernel
theorem dX12_loose_17 : decode cX12_loose 17 = .ok (.aload_n 0, 1) := by decide +kernel
theorem dX12_loose_18 : decode cX12_loose 18 = .ok (.getfield 7, 3) := by decide +kernel
theorem dX12_loose_21 : decode cX12_loose 21 = .ok (.iconst 0, 1) := by decide +kernel
theorem dX12_loose_22 : decode cX12_loose 22 = .ok (.iaload, 1) := by decide +kernel
theorem dX12_loose_23 : decode cX12_loose 23 = .ok (.iload_n 1, 1) := by decide +kernel
theorem dX12_loose_24 : decode cX12_loose 24 = .ok (.iadd, 1) := by decide +kernel
theorem dX12_loose_25 : decode cX12_loose 25 = .ok (.sipush 9999, 3) := by decide +kernel
theorem dX12_loose_28 : decode cX12_loose 28 = .ok (.if_icmp .le 10, 3) := by decide +kernel
theorem dX12_loose_31 : decode cX12_loose 31 = .ok (.aload_n 0, 1) := by decide +kernel
theorem dX12_loose_32 : decode cX12_loose 32 = .ok (.ldc 60, 2) := by decide +kernel
theorem dX12_loose_34 : decode cX12_loose 34 = .ok (.invokevirtual 56, 3) := by decide +kernel
theorem dX12_loose_37 : decode cX12_loose 37 = .ok (.ireturn, 1) := by decide +kernel
theorem dX12_loose_38 : decode cX12_loose 38 = .ok (.iconst 0, 1) := by decide +kernel
theorem dX12_loose_39 : decode cX12_loose 39 = .ok (.istore_n 2, 1) := by decide +kernel
theorem dX12_loose_40 : decode cX12_loose 40 = .ok (.iload_n 2, 1) := by decide +kernel
theorem dX12_loose_41 : decode cX12_loose 41 = .ok (.iload_n 1, 1) := by decide +kernel
theorem dX12_loose_42 : decode cX12_loose 42 = .ok (.if_icmp .ge 46, 3) := by decide +kernel
theorem dX12_loose_45 : decode cX12_loose 45 = .ok (.aload_n 0, 1) := by decide +kernel
theorem dX12_loose_46 : decode cX12_loose 46 = .ok (.getfield 7, 3) := by decide +kernel
theorem dX12_loose_49 : decode cX12_loose 49 = .ok (.iconst 3, 1) := by decide +kernel
theorem dX12_loose_50 : decode cX12_loose 50 = .ok (.iaload, 1) := by decide +kernel
theorem dX12_loose_51 : decode cX12_loose 51 = .ok (.ifCond .le 27, 3) := by decide +kernel
theorem dX12_loose_54 : decode cX12_loose 54 = .ok (.aload_n 0, 1) := by decide +kernel
theorem dX12_loose_55 : decode cX12_loose 55 = .ok (.aload_n 0, 1) := by decide +kernel
theorem dX12_loose_56 : decode cX12_loose 56 = .ok (.getfield 7, 3) := by decide +kernel
theorem dX12_loose_59 : decode cX12_loose 59 = .ok (.iconst 3, 1) := by decide +kernel
theorem dX12_loose_60 : decode cX12_loose 60 = .ok (.iaload, 1) := by decide +kernel
theorem dX12_loose_61 : decode cX12_loose 61 = .ok (.invokevirtual 207, 3) := by decide +kernel
theorem dX12_loose_64 : decode cX12_loose 64 = .ok (.istore_n 3, 1) := by decide +kernel
theorem dX12_loose_65 : decode cX12_loose 65 = .ok (.aload_n 0, 1) := by decide +kernel
theorem dX12_loose_66 : decode cX12_loose 66 = .ok (.iload_n 3, 1) := by decide +kernel
theorem dX12_loose_67 : decode cX12_loose 67 = .ok (.iconst 3, 1) := by decide +kernel
theorem dX12_loose_68 : decode cX12_loose 68 = .ok (.aload_n 0, 1) := by decide +kernel
theorem dX12_loose_69 : decode cX12_loose 69 = .ok (.iconst 3, 1) := by decide +kernel
theorem dX12_loose_70 : decode cX12_loose 70 = .ok (.invokevirtual 207, 3) := by decide +kernel
theorem dX12_loose_73 : decode cX12_loose 73 = .ok (.iconst 1, 1) := by decide +kernel
theorem dX12_loose_74 : decode cX12_loose 74 = .ok (.isub, 1) := by decide +kernel
theorem dX12_loose_75 : decode cX12_loose 75 = .ok (.invokevirtual 76, 3) := by decide +kernel
theorem dX12_loose_78 : decode cX12_loose 78 = .ok (.aload_n 0, 1) := by decide +kernel
theorem dX12_loose_79 : decode cX12_loose 79 = .ok (.invokevirtual 197, 3) := by decide +kernel
theorem dX12_loose_82 : decode cX12_loose 82 = .ok (.iinc 2 1, 3) := by decide +kernel
theorem dX12_loose_85 : decode cX12_loose 85 = .ok (.goto (-45), 3) := by decide +kernel
theorem dX12_loose_88 : decode cX12_loose 88 = .ok (.aload_n 0, 1) := by decide +kernel
theorem dX12_loose_89 : decode cX12_loose 89 = .ok (.iconst 4, 1) := by decide +kernel
theorem dX12_loose_90 : decode cX12_loose 90 = .ok (.invokevirtual 203, 3) := by decide +kernel
theorem dX12_loose_93 : decode cX12_loose 93 = .ok (.ireturn, 1) := by decide +kernel
set_option maxHeartbeats 2000000 in
set_option maxRecDepth 20000 in
theorem c_loose {l : Launch} {D : va_G} {cI cG cW : ClassId} {o : Nat} {q : Nat → Nat} {V row kept tried bf fd pk bo so sh mv tr : Nat → Int32} {n : Int32} {nc np nw d nt nq : Nat} (hR : RKx row nc np nw d nt nq) : Ci l yX12_loose cX12_loose 4 (some .int) 90 D (tyL cI cG cW) (wR cI o q) [.ref o, .int n] (sR V row kept tried bf fd pk bo so sh mv tr) (fun r τ => r = (sp_loose V row kept tried bf fd pk bo so sh mv tr n).1 ∧ EQ τ (sp_loose V row kept tried bf fd pk bo so sh mv tr n).2) := by
  refine Ci.of (by decide) (Nat.le_of_ble_eq_true rfl) ?_
  intro p_ e_ s_ m_ b_ M_ c_ A_ C
  replace C : Cx _ _ _ _ _ _ _ _ RX12 _ _ _ _ := C
  refine j_L [0, 1] [(0, .ref o), (1, .int n)] rfl ?_
  obtain ⟨hI, hW, ⟨e0, hd⟩, ⟨e4, ht⟩, ⟨e5, hq⟩, hB⟩ := id hR
  obtain ⟨⟨e2, hc2, hc10⟩, ⟨e3, hn6⟩, ⟨e8, hw8⟩, hP, hE, hLo, hT0, hT1⟩ := id hI
  have hIc := hI
  refine j_iload_n C 1 dX12_loose_0 rfl ?_
  refine j_iconst C (v := (nI 1)) dX12_loose_1 (by decide) ?_
  refine j_bipush C (v := (nI 40)) dX12_loose_2 (by decide) ?_
  refine j_callS (As := [.int n, .int (nI 1), .int (nI 40)]) (rest := []) C vw12_in (c_in) rfl (Nat.le_of_ble_eq_true rfl) dX12_loose_4 (by decide) ?_
  rintro _ _ ⟨rfl, rfl⟩
  refine j_if_ne C 17 dX12_loose_7 (by decide) (fun c7 => ?_) (fun c7 => ?_)
  · replace c7 := bI_t c7
    obtain ⟨nn, gnn, hnn, rfl⟩ := inn_lit c7 (by omega)
    refine j_aload_n C 0 dX12_loose_17 rfl ?_
    refine rg C (v := .ref (q 0)) 0 (by decide) kf12_7 rfl dX12_loose_18 ?_
    refine j_iconst C (v := (nI 0)) dX12_loose_21 (by decide) ?_
    refine rl_row C 0 rfl (by omega) dX12_loose_22 ?_
    refine j_iload_n C 1 dX12_loose_23 rfl ?_
    refine j_iadd C dX12_loose_24 ?_
    refine j_sipush C (v := (nI 9999)) dX12_loose_25 (by decide) ?_
    refine j_icmp_le C 38 dX12_loose_28 (by decide) (fun c28 => ?_) (fun c28 => ?_)
    · skip
      refine j_iconst C (v := (nI 0)) dX12_loose_38 (by decide) ?_
      refine j_istore_n C [(2, .int (nI 0)), (0, .ref o), (1, .int (nI nn))] dX12_loose_39 (by decide) rfl ?_
      refine j_L [1, 2, 0] [(0, .ref o), (1, .int (nI nn)), (2, .int (nI 0))] rfl ?_
      refine j_loop (X := Nat × (Nat → Int32) × (Nat → Int32)) (fun (z : Nat × (Nat → Int32) × (Nat → Int32)) => match z with | (i, V1, pk1) => i ≤ nn ∧ VE V1 V) (fun (z : Nat × (Nat → Int32) × (Nat → Int32)) => match z with | (i, V1, pk1) => nn - i) (fun (z : Nat × (Nat → Int32) × (Nat → Int32)) => match z with | (i, V1, pk1) => (sR V1 (itN (fun _ r => losF V np nw r) i row) kept tried bf fd pk1 bo so sh mv tr)) (fun (z : Nat × (Nat → Int32) × (Nat → Int32)) => match z with | (i, V1, pk1) => [(0, .ref o), (1, .int (nI nn)), (2, .int (nI i))]) (0, V, pk) (⟨Nat.zero_le _, VE.rf⟩) rfl rfl ?_
      rintro ⟨i, V1, pk1⟩ ⟨hi, hV⟩ ih
      try dsimp only at ih ⊢
      obtain ⟨hIk, hwk⟩ := loss_ok (V := V) hI i
      have e3k := hIk.2.1.1
      refine j_iload_n C 2 dX12_loose_40 rfl ?_
      refine j_iload_n C 1 dX12_loose_41 rfl ?_
      refine j_icmp_ge C 88 dX12_loose_42 (by decide) (fun c42 => ?_) (fun c42 => ?_)
      · rw [nI_leI (by omega) (by omega)] at c42
        obtain rfl : nn = i := by omega
        have hIc := hIk
        refine j_aload_n C 0 dX12_loose_88 rfl ?_
        refine j_iconst C (v := (nI 4)) dX12_loose_89 (by decide) ?_
        refine j_callV (As := [.int (nI 4)]) (rest := []) C vw12_sumOf (c_sumOf 4 hIc.2.1.1 hIc.2.1.2 (by omega)) rRcv rfl (Nat.le_of_ble_eq_true rfl) dX12_loose_90 (by decide) ?_
        rintro _ _ ⟨rfl, rfl⟩
        refine j_iret C dX12_loose_93 ?_
        unfold sp_loose
        rw [if_pos c7]
        rw [if_pos c28, tN_nI (n := nn) (by omega), e3, e8, tN_nI (n := np) (by omega), tN_nI (n := nw) (by omega)]
        exact ⟨rfl, EQ.ve hV⟩
      · rw [nI_leI (by omega) (by omega)] at c42
        refine j_aload_n C 0 dX12_loose_45 rfl ?_
        refine rg C (v := .ref (q 0)) 0 (by decide) kf12_7 rfl dX12_loose_46 ?_
        refine j_iconst C (v := (nI 3)) dX12_loose_49 (by decide) ?_
        refine rl_row C 3 rfl (by omega) dX12_loose_50 ?_
        refine j_v (nI np) e3k ?_
        refine j_if_le C 78 dX12_loose_51 (by decide) (fun c51 => ?_) (fun c51 => ?_)
        · rw [show (0 : Int32) = nI 0 from rfl, nI_leI (by omega) (by omega)] at c51
          refine j_s (show _ = (sR V1 (losG np (itN (fun _ r => losF V np nw r) i row)) kept tried bf fd pk1 bo so sh mv tr) from by rw [show losG np (itN (fun _ r => losF V np nw r) i row) = _ from by unfold losG; rw [if_pos (by omega)]]; first | done | rfl) ?_
          have hIc := (losG_ok (V := V) hIk).1
          have hwg := (wv_eq nw hV (FR.rf (r := losG np (itN (fun _ r => losF V np nw r) i row)))).trans ((losG_ok (V := V) hIk).2)
          refine j_aload_n C 0 dX12_loose_78 rfl ?_
          refine j_callVv (As := []) (rest := []) C vw12_oneDawn (c_oneDawn hIc) rRcv rfl (Nat.le_of_ble_eq_true rfl) dX12_loose_79 (by decide) ?_
          rintro _ ⟨Vx1, pkx2, hVx1, hpkx2, rfl⟩
          rw [hwg]
          rw [← losF_eq]
          refine j_iinc C (v := (nI (i + 1))) 2 [(2, .int (nI (i + 1))), (0, .ref o), (1, .int (nI nn))] dX12_loose_82 rfl (nI_1 _) (by decide) rfl ?_
          refine j_goto C 40 dX12_loose_85 (by decide) ?_
          refine j_L [1, 2, 0] [(0, .ref o), (1, .int (nI nn)), (2, .int (nI (i + 1)))] rfl ?_
          exact ih (i + 1, Vx1, pkx2) ⟨by dsimp only; omega, hVx1.tr hV⟩ (by dsimp only; omega)
        · rw [show (0 : Int32) = nI 0 from rfl, nI_leI (by omega) (by omega)] at c51
          refine j_aload_n C 0 dX12_loose_54 rfl ?_
          refine j_aload_n C 0 dX12_loose_55 rfl ?_
          refine rg C (v := .ref (q 0)) 0 (by decide) kf12_7 rfl dX12_loose_56 ?_
          refine j_iconst C (v := (nI 3)) dX12_loose_59 (by decide) ?_
          refine rl_row C 3 rfl (by omega) dX12_loose_60 ?_
          refine j_v (nI np) e3k ?_
          refine j_callV (As := [.int (nI np)]) (rest := []) C vw12_drawn (c_drawn np (by omega) (by omega)) rRcv rfl (Nat.le_of_ble_eq_true rfl) dX12_loose_61 (by decide) ?_
          rintro _ _ ⟨rfl, rfl⟩
          obtain ⟨j1, hj1, ej1⟩ := drw_lt (itN (fun _ r => losF V np nw r) i row) (b := np) (by omega) (by omega)
          refine j_v (nI j1) ej1 ?_
          refine j_istore_n C [(3, .int (nI j1)), (0, .ref o), (1, .int (nI nn)), (2, .int (nI i))] dX12_loose_64 (by decide) rfl ?_
          refine j_aload_n C 1 dX12_loose_65 rfl ?_
          refine j_iload_n C 0 dX12_loose_66 rfl ?_
          refine j_iconst C (v := (nI 3)) dX12_loose_67 (by decide) ?_
          refine j_aload_n C 1 dX12_loose_68 rfl ?_
          refine j_iconst C (v := (nI 3)) dX12_loose_69 (by decide) ?_
          refine j_callV (As := [.int (nI 3)]) (rest := [.int (nI 3), .int (nI j1), .ref o]) C vw12_drawn (c_drawn 3 (by omega) (by omega)) rRcv rfl (Nat.le_of_ble_eq_true rfl) dX12_loose_70 (by decide) ?_
          rintro _ _ ⟨rfl, rfl⟩
          refine j_iconst C (v := (nI 1)) dX12_loose_73 (by decide) ?_
          refine j_isub C dX12_loose_74 ?_
          refine j_callVv (As := [.int (nI j1), .int (nI 3), .int ((drwV (drwF (itN (fun _ r => losF V np nw r) i row)) 3) - (nI 1))]) (rest := []) C vw12_gets (c_gets j1 3 (by omega)) rRcv rfl (Nat.le_of_ble_eq_true rfl) dX12_loose_75 (by decide) ?_
          rintro _ rfl
          refine j_s (show _ = (sR V1 (losG np (itN (fun _ r => losF V np nw r) i row)) kept tried bf fd pk1 bo so sh mv tr) from by rw [show losG np (itN (fun _ r => losF V np nw r) i row) = _ from by unfold losG; rw [if_neg (by omega), ej1, tN_nI (by omega)]]; first | done | rfl) ?_
          have hIc := (losG_ok (V := V) hIk).1
          have hwg := (wv_eq nw hV (FR.rf (r := losG np (itN (fun _ r => losF V np nw r) i row)))).trans ((losG_ok (V := V) hIk).2)
          refine j_aload_n C 1 dX12_loose_78 rfl ?_
          refine j_callVv (As := []) (rest := []) C vw12_oneDawn (c_oneDawn hIc) rRcv rfl (Nat.le_of_ble_eq_true rfl) dX12_loose_79 (by decide) ?_
          rintro _ ⟨Vx3, pkx4, hVx3, hpkx4, rfl⟩
          rw [hwg]
          rw [← losF_eq]
          refine j_iinc C (v := (nI (i + 1))) 3 [(2, .int (nI (i + 1))), (3, .int (nI j1)), (0, .ref o), (1, .int (nI nn))] dX12_loose_82 rfl (nI_1 _) (by decide) rfl ?_
          refine j_goto C 40 dX12_loose_85 (by decide) ?_
          refine j_L [2, 3, 0] [(0, .ref o), (1, .int (nI nn)), (2, .int (nI (i + 1)))] rfl ?_
          exact ih (i + 1, Vx3, pkx4) ⟨by dsimp only; omega, hVx3.tr hV⟩ (by dsimp only; omega)
    · skip
      refine j_aload_n C 0 dX12_loose_31 rfl ?_
      refine j_ldc C (-1000000003) dX12_loose_32 kc12_60 ?_
      refine j_callV (As := [.int (-1000000003)]) (rest := []) C vw12_errs (c_errs 3 (by decide) (by decide)) rRcv rfl (Nat.le_of_ble_eq_true rfl) dX12_loose_34 (by decide) ?_
      rintro _ _ ⟨rfl, rfl⟩
      refine j_iret C dX12_loose_37 ?_
      unfold sp_loose
      rw [if_pos c7]
      rw [if_neg c28]
      exact ⟨rfl, EQ.rf⟩
  · replace c7 := bI_f c7
    refine j_aload_n C 0 dX12_loose_10 rfl ?_
    refine j_ldc C (-1000000001) dX12_loose_11 kc12_55 ?_
    refine j_callV (As := [.int (-1000000001)]) (rest := []) C vw12_errs (c_errs 1 (by decide) (by decide)) rRcv rfl (Nat.le_of_ble_eq_true rfl) dX12_loose_13 (by decide) ?_
    rintro _ _ ⟨rfl, rfl⟩
    refine j_iret C dX12_loose_16 ?_
    unfold sp_loose
    rw [if_neg c7]
    exact ⟨rfl, EQ.rf⟩

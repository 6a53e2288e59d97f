/-! The class's fields: eating, a dawn. -/
theorem max_sub {b t : Nat} (hb : b < 2 ^ 30) (ht : t < 2 ^ 30) : (if nI 0 < nI b - nI t then nI b - nI t else nI 0) = nI (b - t) := by
  have h3 := pk_sub_toInt (a := b) (b := t) hb (by omega)
  by_cases h : t < b
  · rw [pk_sub (by omega), if_pos (by rw [nI_ltI (by omega) (by omega)]; omega)]
  · rw [if_neg (by rw [Int32.lt_iff_toInt_lt, h3, nI_toInt (by omega)]; omega)]; congr 1; omega
theorem etF_eq {row : Nat → Int32} {p b t h : Nat} (et : eatF row p = nI t) (eb : row (30 + 6 * p + 4) = nI b) (eh : row (30 + 6 * p + 5) = nI h) (ht : t ≤ 3) (hb : b ≤ 9999) (hh : h ≤ 9999) : etF row p = if b < t ∧ h < 9999 then upd (upd row (30 + 6 * p + 4) (nI (b - t))) (30 + 6 * p + 5) (nI (h + 1)) else upd row (30 + 6 * p + 4) (nI (b - t)) := by
  unfold etF
  rw [et, eb, eh, nI_add]
  by_cases h1 : b < t
  · rw [if_neg (by rw [nI_leI (by omega) (by omega)]; omega), show b - t = 0 by omega, hld_min rfl (by omega)]
    by_cases h2 : h < 9999
    · rw [if_pos (c := b < t ∧ h < 9999) ⟨h1, h2⟩]
      by_cases h3 : nI (h + 1) < nI 9999
      · rw [if_pos h3]
      · rw [if_neg h3]; rw [nI_ltI (by omega) (by omega)] at h3; rw [show h + 1 = 9999 by omega]
    · rw [if_neg (c := b < t ∧ h < 9999) (fun g => h2 g.2), if_neg (by rw [nI_ltI (by omega) (by omega)]; omega)]
      exact upd_self (by rw [pk_un (by omega), eh]; congr 1; omega)
  · rw [if_pos (by rw [nI_leI (by omega) (by omega)]; omega), if_neg (c := b < t ∧ h < 9999) (fun g => h1 g.1), pk_sub (by omega)]
theorem CF.dw {S : Nat → Int32} {X : Nat → Nat → Int32} {f : Nat} {row w : Nat → Int32} {nc np : Nat} (h : CF S X f row w nc np) : CF (upd S (6 + 3 * f) (S (6 + 3 * f) + nI 1)) X f (upd row 0 (row 0 + nI 1)) w nc np := by
  refine ⟨?_, ?_, ?_, fun c hc => ?_, fun c hc => ?_, fun j hj p hp => ?_, h.weighs⟩
  · rw [pk_un (by omega), pk_un (by omega)]; exact h.cells
  · rw [pk_us, pk_us, h.dawn]
  · rw [pk_un (by omega), pk_un (by omega)]; exact h.people
  · rw [pk_un (by omega)]; exact h.ears c hc
  · rw [pk_un (by omega)]; exact h.low c hc
  · rw [pk_un (by omega)]; exact h.per j hj p hp
def FrD (f : Nat) (S' S : Nat → Int32) : Prop := ∀ k, ¬ k = 6 + 3 * f → S' k = S k

theorem dX1_eat_0 : decode cX1_eat 0 = .ok (.aload_n 0, 1) := by decide +kernel
theorem dX1_eat_1 : decode cX1_eat 1 = .ok (.iload_n 1, 1) := by decide +kernel
theorem dX1_eat_2 : decode cX1_eat 2 = .ok (.invokevirtual 120, 3) := by decide +kernel
theorem dX1_eat_5 : decode cX1_eat 5 = .ok (.istore_n 2, 1) := by decide +kernel
theorem dX1_eat_6 : decode cX1_eat 6 = .ok (.aload_n 0, 1) := by decide +kernel
theorem dX1_eat_7 : decode cX1_eat 7 = .ok (.getfield 40, 3) := by decide +kernel
theorem dX1_eat_10 : decode cX1_eat 10 = .ok (.iload_n 1, 1) := by decide +kernel
theorem dX1_eat_11 : decode cX1_eat 11 = .ok (.iaload, 1) := by decide +kernel
theorem dX1_eat_12 : decode cX1_eat 12 = .ok (.iload_n 2, 1) := by decide +kernel
theorem dX1_eat_13 : decode cX1_eat 13 = .ok (.if_icmp .ge 25, 3) := by decide +kernel
theorem dX1_eat_16 : decode cX1_eat 16 = .ok (.aload_n 0, 1) := by decide +kernel
theorem dX1_eat_17 : decode cX1_eat 17 = .ok (.getfield 43, 3) := by decide +kernel
theorem dX1_eat_20 : decode cX1_eat 20 = .ok (.iload_n 1, 1) := by decide +kernel
theorem dX1_eat_21 : decode cX1_eat 21 = .ok (.iaload, 1) := by decide +kernel
theorem dX1_eat_22 : decode cX1_eat 22 = .ok (.sipush 9999, 3) := by decide +kernel
theorem dX1_eat_25 : decode cX1_eat 25 = .ok (.if_icmp .ge 13, 3) := by decide +kernel
theorem dX1_eat_28 : decode cX1_eat 28 = .ok (.aload_n 0, 1) := by decide +kernel
theorem dX1_eat_29 : decode cX1_eat 29 = .ok (.getfield 43, 3) := by decide +kernel
theorem dX1_eat_32 : decode cX1_eat 32 = .ok (.iload_n 1, 1) := by decide +kernel
theorem dX1_eat_33 : decode cX1_eat 33 = .ok (.dup2, 1) := by decide +kernel
theorem dX1_eat_34 : decode cX1_eat 34 = .ok (.iaload, 1) := by decide +kernel
theorem dX1_eat_35 : decode cX1_eat 35 = .ok (.iconst 1, 1) := by decide +kernel
theorem dX1_eat_36 : decode cX1_eat 36 = .ok (.iadd, 1) := by decide +kernel
theorem dX1_eat_37 : decode cX1_eat 37 = .ok (.iastore, 1) := by decide +kernel
theorem dX1_eat_38 : decode cX1_eat 38 = .ok (.aload_n 0, 1) := by decide +kernel
theorem dX1_eat_39 : decode cX1_eat 39 = .ok (.getfield 40, 3) := by decide +kernel
theorem dX1_eat_42 : decode cX1_eat 42 = .ok (.iload_n 1, 1) := by decide +kernel
theorem dX1_eat_43 : decode cX1_eat 43 = .ok (.iconst 0, 1) := by decide +kernel
theorem dX1_eat_44 : decode cX1_eat 44 = .ok (.aload_n 0, 1) := by decide +kernel
theorem dX1_eat_45 : decode cX1_eat 45 = .ok (.getfield 40, 3) := by decide +kernel
theorem dX1_eat_48 : decode cX1_eat 48 = .ok (.iload_n 1, 1) := by decide +kernel
theorem dX1_eat_49 : decode cX1_eat 49 = .ok (.iaload, 1) := by decide +kernel
theorem dX1_eat_50 : decode cX1_eat 50 = .ok (.iload_n 2, 1) := by decide +kernel
theorem dX1_eat_51 : decode cX1_eat 51 = .ok (.isub, 1) := by decide +kernel
theorem dX1_eat_52 : decode cX1_eat 52 = .ok (.invokestatic 73, 3) := by decide +kernel
theorem dX1_eat_55 : decode cX1_eat 55 = .ok (.iastore, 1) := by decide +kernel
theorem dX1_eat_56 : decode cX1_eat 56 = .ok (.return_, 1) := by decide +kernel
set_option maxHeartbeats 2000000 in
set_option maxRecDepth 20000 in
theorem h_eat_0 {l : Launch} {D : va_G} {cI cG cW : ClassId} {q : Nat → Nat} {S : Nat → Int32} {X : Nat → Nat → Int32} {P : Nat → Nat} {row w : Nat → Int32} {nc np : Nat} (hF : CF S X 0 row w nc np) {nw : Nat} (hI : Iv row nc np nw) (p : Nat) (hp : p < np) : Cv l yX1_eat cX1_eat 3 none 4 D (tyL cI cG cW) (wC cI cG cW q) [.ref (q 3), .int (nI p)] (S, X, P) (fun τ => ∃ X', τ = (S, X', P) ∧ CF S X' 0 (etF row p) w nc np ∧ FrX 0 X' X ∧ X' 45 = X 45) := by
  refine Cv.of (by decide) (Nat.le_of_ble_eq_true rfl) ?_
  intro p_ e_ s_ m_ b_ M_ c_ A_ C
  replace C : Cx _ _ _ _ _ _ _ _ RX1 _ _ _ _ := C
  refine j_L [0, 1] [(0, .ref (q 3)), (1, .int (nI p))] rfl ?_
  obtain ⟨⟨e2, hc2, hc10⟩, ⟨e3, hn6⟩, -, hP, -, -, -, -⟩ := id hI
  obtain ⟨⟨k, hk, ek⟩, -, -, -, ⟨b, hb, eb⟩, ⟨hh, hhh, eh⟩⟩ := hP p hp
  obtain ⟨t, ht, et⟩ := eatF_nI hI hp
  refine j_aload_n C 0 dX1_eat_0 rfl ?_
  refine j_iload_n C 1 dX1_eat_1 rfl ?_
  refine j_callV (As := [.int (nI p)]) (rest := []) C vw1_120 (h_eatsOf_0 hF hn6 p hp hk ek) ⟨3, 1, _, _, rfl, rfl, rfl⟩ rfl (Nat.le_of_ble_eq_true rfl) dX1_eat_2 (by decide) ?_
  rintro _ _ ⟨rfl, rfl⟩
  refine j_v (nI t) et ?_
  refine j_istore_n C [(2, .int (nI t)), (0, .ref (q 3)), (1, .int (nI p))] dX1_eat_5 (by decide) rfl ?_
  refine j_aload_n C 1 dX1_eat_6 rfl ?_
  refine j_get C (v := .ref (q 42)) 3 9 rfl rfl inlC1 (by decide) kf1_40 rfl dX1_eat_7 ?_
  refine j_iload_n C 2 dX1_eat_10 rfl ?_
  refine j_ialdN C 42 0 rfl rfl p rfl (by omega) (by decide) dX1_eat_11 ?_
  refine j_v (nI b) ((hF.per 4 (by omega) p (by omega)).trans eb) ?_
  refine j_iload_n C 0 dX1_eat_12 rfl ?_
  refine j_icmp_ge C 38 dX1_eat_13 (by decide) (fun c13 => ?_) (fun c13 => ?_)
  · rw [nI_leI (by omega) (by omega)] at c13
    refine j_aload_n C 1 dX1_eat_38 rfl ?_
    refine j_get C (v := .ref (q 42)) 3 9 rfl rfl inlC1 (by decide) kf1_40 rfl dX1_eat_39 ?_
    refine j_iload_n C 2 dX1_eat_42 rfl ?_
    refine j_iconst C (v := (nI 0)) dX1_eat_43 (by decide) ?_
    refine j_aload_n C 1 dX1_eat_44 rfl ?_
    refine j_get C (v := .ref (q 42)) 3 9 rfl rfl inlC1 (by decide) kf1_40 rfl dX1_eat_45 ?_
    refine j_iload_n C 2 dX1_eat_48 rfl ?_
    refine j_ialdN C 42 0 rfl rfl p rfl (by omega) (by decide) dX1_eat_49 ?_
    refine j_v (nI b) ((hF.per 4 (by omega) p (by omega)).trans eb) ?_
    refine j_iload_n C 0 dX1_eat_50 rfl ?_
    refine j_isub C dX1_eat_51 ?_
    refine j_mmax (rest := [.int (nI p), .ref (q 42)]) C mx1_73 (by decide) (Nat.le_of_ble_eq_true rfl) dX1_eat_52 ?_
    refine j_v (nI (b - t)) (max_sub (by omega) (by omega)) ?_
    refine j_iastN C 42 0 rfl rfl p rfl (by omega) (by decide) dX1_eat_55 (S, va_up X 42 (upd (X 42) p (nI (b - t))), P) rfl ?_
    refine j_vret C dX1_eat_56 ?_
    rw [etF_eq et eb eh ht hb hhh, if_neg (by omega)]
    exact ⟨_, rfl, hF.setP hc10 4 (by omega) p _, FrX.rf.up (by omega), va_n (by omega)⟩
  · rw [nI_leI (by omega) (by omega)] at c13
    refine j_aload_n C 1 dX1_eat_16 rfl ?_
    refine j_get C (v := .ref (q 43)) 3 10 rfl rfl inlC1 (by decide) kf1_43 rfl dX1_eat_17 ?_
    refine j_iload_n C 2 dX1_eat_20 rfl ?_
    refine j_ialdN C 43 0 rfl rfl p rfl (by omega) (by decide) dX1_eat_21 ?_
    refine j_v (nI hh) ((hF.per 5 (by omega) p (by omega)).trans eh) ?_
    refine j_sipush C (v := (nI 9999)) dX1_eat_22 (by decide) ?_
    refine j_icmp_ge C 38 dX1_eat_25 (by decide) (fun c25 => ?_) (fun c25 => ?_)
    · rw [nI_leI (by omega) (by omega)] at c25
      refine j_aload_n C 1 dX1_eat_38 rfl ?_
      refine j_get C (v := .ref (q 42)) 3 9 rfl rfl inlC1 (by decide) kf1_40 rfl dX1_eat_39 ?_
      refine j_iload_n C 2 dX1_eat_42 rfl ?_
      refine j_iconst C (v := (nI 0)) dX1_eat_43 (by decide) ?_
      refine j_aload_n C 1 dX1_eat_44 rfl ?_
      refine j_get C (v := .ref (q 42)) 3 9 rfl rfl inlC1 (by decide) kf1_40 rfl dX1_eat_45 ?_
      refine j_iload_n C 2 dX1_eat_48 rfl ?_
      refine j_ialdN C 42 0 rfl rfl p rfl (by omega) (by decide) dX1_eat_49 ?_
      refine j_v (nI b) ((hF.per 4 (by omega) p (by omega)).trans eb) ?_
      refine j_iload_n C 0 dX1_eat_50 rfl ?_
      refine j_isub C dX1_eat_51 ?_
      refine j_mmax (rest := [.int (nI p), .ref (q 42)]) C mx1_73 (by decide) (Nat.le_of_ble_eq_true rfl) dX1_eat_52 ?_
      refine j_v (nI (b - t)) (max_sub (by omega) (by omega)) ?_
      refine j_iastN C 42 0 rfl rfl p rfl (by omega) (by decide) dX1_eat_55 (S, va_up X 42 (upd (X 42) p (nI (b - t))), P) rfl ?_
      refine j_vret C dX1_eat_56 ?_
      rw [etF_eq et eb eh ht hb hhh, if_neg (by omega)]
      exact ⟨_, rfl, hF.setP hc10 4 (by omega) p _, FrX.rf.up (by omega), va_n (by omega)⟩
    · rw [nI_leI (by omega) (by omega)] at c25
      refine j_aload_n C 1 dX1_eat_28 rfl ?_
      refine j_get C (v := .ref (q 43)) 3 10 rfl rfl inlC1 (by decide) kf1_43 rfl dX1_eat_29 ?_
      refine j_iload_n C 2 dX1_eat_32 rfl ?_
      refine j_dup2 C dX1_eat_33 rfl rfl ?_
      refine j_ialdN C 43 0 rfl rfl p rfl (by omega) (by decide) dX1_eat_34 ?_
      refine j_v (nI hh) ((hF.per 5 (by omega) p (by omega)).trans eh) ?_
      refine j_iconst C (v := (nI 1)) dX1_eat_35 (by decide) ?_
      refine j_iaddN C dX1_eat_36 ?_
      refine j_iastN C 43 0 rfl rfl p rfl (by omega) (by decide) dX1_eat_37 (S, va_up X 43 (upd (X 43) p (nI (hh + 1))), P) rfl ?_
      refine j_aload_n C 1 dX1_eat_38 rfl ?_
      refine j_get C (v := .ref (q 42)) 3 9 rfl rfl inlC1 (by decide) kf1_40 rfl dX1_eat_39 ?_
      refine j_iload_n C 2 dX1_eat_42 rfl ?_
      refine j_iconst C (v := (nI 0)) dX1_eat_43 (by decide) ?_
      refine j_aload_n C 1 dX1_eat_44 rfl ?_
      refine j_get C (v := .ref (q 42)) 3 9 rfl rfl inlC1 (by decide) kf1_40 rfl dX1_eat_45 ?_
      refine j_iload_n C 2 dX1_eat_48 rfl ?_
      refine j_ialdN C 42 0 rfl rfl p rfl (by omega) (by decide) dX1_eat_49 ?_
      refine j_v (nI b) ((hF.per 4 (by omega) p (by omega)).trans eb) ?_
      refine j_iload_n C 0 dX1_eat_50 rfl ?_
      refine j_isub C dX1_eat_51 ?_
      refine j_mmax (rest := [.int (nI p), .ref (q 42)]) C mx1_73 (by decide) (Nat.le_of_ble_eq_true rfl) dX1_eat_52 ?_
      refine j_v (nI (b - t)) (max_sub (by omega) (by omega)) ?_
      refine j_iastN C 42 0 rfl rfl p rfl (by omega) (by decide) dX1_eat_55 (S, va_up (va_up X 42 (upd (X 42) p (nI (b - t)))) 43 (upd (X 43) p (nI (hh + 1))), P) rfl ?_
      refine j_vret C dX1_eat_56 ?_
      rw [etF_eq et eb eh ht hb hhh, if_pos (by omega)]
      exact ⟨_, rfl, (hF.setP hc10 4 (by omega) p _).setP hc10 5 (by omega) p _, (FrX.rf.up (by omega)).up (by omega), (va_n (by omega)).trans (va_n (by omega))⟩
theorem dX1_passDawn_0 : decode cX1_passDawn 0 = .ok (.iconst 0, 1) := by decide +kernel
theorem dX1_passDawn_1 : decode cX1_passDawn 1 = .ok (.istore_n 1, 1) := by decide +kernel
theorem dX1_passDawn_2 : decode cX1_passDawn 2 = .ok (.iload_n 1, 1) := by decide +kernel
theorem dX1_passDawn_3 : decode cX1_passDawn 3 = .ok (.aload_n 0, 1) := by decide +kernel
theorem dX1_passDawn_4 : decode cX1_passDawn 4 = .ok (.getfield 25, 3) := by decide +kernel
theorem dX1_passDawn_7 : decode cX1_passDawn 7 = .ok (.if_icmp .ge 14, 3) := by decide +kernel
theorem dX1_passDawn_10 : decode cX1_passDawn 10 = .ok (.aload_n 0, 1) := by decide +kernel
theorem dX1_passDawn_11 : decode cX1_passDawn 11 = .ok (.iload_n 1, 1) := by decide +kernel
theorem dX1_passDawn_12 : decode cX1_passDawn 12 = .ok (.invokevirtual 108, 3) := by decide +kernel
theorem dX1_passDawn_15 : decode cX1_passDawn 15 = .ok (.iinc 1 1, 3) := by decide +kernel
theorem dX1_passDawn_18 : decode cX1_passDawn 18 = .ok (.goto (-16), 3) := by decide +kernel
theorem dX1_passDawn_21 : decode cX1_passDawn 21 = .ok (.iconst 0, 1) := by decide +kernel
theorem dX1_passDawn_22 : decode cX1_passDawn 22 = .ok (.istore_n 1, 1) := by decide +kernel
theorem dX1_passDawn_23 : decode cX1_passDawn 23 = .ok (.iload_n 1, 1) := by decide +kernel
theorem dX1_passDawn_24 : decode cX1_passDawn 24 = .ok (.aload_n 0, 1) := by decide +kernel
theorem dX1_passDawn_25 : decode cX1_passDawn 25 = .ok (.getfield 25, 3) := by decide +kernel
theorem dX1_passDawn_28 : decode cX1_passDawn 28 = .ok (.if_icmp .ge 14, 3) := by decide +kernel
theorem dX1_passDawn_31 : decode cX1_passDawn 31 = .ok (.aload_n 0, 1) := by decide +kernel
theorem dX1_passDawn_32 : decode cX1_passDawn 32 = .ok (.iload_n 1, 1) := by decide +kernel
theorem dX1_passDawn_33 : decode cX1_passDawn 33 = .ok (.invokevirtual 111, 3) := by decide +kernel
theorem dX1_passDawn_36 : decode cX1_passDawn 36 = .ok (.iinc 1 1, 3) := by decide +kernel
theorem dX1_passDawn_39 : decode cX1_passDawn 39 = .ok (.goto (-16), 3) := by decide +kernel
theorem dX1_passDawn_42 : decode cX1_passDawn 42 = .ok (.iconst 0, 1) := by decide +kernel
theorem dX1_passDawn_43 : decode cX1_passDawn 43 = .ok (.istore_n 1, 1) := by decide +kernel
theorem dX1_passDawn_44 : decode cX1_passDawn 44 = .ok (.iload_n 1, 1) := by decide +kernel
theorem dX1_passDawn_45 : decode cX1_passDawn 45 = .ok (.aload_n 0, 1) := by decide +kernel
theorem dX1_passDawn_46 : decode cX1_passDawn 46 = .ok (.getfield 25, 3) := by decide +kernel
theorem dX1_passDawn_49 : decode cX1_passDawn 49 = .ok (.if_icmp .ge 14, 3) := by decide +kernel
theorem dX1_passDawn_52 : decode cX1_passDawn 52 = .ok (.aload_n 0, 1) := by decide +kernel
theorem dX1_passDawn_53 : decode cX1_passDawn 53 = .ok (.iload_n 1, 1) := by decide +kernel
theorem dX1_passDawn_54 : decode cX1_passDawn 54 = .ok (.invokevirtual 114, 3) := by decide +kernel
theorem dX1_passDawn_57 : decode cX1_passDawn 57 = .ok (.iinc 1 1, 3) := by decide +kernel
theorem dX1_passDawn_60 : decode cX1_passDawn 60 = .ok (.goto (-16), 3) := by decide +kernel
theorem dX1_passDawn_63 : decode cX1_passDawn 63 = .ok (.aload_n 0, 1) := by decide +kernel
theorem dX1_passDawn_64 : decode cX1_passDawn 64 = .ok (.dup, 1) := by decide +kernel
theorem dX1_passDawn_65 : decode cX1_passDawn 65 = .ok (.getfield 22, 3) := by decide +kernel
theorem dX1_passDawn_68 : decode cX1_passDawn 68 = .ok (.iconst 1, 1) := by decide +kernel
theorem dX1_passDawn_69 : decode cX1_passDawn 69 = .ok (.iadd, 1) := by decide +kernel
theorem dX1_passDawn_70 : decode cX1_passDawn 70 = .ok (.putfield 22, 3) := by decide +kernel
theorem dX1_passDawn_73 : decode cX1_passDawn 73 = .ok (.return_, 1) := by decide +kernel
set_option maxHeartbeats 2000000 in
set_option maxRecDepth 20000 in
theorem h_pass_0 {l : Launch} {D : va_G} {cI cG cW : ClassId} {q : Nat → Nat} {S : Nat → Int32} {X : Nat → Nat → Int32} {P : Nat → Nat} {row w : Nat → Int32} {nc np : Nat} (hF : CF S X 0 row w nc np) {nw : Nat} (hI : Iv row nc np nw) (hL0 : CLaw S X 0 row 0) (hL1 : CLaw S X 1 row 1) : Cv l yX1_passDawn cX1_passDawn 2 none 7 D (tyL cI cG cW) (wC cI cG cW q) [.ref (q 3)] (S, X, P) (fun τ => ∃ S' X', τ = (S', X', P) ∧ CF S' X' 0 (dawnF np w row) w nc np ∧ FrD 0 S' S ∧ FrX 0 X' X ∧ ∀ j, j < np → X' 45 j = pickV (pksF np w row j) np (w j) j) := by
  refine Cv.of (by decide) (Nat.le_of_ble_eq_true rfl) ?_
  intro p_ e_ s_ m_ b_ M_ c_ A_ C
  replace C : Cx _ _ _ _ _ _ _ _ RX1 _ _ _ _ := C
  refine j_L [0] [(0, .ref (q 3))] rfl ?_
  obtain ⟨-, ⟨e3, hn6⟩, -⟩ := id hI
  refine j_iconst C (v := (nI 0)) dX1_passDawn_0 (by decide) ?_
  refine j_istore_n C [(1, .int (nI 0)), (0, .ref (q 3))] dX1_passDawn_1 (by decide) rfl ?_
  refine j_L [1, 0] [(0, .ref (q 3)), (1, .int (nI 0))] rfl ?_
  refine j_loop (X := Nat × (Nat → Nat → Int32)) (fun (z : Nat × (Nat → Nat → Int32)) => match z with | (i, Y) => i ≤ np ∧ CF S Y 0 (pksF np w row i) w nc np ∧ FrX 0 Y X ∧ ∀ j, j < i → Y 45 j = pickV (pksF np w row j) np (w j) j) (fun (z : Nat × (Nat → Nat → Int32)) => match z with | (i, Y) => np - i) (fun (z : Nat × (Nat → Nat → Int32)) => match z with | (i, Y) => (S, Y, P)) (fun (z : Nat × (Nat → Nat → Int32)) => match z with | (i, Y) => [(0, .ref (q 3)), (1, .int (nI i))]) (0, X) (⟨Nat.zero_le _, hF, FrX.rf, fun j h => absurd h (Nat.not_lt_zero _)⟩) rfl rfl ?_
  rintro ⟨i, Y⟩ ⟨hi, hG, hX, hpk⟩ ih
  try dsimp only at ih ⊢
  have hIF := pks_IF w hI i hi
  have e3i := hIF.1.2.1.1
  refine j_iload_n C 1 dX1_passDawn_2 rfl ?_
  refine j_aload_n C 0 dX1_passDawn_3 rfl ?_
  refine j_get C (v := .int (S 7)) 3 4 rfl rfl inlC1 (by decide) kf1_25 rfl dX1_passDawn_4 ?_
  refine j_v (nI np) (hG.people.trans e3i) ?_
  refine j_icmp_ge C 21 dX1_passDawn_7 (by decide) (fun c7 => ?_) (fun c7 => ?_)
  · rw [nI_leI (by omega) (by omega)] at c7
    have hin : i = np := by omega
    rw [hin] at hG hpk
    refine j_iconst C (v := (nI 0)) dX1_passDawn_21 (by decide) ?_
    refine j_istore_n C [(1, .int (nI 0)), (0, .ref (q 3))] dX1_passDawn_22 (by decide) rfl ?_
    refine j_L [1, 0] [(0, .ref (q 3)), (1, .int (nI 0))] rfl ?_
    refine j_loop (X := Nat × (Nat → Nat → Int32)) (fun (z : Nat × (Nat → Nat → Int32)) => match z with | (i, Y) => i ≤ np ∧ CF S Y 0 (itN (fun p r => goF r p) i (pksF np w row np)) w nc np ∧ FrX 0 Y X ∧ ∀ j, j < np → Y 45 j = pickV (pksF np w row j) np (w j) j) (fun (z : Nat × (Nat → Nat → Int32)) => match z with | (i, Y) => np - i) (fun (z : Nat × (Nat → Nat → Int32)) => match z with | (i, Y) => (S, Y, P)) (fun (z : Nat × (Nat → Nat → Int32)) => match z with | (i, Y) => [(0, .ref (q 3)), (1, .int (nI i))]) (0, Y) (⟨Nat.zero_le _, hG, hX, hpk⟩) rfl rfl ?_
    rintro ⟨i, Y⟩ ⟨hi, hG, hX, hpk⟩ ih
    try dsimp only at ih ⊢
    have hIF := go_IF (pks_IF w hI np (Nat.le_refl _)) i hi
    have e3i := hIF.1.2.1.1
    refine j_iload_n C 1 dX1_passDawn_23 rfl ?_
    refine j_aload_n C 0 dX1_passDawn_24 rfl ?_
    refine j_get C (v := .int (S 7)) 3 4 rfl rfl inlC1 (by decide) kf1_25 rfl dX1_passDawn_25 ?_
    refine j_v (nI np) (hG.people.trans e3i) ?_
    refine j_icmp_ge C 42 dX1_passDawn_28 (by decide) (fun c28 => ?_) (fun c28 => ?_)
    · rw [nI_leI (by omega) (by omega)] at c28
      have hin : i = np := by omega
      rw [hin] at hG
      refine j_iconst C (v := (nI 0)) dX1_passDawn_42 (by decide) ?_
      refine j_istore_n C [(1, .int (nI 0)), (0, .ref (q 3))] dX1_passDawn_43 (by decide) rfl ?_
      refine j_L [1, 0] [(0, .ref (q 3)), (1, .int (nI 0))] rfl ?_
      refine j_loop (X := Nat × (Nat → Nat → Int32)) (fun (z : Nat × (Nat → Nat → Int32)) => match z with | (i, Y) => i ≤ np ∧ CF S Y 0 (itN (fun p r => etF r p) i (itN (fun p r => goF r p) np (pksF np w row np))) w nc np ∧ FrX 0 Y X ∧ ∀ j, j < np → Y 45 j = pickV (pksF np w row j) np (w j) j) (fun (z : Nat × (Nat → Nat → Int32)) => match z with | (i, Y) => np - i) (fun (z : Nat × (Nat → Nat → Int32)) => match z with | (i, Y) => (S, Y, P)) (fun (z : Nat × (Nat → Nat → Int32)) => match z with | (i, Y) => [(0, .ref (q 3)), (1, .int (nI i))]) (0, Y) (⟨Nat.zero_le _, hG, hX, hpk⟩) rfl rfl ?_
      rintro ⟨i, Y⟩ ⟨hi, hG, hX, hpk⟩ ih
      try dsimp only at ih ⊢
      have hIF := et_IF (go_IF (pks_IF w hI np (Nat.le_refl _)) np (Nat.le_refl _)) i hi
      have e3i := hIF.1.2.1.1
      refine j_iload_n C 1 dX1_passDawn_44 rfl ?_
      refine j_aload_n C 0 dX1_passDawn_45 rfl ?_
      refine j_get C (v := .int (S 7)) 3 4 rfl rfl inlC1 (by decide) kf1_25 rfl dX1_passDawn_46 ?_
      refine j_v (nI np) (hG.people.trans e3i) ?_
      refine j_icmp_ge C 63 dX1_passDawn_49 (by decide) (fun c49 => ?_) (fun c49 => ?_)
      · rw [nI_leI (by omega) (by omega)] at c49
        have hin : i = np := by omega
        rw [hin] at hG
        refine j_aload_n C 0 dX1_passDawn_63 rfl ?_
        refine j_dup C dX1_passDawn_64 rfl ?_
        refine j_get C (v := .int (S 6)) 3 3 rfl rfl inlC1 (by decide) kf1_22 rfl dX1_passDawn_65 ?_
        refine j_iconst C (v := (nI 1)) dX1_passDawn_68 (by decide) ?_
        refine j_iadd C dX1_passDawn_69 ?_
        refine j_put C 3 3 rfl rfl inlC1 tyX1 tyX1_ok nmX1 (by decide) kf1_22 rfl (ty := .int) (by decide +kernel) rfl rfl (Nat.le_of_ble_eq_true rfl) dX1_passDawn_70 (upd S 6 ((S 6) + (nI 1)), Y, P) rfl ?_
        refine j_vret C dX1_passDawn_73 ?_
        exact ⟨_, _, rfl, hG.dw, fun k hk => pk_un hk, hX, hpk⟩
      · rw [nI_leI (by omega) (by omega)] at c49
        refine j_aload_n C 0 dX1_passDawn_52 rfl ?_
        refine j_iload_n C 1 dX1_passDawn_53 rfl ?_
        refine j_callVv (As := [.int (nI i)]) (rest := []) C vw1_114 (h_eat_0 hG hIF.1 i (by omega)) ⟨3, 1, _, _, rfl, rfl, rfl⟩ rfl (Nat.le_of_ble_eq_true rfl) dX1_passDawn_54 (by decide) ?_
        rintro _ ⟨Y1, rfl, hG1, hX1, hk1⟩
        refine j_iinc C (v := (nI (i + 1))) 1 [(1, .int (nI (i + 1))), (0, .ref (q 3))] dX1_passDawn_57 rfl (nI_1 _) (by decide) rfl ?_
        refine j_goto C 44 dX1_passDawn_60 (by decide) ?_
        refine j_L [1, 0] [(0, .ref (q 3)), (1, .int (nI (i + 1)))] rfl ?_
        exact ih (i + 1, Y1) (⟨by dsimp only; omega, hG1, hX1.tr hX, fun j hj => by dsimp only; rw [hk1]; exact hpk j hj⟩) (by dsimp only; omega)
    · rw [nI_leI (by omega) (by omega)] at c28
      refine j_aload_n C 0 dX1_passDawn_31 rfl ?_
      refine j_iload_n C 1 dX1_passDawn_32 rfl ?_
      refine j_callVv (As := [.int (nI i)]) (rest := []) C vw1_111 (h_walk_0 hG hIF.1 i (by omega)) ⟨3, 1, _, _, rfl, rfl, rfl⟩ rfl (Nat.le_of_ble_eq_true rfl) dX1_passDawn_33 (by decide) ?_
      rintro _ ⟨Y1, rfl, hG1, hX1, hk1⟩
      refine j_iinc C (v := (nI (i + 1))) 1 [(1, .int (nI (i + 1))), (0, .ref (q 3))] dX1_passDawn_36 rfl (nI_1 _) (by decide) rfl ?_
      refine j_goto C 23 dX1_passDawn_39 (by decide) ?_
      refine j_L [1, 0] [(0, .ref (q 3)), (1, .int (nI (i + 1)))] rfl ?_
      exact ih (i + 1, Y1) (⟨by dsimp only; omega, hG1, hX1.tr hX, fun j hj => by dsimp only; rw [hk1]; exact hpk j hj⟩) (by dsimp only; omega)
  · rw [nI_leI (by omega) (by omega)] at c7
    refine j_aload_n C 0 dX1_passDawn_10 rfl ?_
    refine j_iload_n C 1 dX1_passDawn_11 rfl ?_
    refine j_callVv (As := [.int (nI i)]) (rest := []) C vw1_108 (h_pick_0 hG hIF.1 i (by omega) (hL0.fr (by omega) (by omega) (by omega) hX hIF.2) (hL1.fr (by omega) (by omega) (by omega) hX hIF.2)) ⟨3, 1, _, _, rfl, rfl, rfl⟩ rfl (Nat.le_of_ble_eq_true rfl) dX1_passDawn_12 (by decide) ?_
    rintro _ ⟨Y1, rfl, hG1, hX1, hk1⟩
    refine j_iinc C (v := (nI (i + 1))) 1 [(1, .int (nI (i + 1))), (0, .ref (q 3))] dX1_passDawn_15 rfl (nI_1 _) (by decide) rfl ?_
    refine j_goto C 2 dX1_passDawn_18 (by decide) ?_
    refine j_L [1, 0] [(0, .ref (q 3)), (1, .int (nI (i + 1)))] rfl ?_
    exact ih (i + 1, Y1) (⟨by dsimp only; omega, hG1, hX1.tr hX, fun j hj => by
      dsimp only at hj ⊢
      rw [hk1]
      by_cases e : j = i
      · subst e; rw [pk_us]
      · rw [pk_un e]; exact hpk j (by omega)⟩) (by dsimp only; omega)
set_option maxHeartbeats 2000000 in
set_option maxRecDepth 20000 in
theorem h_eat_2 {l : Launch} {D : va_G} {cI cG cW : ClassId} {q : Nat → Nat} {S : Nat → Int32} {X : Nat → Nat → Int32} {P : Nat → Nat} {row w : Nat → Int32} {nc np : Nat} (hF : CF S X 2 row w nc np) {nw : Nat} (hI : Iv row nc np nw) (p : Nat) (hp : p < np) : Cv l yX1_eat cX1_eat 3 none 4 D (tyL cI cG cW) (wC cI cG cW q) [.ref (q 5), .int (nI p)] (S, X, P) (fun τ => ∃ X', τ = (S, X', P) ∧ CF S X' 2 (etF row p) w nc np ∧ FrX 2 X' X ∧ X' 65 = X 65) := by
  refine Cv.of (by decide) (Nat.le_of_ble_eq_true rfl) ?_
  intro p_ e_ s_ m_ b_ M_ c_ A_ C
  replace C : Cx _ _ _ _ _ _ _ _ RX1 _ _ _ _ := C
  refine j_L [0, 1] [(0, .ref (q 5)), (1, .int (nI p))] rfl ?_
  obtain ⟨⟨e2, hc2, hc10⟩, ⟨e3, hn6⟩, -, hP, -, -, -, -⟩ := id hI
  obtain ⟨⟨k, hk, ek⟩, -, -, -, ⟨b, hb, eb⟩, ⟨hh, hhh, eh⟩⟩ := hP p hp
  obtain ⟨t, ht, et⟩ := eatF_nI hI hp
  refine j_aload_n C 0 dX1_eat_0 rfl ?_
  refine j_iload_n C 1 dX1_eat_1 rfl ?_
  refine j_callV (As := [.int (nI p)]) (rest := []) C vw1_120 (h_eatsOf_2 hF hn6 p hp hk ek) ⟨5, 1, _, _, rfl, rfl, rfl⟩ rfl (Nat.le_of_ble_eq_true rfl) dX1_eat_2 (by decide) ?_
  rintro _ _ ⟨rfl, rfl⟩
  refine j_v (nI t) et ?_
  refine j_istore_n C [(2, .int (nI t)), (0, .ref (q 5)), (1, .int (nI p))] dX1_eat_5 (by decide) rfl ?_
  refine j_aload_n C 1 dX1_eat_6 rfl ?_
  refine j_get C (v := .ref (q 62)) 5 9 rfl rfl inlC1 (by decide) kf1_40 rfl dX1_eat_7 ?_
  refine j_iload_n C 2 dX1_eat_10 rfl ?_
  refine j_ialdN C 62 0 rfl rfl p rfl (by omega) (by decide) dX1_eat_11 ?_
  refine j_v (nI b) ((hF.per 4 (by omega) p (by omega)).trans eb) ?_
  refine j_iload_n C 0 dX1_eat_12 rfl ?_
  refine j_icmp_ge C 38 dX1_eat_13 (by decide) (fun c13 => ?_) (fun c13 => ?_)
  · rw [nI_leI (by omega) (by omega)] at c13
    refine j_aload_n C 1 dX1_eat_38 rfl ?_
    refine j_get C (v := .ref (q 62)) 5 9 rfl rfl inlC1 (by decide) kf1_40 rfl dX1_eat_39 ?_
    refine j_iload_n C 2 dX1_eat_42 rfl ?_
    refine j_iconst C (v := (nI 0)) dX1_eat_43 (by decide) ?_
    refine j_aload_n C 1 dX1_eat_44 rfl ?_
    refine j_get C (v := .ref (q 62)) 5 9 rfl rfl inlC1 (by decide) kf1_40 rfl dX1_eat_45 ?_
    refine j_iload_n C 2 dX1_eat_48 rfl ?_
    refine j_ialdN C 62 0 rfl rfl p rfl (by omega) (by decide) dX1_eat_49 ?_
    refine j_v (nI b) ((hF.per 4 (by omega) p (by omega)).trans eb) ?_
    refine j_iload_n C 0 dX1_eat_50 rfl ?_
    refine j_isub C dX1_eat_51 ?_
    refine j_mmax (rest := [.int (nI p), .ref (q 62)]) C mx1_73 (by decide) (Nat.le_of_ble_eq_true rfl) dX1_eat_52 ?_
    refine j_v (nI (b - t)) (max_sub (by omega) (by omega)) ?_
    refine j_iastN C 62 0 rfl rfl p rfl (by omega) (by decide) dX1_eat_55 (S, va_up X 62 (upd (X 62) p (nI (b - t))), P) rfl ?_
    refine j_vret C dX1_eat_56 ?_
    rw [etF_eq et eb eh ht hb hhh, if_neg (by omega)]
    exact ⟨_, rfl, hF.setP hc10 4 (by omega) p _, FrX.rf.up (by omega), va_n (by omega)⟩
  · rw [nI_leI (by omega) (by omega)] at c13
    refine j_aload_n C 1 dX1_eat_16 rfl ?_
    refine j_get C (v := .ref (q 63)) 5 10 rfl rfl inlC1 (by decide) kf1_43 rfl dX1_eat_17 ?_
    refine j_iload_n C 2 dX1_eat_20 rfl ?_
    refine j_ialdN C 63 0 rfl rfl p rfl (by omega) (by decide) dX1_eat_21 ?_
    refine j_v (nI hh) ((hF.per 5 (by omega) p (by omega)).trans eh) ?_
    refine j_sipush C (v := (nI 9999)) dX1_eat_22 (by decide) ?_
    refine j_icmp_ge C 38 dX1_eat_25 (by decide) (fun c25 => ?_) (fun c25 => ?_)
    · rw [nI_leI (by omega) (by omega)] at c25
      refine j_aload_n C 1 dX1_eat_38 rfl ?_
      refine j_get C (v := .ref (q 62)) 5 9 rfl rfl inlC1 (by decide) kf1_40 rfl dX1_eat_39 ?_
      refine j_iload_n C 2 dX1_eat_42 rfl ?_
      refine j_iconst C (v := (nI 0)) dX1_eat_43 (by decide) ?_
      refine j_aload_n C 1 dX1_eat_44 rfl ?_
      refine j_get C (v := .ref (q 62)) 5 9 rfl rfl inlC1 (by decide) kf1_40 rfl dX1_eat_45 ?_
      refine j_iload_n C 2 dX1_eat_48 rfl ?_
      refine j_ialdN C 62 0 rfl rfl p rfl (by omega) (by decide) dX1_eat_49 ?_
      refine j_v (nI b) ((hF.per 4 (by omega) p (by omega)).trans eb) ?_
      refine j_iload_n C 0 dX1_eat_50 rfl ?_
      refine j_isub C dX1_eat_51 ?_
      refine j_mmax (rest := [.int (nI p), .ref (q 62)]) C mx1_73 (by decide) (Nat.le_of_ble_eq_true rfl) dX1_eat_52 ?_
      refine j_v (nI (b - t)) (max_sub (by omega) (by omega)) ?_
      refine j_iastN C 62 0 rfl rfl p rfl (by omega) (by decide) dX1_eat_55 (S, va_up X 62 (upd (X 62) p (nI (b - t))), P) rfl ?_
      refine j_vret C dX1_eat_56 ?_
      rw [etF_eq et eb eh ht hb hhh, if_neg (by omega)]
      exact ⟨_, rfl, hF.setP hc10 4 (by omega) p _, FrX.rf.up (by omega), va_n (by omega)⟩
    · rw [nI_leI (by omega) (by omega)] at c25
      refine j_aload_n C 1 dX1_eat_28 rfl ?_
      refine j_get C (v := .ref (q 63)) 5 10 rfl rfl inlC1 (by decide) kf1_43 rfl dX1_eat_29 ?_
      refine j_iload_n C 2 dX1_eat_32 rfl ?_
      refine j_dup2 C dX1_eat_33 rfl rfl ?_
      refine j_ialdN C 63 0 rfl rfl p rfl (by omega) (by decide) dX1_eat_34 ?_
      refine j_v (nI hh) ((hF.per 5 (by omega) p (by omega)).trans eh) ?_
      refine j_iconst C (v := (nI 1)) dX1_eat_35 (by decide) ?_
      refine j_iaddN C dX1_eat_36 ?_
      refine j_iastN C 63 0 rfl rfl p rfl (by omega) (by decide) dX1_eat_37 (S, va_up X 63 (upd (X 63) p (nI (hh + 1))), P) rfl ?_
      refine j_aload_n C 1 dX1_eat_38 rfl ?_
      refine j_get C (v := .ref (q 62)) 5 9 rfl rfl inlC1 (by decide) kf1_40 rfl dX1_eat_39 ?_
      refine j_iload_n C 2 dX1_eat_42 rfl ?_
      refine j_iconst C (v := (nI 0)) dX1_eat_43 (by decide) ?_
      refine j_aload_n C 1 dX1_eat_44 rfl ?_
      refine j_get C (v := .ref (q 62)) 5 9 rfl rfl inlC1 (by decide) kf1_40 rfl dX1_eat_45 ?_
      refine j_iload_n C 2 dX1_eat_48 rfl ?_
      refine j_ialdN C 62 0 rfl rfl p rfl (by omega) (by decide) dX1_eat_49 ?_
      refine j_v (nI b) ((hF.per 4 (by omega) p (by omega)).trans eb) ?_
      refine j_iload_n C 0 dX1_eat_50 rfl ?_
      refine j_isub C dX1_eat_51 ?_
      refine j_mmax (rest := [.int (nI p), .ref (q 62)]) C mx1_73 (by decide) (Nat.le_of_ble_eq_true rfl) dX1_eat_52 ?_
      refine j_v (nI (b - t)) (max_sub (by omega) (by omega)) ?_
      refine j_iastN C 62 0 rfl rfl p rfl (by omega) (by decide) dX1_eat_55 (S, va_up (va_up X 62 (upd (X 62) p (nI (b - t)))) 63 (upd (X 63) p (nI (hh + 1))), P) rfl ?_
      refine j_vret C dX1_eat_56 ?_
      rw [etF_eq et eb eh ht hb hhh, if_pos (by omega)]
      exact ⟨_, rfl, (hF.setP hc10 4 (by omega) p _).setP hc10 5 (by omega) p _, (FrX.rf.up (by omega)).up (by omega), (va_n (by omega)).trans (va_n (by omega))⟩
set_option maxHeartbeats 2000000 in
set_option maxRecDepth 20000 in
theorem h_pass_2 {l : Launch} {D : va_G} {cI cG cW : ClassId} {q : Nat → Nat} {S : Nat → Int32} {X : Nat → Nat → Int32} {P : Nat → Nat} {row w : Nat → Int32} {nc np : Nat} (hF : CF S X 2 row w nc np) {nw : Nat} (hI : Iv row nc np nw) (hL0 : CLaw S X 0 row 0) (hL1 : CLaw S X 1 row 1) : Cv l yX1_passDawn cX1_passDawn 2 none 7 D (tyL cI cG cW) (wC cI cG cW q) [.ref (q 5)] (S, X, P) (fun τ => ∃ S' X', τ = (S', X', P) ∧ CF S' X' 2 (dawnF np w row) w nc np ∧ FrD 2 S' S ∧ FrX 2 X' X ∧ ∀ j, j < np → X' 65 j = pickV (pksF np w row j) np (w j) j) := by
  refine Cv.of (by decide) (Nat.le_of_ble_eq_true rfl) ?_
  intro p_ e_ s_ m_ b_ M_ c_ A_ C
  replace C : Cx _ _ _ _ _ _ _ _ RX1 _ _ _ _ := C
  refine j_L [0] [(0, .ref (q 5))] rfl ?_
  obtain ⟨-, ⟨e3, hn6⟩, -⟩ := id hI
  refine j_iconst C (v := (nI 0)) dX1_passDawn_0 (by decide) ?_
  refine j_istore_n C [(1, .int (nI 0)), (0, .ref (q 5))] dX1_passDawn_1 (by decide) rfl ?_
  refine j_L [1, 0] [(0, .ref (q 5)), (1, .int (nI 0))] rfl ?_
  refine j_loop (X := Nat × (Nat → Nat → Int32)) (fun (z : Nat × (Nat → Nat → Int32)) => match z with | (i, Y) => i ≤ np ∧ CF S Y 2 (pksF np w row i) w nc np ∧ FrX 2 Y X ∧ ∀ j, j < i → Y 65 j = pickV (pksF np w row j) np (w j) j) (fun (z : Nat × (Nat → Nat → Int32)) => match z with | (i, Y) => np - i) (fun (z : Nat × (Nat → Nat → Int32)) => match z with | (i, Y) => (S, Y, P)) (fun (z : Nat × (Nat → Nat → Int32)) => match z with | (i, Y) => [(0, .ref (q 5)), (1, .int (nI i))]) (0, X) (⟨Nat.zero_le _, hF, FrX.rf, fun j h => absurd h (Nat.not_lt_zero _)⟩) rfl rfl ?_
  rintro ⟨i, Y⟩ ⟨hi, hG, hX, hpk⟩ ih
  try dsimp only at ih ⊢
  have hIF := pks_IF w hI i hi
  have e3i := hIF.1.2.1.1
  refine j_iload_n C 1 dX1_passDawn_2 rfl ?_
  refine j_aload_n C 0 dX1_passDawn_3 rfl ?_
  refine j_get C (v := .int (S 13)) 5 4 rfl rfl inlC1 (by decide) kf1_25 rfl dX1_passDawn_4 ?_
  refine j_v (nI np) (hG.people.trans e3i) ?_
  refine j_icmp_ge C 21 dX1_passDawn_7 (by decide) (fun c7 => ?_) (fun c7 => ?_)
  · rw [nI_leI (by omega) (by omega)] at c7
    have hin : i = np := by omega
    rw [hin] at hG hpk
    refine j_iconst C (v := (nI 0)) dX1_passDawn_21 (by decide) ?_
    refine j_istore_n C [(1, .int (nI 0)), (0, .ref (q 5))] dX1_passDawn_22 (by decide) rfl ?_
    refine j_L [1, 0] [(0, .ref (q 5)), (1, .int (nI 0))] rfl ?_
    refine j_loop (X := Nat × (Nat → Nat → Int32)) (fun (z : Nat × (Nat → Nat → Int32)) => match z with | (i, Y) => i ≤ np ∧ CF S Y 2 (itN (fun p r => goF r p) i (pksF np w row np)) w nc np ∧ FrX 2 Y X ∧ ∀ j, j < np → Y 65 j = pickV (pksF np w row j) np (w j) j) (fun (z : Nat × (Nat → Nat → Int32)) => match z with | (i, Y) => np - i) (fun (z : Nat × (Nat → Nat → Int32)) => match z with | (i, Y) => (S, Y, P)) (fun (z : Nat × (Nat → Nat → Int32)) => match z with | (i, Y) => [(0, .ref (q 5)), (1, .int (nI i))]) (0, Y) (⟨Nat.zero_le _, hG, hX, hpk⟩) rfl rfl ?_
    rintro ⟨i, Y⟩ ⟨hi, hG, hX, hpk⟩ ih
    try dsimp only at ih ⊢
    have hIF := go_IF (pks_IF w hI np (Nat.le_refl _)) i hi
    have e3i := hIF.1.2.1.1
    refine j_iload_n C 1 dX1_passDawn_23 rfl ?_
    refine j_aload_n C 0 dX1_passDawn_24 rfl ?_
    refine j_get C (v := .int (S 13)) 5 4 rfl rfl inlC1 (by decide) kf1_25 rfl dX1_passDawn_25 ?_
    refine j_v (nI np) (hG.people.trans e3i) ?_
    refine j_icmp_ge C 42 dX1_passDawn_28 (by decide) (fun c28 => ?_) (fun c28 => ?_)
    · rw [nI_leI (by omega) (by omega)] at c28
      have hin : i = np := by omega
      rw [hin] at hG
      refine j_iconst C (v := (nI 0)) dX1_passDawn_42 (by decide) ?_
      refine j_istore_n C [(1, .int (nI 0)), (0, .ref (q 5))] dX1_passDawn_43 (by decide) rfl ?_
      refine j_L [1, 0] [(0, .ref (q 5)), (1, .int (nI 0))] rfl ?_
      refine j_loop (X := Nat × (Nat → Nat → Int32)) (fun (z : Nat × (Nat → Nat → Int32)) => match z with | (i, Y) => i ≤ np ∧ CF S Y 2 (itN (fun p r => etF r p) i (itN (fun p r => goF r p) np (pksF np w row np))) w nc np ∧ FrX 2 Y X ∧ ∀ j, j < np → Y 65 j = pickV (pksF np w row j) np (w j) j) (fun (z : Nat × (Nat → Nat → Int32)) => match z with | (i, Y) => np - i) (fun (z : Nat × (Nat → Nat → Int32)) => match z with | (i, Y) => (S, Y, P)) (fun (z : Nat × (Nat → Nat → Int32)) => match z with | (i, Y) => [(0, .ref (q 5)), (1, .int (nI i))]) (0, Y) (⟨Nat.zero_le _, hG, hX, hpk⟩) rfl rfl ?_
      rintro ⟨i, Y⟩ ⟨hi, hG, hX, hpk⟩ ih
      try dsimp only at ih ⊢
      have hIF := et_IF (go_IF (pks_IF w hI np (Nat.le_refl _)) np (Nat.le_refl _)) i hi
      have e3i := hIF.1.2.1.1
      refine j_iload_n C 1 dX1_passDawn_44 rfl ?_
      refine j_aload_n C 0 dX1_passDawn_45 rfl ?_
      refine j_get C (v := .int (S 13)) 5 4 rfl rfl inlC1 (by decide) kf1_25 rfl dX1_passDawn_46 ?_
      refine j_v (nI np) (hG.people.trans e3i) ?_
      refine j_icmp_ge C 63 dX1_passDawn_49 (by decide) (fun c49 => ?_) (fun c49 => ?_)
      · rw [nI_leI (by omega) (by omega)] at c49
        have hin : i = np := by omega
        rw [hin] at hG
        refine j_aload_n C 0 dX1_passDawn_63 rfl ?_
        refine j_dup C dX1_passDawn_64 rfl ?_
        refine j_get C (v := .int (S 12)) 5 3 rfl rfl inlC1 (by decide) kf1_22 rfl dX1_passDawn_65 ?_
        refine j_iconst C (v := (nI 1)) dX1_passDawn_68 (by decide) ?_
        refine j_iadd C dX1_passDawn_69 ?_
        refine j_put C 5 3 rfl rfl inlC1 tyX1 tyX1_ok nmX1 (by decide) kf1_22 rfl (ty := .int) (by decide +kernel) rfl rfl (Nat.le_of_ble_eq_true rfl) dX1_passDawn_70 (upd S 12 ((S 12) + (nI 1)), Y, P) rfl ?_
        refine j_vret C dX1_passDawn_73 ?_
        exact ⟨_, _, rfl, hG.dw, fun k hk => pk_un hk, hX, hpk⟩
      · rw [nI_leI (by omega) (by omega)] at c49
        refine j_aload_n C 0 dX1_passDawn_52 rfl ?_
        refine j_iload_n C 1 dX1_passDawn_53 rfl ?_
        refine j_callVv (As := [.int (nI i)]) (rest := []) C vw1_114 (h_eat_2 hG hIF.1 i (by omega)) ⟨5, 1, _, _, rfl, rfl, rfl⟩ rfl (Nat.le_of_ble_eq_true rfl) dX1_passDawn_54 (by decide) ?_
        rintro _ ⟨Y1, rfl, hG1, hX1, hk1⟩
        refine j_iinc C (v := (nI (i + 1))) 1 [(1, .int (nI (i + 1))), (0, .ref (q 5))] dX1_passDawn_57 rfl (nI_1 _) (by decide) rfl ?_
        refine j_goto C 44 dX1_passDawn_60 (by decide) ?_
        refine j_L [1, 0] [(0, .ref (q 5)), (1, .int (nI (i + 1)))] rfl ?_
        exact ih (i + 1, Y1) (⟨by dsimp only; omega, hG1, hX1.tr hX, fun j hj => by dsimp only; rw [hk1]; exact hpk j hj⟩) (by dsimp only; omega)
    · rw [nI_leI (by omega) (by omega)] at c28
      refine j_aload_n C 0 dX1_passDawn_31 rfl ?_
      refine j_iload_n C 1 dX1_passDawn_32 rfl ?_
      refine j_callVv (As := [.int (nI i)]) (rest := []) C vw1_111 (h_walk_2 hG hIF.1 i (by omega)) ⟨5, 1, _, _, rfl, rfl, rfl⟩ rfl (Nat.le_of_ble_eq_true rfl) dX1_passDawn_33 (by decide) ?_
      rintro _ ⟨Y1, rfl, hG1, hX1, hk1⟩
      refine j_iinc C (v := (nI (i + 1))) 1 [(1, .int (nI (i + 1))), (0, .ref (q 5))] dX1_passDawn_36 rfl (nI_1 _) (by decide) rfl ?_
      refine j_goto C 23 dX1_passDawn_39 (by decide) ?_
      refine j_L [1, 0] [(0, .ref (q 5)), (1, .int (nI (i + 1)))] rfl ?_
      exact ih (i + 1, Y1) (⟨by dsimp only; omega, hG1, hX1.tr hX, fun j hj => by dsimp only; rw [hk1]; exact hpk j hj⟩) (by dsimp only; omega)
  · rw [nI_leI (by omega) (by omega)] at c7
    refine j_aload_n C 0 dX1_passDawn_10 rfl ?_
    refine j_iload_n C 1 dX1_passDawn_11 rfl ?_
    refine j_callVv (As := [.int (nI i)]) (rest := []) C vw1_108 (h_pick_2 hG hIF.1 i (by omega) (hL0.fr (by omega) (by omega) (by omega) hX hIF.2) (hL1.fr (by omega) (by omega) (by omega) hX hIF.2)) ⟨5, 1, _, _, rfl, rfl, rfl⟩ rfl (Nat.le_of_ble_eq_true rfl) dX1_passDawn_12 (by decide) ?_
    rintro _ ⟨Y1, rfl, hG1, hX1, hk1⟩
    refine j_iinc C (v := (nI (i + 1))) 1 [(1, .int (nI (i + 1))), (0, .ref (q 5))] dX1_passDawn_15 rfl (nI_1 _) (by decide) rfl ?_
    refine j_goto C 2 dX1_passDawn_18 (by decide) ?_
    refine j_L [1, 0] [(0, .ref (q 5)), (1, .int (nI (i + 1)))] rfl ?_
    exact ih (i + 1, Y1) (⟨by dsimp only; omega, hG1, hX1.tr hX, fun j hj => by
      dsimp only at hj ⊢
      rw [hk1]
      by_cases e : j = i
      · subst e; rw [pk_us]
      · rw [pk_un e]; exact hpk j (by omega)⟩) (by dsimp only; omega)

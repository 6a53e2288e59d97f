/-! The reference: picking, walking, eating, dawns. -/
theorem dX12_picks_0 : decode cX12_picks 0 = .ok (.bipush 10, 2) := by decide +kernel
theorem dX12_picks_2 : decode cX12_picks 2 = .ok (.aload_n 0, 1) := by decide +kernel
theorem dX12_picks_3 : decode cX12_picks 3 = .ok (.iload_n 1, 1) := by decide +kernel
theorem dX12_picks_4 : decode cX12_picks 4 = .ok (.iconst 2, 1) := by decide +kernel
theorem dX12_picks_5 : decode cX12_picks 5 = .ok (.invokevirtual 69, 3) := by decide +kernel
theorem dX12_picks_8 : decode cX12_picks 8 = .ok (.iadd, 1) := by decide +kernel
theorem dX12_picks_9 : decode cX12_picks 9 = .ok (.istore_n 2, 1) := by decide +kernel
theorem dX12_picks_10 : decode cX12_picks 10 = .ok (.aload_n 0, 1) := by decide +kernel
theorem dX12_picks_11 : decode cX12_picks 11 = .ok (.iload_n 1, 1) := by decide +kernel
theorem dX12_picks_12 : decode cX12_picks 12 = .ok (.invokevirtual 86, 3) := by decide +kernel
theorem dX12_picks_15 : decode cX12_picks 15 = .ok (.istore_n 3, 1) := by decide +kernel
theorem dX12_picks_16 : decode cX12_picks 16 = .ok (.iload_n 3, 1) := by decide +kernel
theorem dX12_picks_17 : decode cX12_picks 17 = .ok (.aload_n 0, 1) := by decide +kernel
theorem dX12_picks_18 : decode cX12_picks 18 = .ok (.getfield 7, 3) := by decide +kernel
theorem dX12_picks_21 : decode cX12_picks 21 = .ok (.bipush 20, 2) := by decide +kernel
theorem dX12_picks_23 : decode cX12_picks 23 = .ok (.aload_n 0, 1) := by decide +kernel
theorem dX12_picks_24 : decode cX12_picks 24 = .ok (.iload_n 1, 1) := by decide +kernel
theorem dX12_picks_25 : decode cX12_picks 25 = .ok (.iconst 2, 1) := by decide +kernel
theorem dX12_picks_26 : decode cX12_picks 26 = .ok (.invokevirtual 69, 3) := by decide +kernel
theorem dX12_picks_29 : decode cX12_picks 29 = .ok (.iadd, 1) := by decide +kernel
theorem dX12_picks_30 : decode cX12_picks 30 = .ok (.iaload, 1) := by decide +kernel
theorem dX12_picks_31 : decode cX12_picks 31 = .ok (.if_icmp .lt 24, 3) := by decide +kernel
theorem dX12_picks_34 : decode cX12_picks 34 = .ok (.aload_n 0, 1) := by decide +kernel
theorem dX12_picks_35 : decode cX12_picks 35 = .ok (.iconst 1, 1) := by decide +kernel
theorem dX12_picks_36 : decode cX12_picks 36 = .ok (.iload_n 3, 1) := by decide +kernel
theorem dX12_picks_37 : decode cX12_picks 37 = .ok (.aload_n 0, 1) := by decide +kernel
theorem dX12_picks_38 : decode cX12_picks 38 = .ok (.getfield 7, 3) := by decide +kernel
theorem dX12_picks_41 : decode cX12_picks 41 = .ok (.iload_n 2, 1) := by decide +kernel
theorem dX12_picks_42 : decode cX12_picks 42 = .ok (.iaload, 1) := by decide +kernel
theorem dX12_picks_43 : decode cX12_picks 43 = .ok (.aload_n 0, 1) := by decide +kernel
theorem dX12_picks_44 : decode cX12_picks 44 = .ok (.iload_n 1, 1) := by decide +kernel
theorem dX12_picks_45 : decode cX12_picks 45 = .ok (.iconst 1, 1) := by decide +kernel
theorem dX12_picks_46 : decode cX12_picks 46 = .ok (.invokevirtual 69, 3) := by decide +kernel
theorem dX12_picks_49 : decode cX12_picks 49 = .ok (.invokevirtual 166, 3) := by decide +kernel
theorem dX12_picks_52 : decode cX12_picks 52 = .ok (.goto 4, 3) := by decide +kernel
theorem dX12_picks_55 : decode cX12_picks 55 = .ok (.iconst 0, 1) := by decide +kernel
theorem dX12_picks_56 : decode cX12_picks 56 = .ok (.istore 4, 2) := by decide +kernel
theorem dX12_picks_58 : decode cX12_picks 58 = .ok (.aload_n 0, 1) := by decide +kernel
theorem dX12_picks_59 : decode cX12_picks 59 = .ok (.getfield 32, 3) := by decide +kernel
theorem dX12_picks_62 : decode cX12_picks 62 = .ok (.iload_n 1, 1) := by decide +kernel
theorem dX12_picks_63 : decode cX12_picks 63 = .ok (.iload 4, 2) := by decide +kernel
theorem dX12_picks_65 : decode cX12_picks 65 = .ok (.aload_n 0, 1) := by decide +kernel
theorem dX12_picks_66 : decode cX12_picks 66 = .ok (.getfield 7, 3) := by decide +kernel
theorem dX12_picks_69 : decode cX12_picks 69 = .ok (.iload_n 2, 1) := by decide +kernel
theorem dX12_picks_70 : decode cX12_picks 70 = .ok (.iaload, 1) := by decide +kernel
theorem dX12_picks_71 : decode cX12_picks 71 = .ok (.if_icmp .le 12, 3) := by decide +kernel
theorem dX12_picks_74 : decode cX12_picks 74 = .ok (.aload_n 0, 1) := by decide +kernel
theorem dX12_picks_75 : decode cX12_picks 75 = .ok (.getfield 7, 3) := by decide +kernel
theorem dX12_picks_78 : decode cX12_picks 78 = .ok (.iload_n 2, 1) := by decide +kernel
theorem dX12_picks_79 : decode cX12_picks 79 = .ok (.iaload, 1) := by decide +kernel
theorem dX12_picks_80 : decode cX12_picks 80 = .ok (.goto 5, 3) := by decide +kernel
theorem dX12_picks_83 : decode cX12_picks 83 = .ok (.iload 4, 2) := by decide +kernel
theorem dX12_picks_85 : decode cX12_picks 85 = .ok (.iastore, 1) := by decide +kernel
theorem dX12_picks_86 : decode cX12_picks 86 = .ok (.aload_n 0, 1) := by decide +kernel
theorem dX12_picks_87 : decode cX12_picks 87 = .ok (.getfield 7, 3) := by decide +kernel
theorem dX12_picks_90 : decode cX12_picks 90 = .ok (.iload_n 2, 1) := by decide +kernel
theorem dX12_picks_91 : decode cX12_picks 91 = .ok (.dup2, 1) := by decide +kernel
theorem dX12_picks_92 : decode cX12_picks 92 = .ok (.iaload, 1) := by decide +kernel
theorem dX12_picks_93 : decode cX12_picks 93 = .ok (.aload_n 0, 1) := by decide +kernel
theorem dX12_picks_94 : decode cX12_picks 94 = .ok (.getfield 32, 3) := by decide +kernel
theorem dX12_picks_97 : decode cX12_picks 97 = .ok (.iload_n 1, 1) := by decide +kernel
theorem dX12_picks_98 : decode cX12_picks 98 = .ok (.iaload, 1) := by decide +kernel
theorem dX12_picks_99 : decode cX12_picks 99 = .ok (.isub, 1) := by decide +kernel
theorem dX12_picks_100 : decode cX12_picks 100 = .ok (.iastore, 1) := by decide +kernel
theorem dX12_picks_101 : decode cX12_picks 101 = .ok (.aload_n 0, 1) := by decide +kernel
theorem dX12_picks_102 : decode cX12_picks 102 = .ok (.iload_n 1, 1) := by decide +kernel
theorem dX12_picks_103 : decode cX12_picks 103 = .ok (.iconst 4, 1) := by decide +kernel
theorem dX12_picks_104 : decode cX12_picks 104 = .ok (.aload_n 0, 1) := by decide +kernel
theorem dX12_picks_105 : decode cX12_picks 105 = .ok (.iload_n 1, 1) := by decide +kernel
theorem dX12_picks_106 : decode cX12_picks 106 = .ok (.iconst 4, 1) := by decide +kernel
theorem dX12_picks_107 : decode cX12_picks 107 = .ok (.invokevirtual 69, 3) := by decide +kernel
theorem dX12_picks_110 : decode cX12_picks 110 = .ok (.aload_n 0, 1) := by decide +kernel
theorem dX12_picks_111 : decode cX12_picks 111 = .ok (.getfield 32, 3) := by decide +kernel
theorem dX12_picks_114 : decode cX12_picks 114 = .ok (.iload_n 1, 1) := by decide +kernel
theorem dX12_picks_115 : decode cX12_picks 115 = .ok (.iaload, 1) := by decide +kernel
theorem dX12_picks_116 : decode cX12_picks 116 = .ok (.iadd, 1) := by decide +kernel
theorem dX12_picks_117 : decode cX12_picks 117 = .ok (.iconst 0, 1) := by decide +kernel
theorem dX12_picks_118 : decode cX12_picks 118 = .ok (.sipush 9999, 3) := by decide +kernel
theorem dX12_picks_121 : decode cX12_picks 121 = .ok (.invokestatic 162, 3) := by decide +kernel
theorem dX12_picks_124 : decode cX12_picks 124 = .ok (.invokevirtual 76, 3) := by decide +kernel
theorem dX12_picks_127 : decode cX12_picks 127 = .ok (.return_, 1) := by decide +kernel
set_option maxHeartbeats 2000000 in
set_option maxRecDepth 20000 in
theorem c_picks {l : Launch} {D : va_G} {cI cG cW : ClassId} {o : Nat} {q : Nat → Nat} {V row kept tried bf fd pk bo so sh mv tr : Nat → Int32} (p : Nat) {nc np nw : Nat} (hI : Iv row nc np nw) (hp : p < np) : Cv l yX12_picks cX12_picks 5 none 82 D (tyL cI cG cW) (wR cI o q) [.ref o, .int (nI p)] (sR V row kept tried bf fd pk bo so sh mv tr) (fun τ => ∃ V1, VE V1 V ∧ τ = sR V1 (pickF row np (wS V row nw p) p) kept tried bf fd (upd pk p (pickV row np (wS V row nw p) p)) bo so sh mv tr) := by
  refine Cv.of (by decide) (Nat.le_of_ble_eq_true rfl) ?_
  intro p_ e_ s_ m_ b_ M_ c_ A_ C
  replace C : Cx _ _ _ _ _ _ _ _ RX12 _ _ _ _ := C
  refine j_L [0, 1] [(0, .ref o), (1, .int (nI p))] rfl ?_
  obtain ⟨⟨e2, hc2, hc10⟩, ⟨e3, hn6⟩, ⟨e8, hw8⟩, hP, hE, hLo, hT0, hT1⟩ := id hI
  obtain ⟨⟨k, hk, ek⟩, ⟨mm, hm, em⟩, ⟨a, ha, ea⟩, hway, ⟨b, hb, eb⟩, ⟨h, hh, eh⟩⟩ := hP p hp
  refine j_bipush C (v := (nI 10)) dX12_picks_0 (by decide) ?_
  refine j_aload_n C 0 dX12_picks_2 rfl ?_
  refine j_iload_n C 1 dX12_picks_3 rfl ?_
  refine j_iconst C (v := (nI 2)) dX12_picks_4 (by decide) ?_
  refine j_callV (As := [.int (nI p), .int (nI 2)]) (rest := [.int (nI 10)]) C vw12_its (c_its p 2 (by omega)) rRcv rfl (Nat.le_of_ble_eq_true rfl) dX12_picks_5 (by decide) ?_
  rintro _ _ ⟨rfl, rfl⟩
  refine j_v (nI a) ea ?_
  refine j_iaddN C dX12_picks_8 ?_
  refine j_istore_n C [(2, .int (nI (10 + a))), (0, .ref o), (1, .int (nI p))] dX12_picks_9 (by decide) rfl ?_
  refine j_aload_n C 1 dX12_picks_10 rfl ?_
  refine j_iload_n C 2 dX12_picks_11 rfl ?_
  refine j_callV (As := [.int (nI p)]) (rest := []) C vw12_bends (c_bends p hI hp) rRcv rfl (Nat.le_of_ble_eq_true rfl) dX12_picks_12 (by decide) ?_
  rintro _ _ ⟨Vx1, hVx1, rfl, rfl⟩
  refine j_istore_n C [(3, .int (bendF row np (wS V row nw p) p)), (2, .int (nI (10 + a))), (0, .ref o), (1, .int (nI p))] dX12_picks_15 (by decide) rfl ?_
  refine j_iload_n C 0 dX12_picks_16 rfl ?_
  refine j_aload_n C 2 dX12_picks_17 rfl ?_
  refine rg C (v := .ref (q 0)) 0 (by decide) kf12_7 rfl dX12_picks_18 ?_
  refine j_bipush C (v := (nI 20)) dX12_picks_21 (by decide) ?_
  refine j_aload_n C 2 dX12_picks_23 rfl ?_
  refine j_iload_n C 3 dX12_picks_24 rfl ?_
  refine j_iconst C (v := (nI 2)) dX12_picks_25 (by decide) ?_
  refine j_callV (As := [.int (nI p), .int (nI 2)]) (rest := [.int (nI 20), .ref (q 0), .int (bendF row np (wS V row nw p) p)]) C vw12_its (c_its p 2 (by omega)) rRcv rfl (Nat.le_of_ble_eq_true rfl) dX12_picks_26 (by decide) ?_
  rintro _ _ ⟨rfl, rfl⟩
  refine j_v (nI a) ea ?_
  refine j_iaddN C dX12_picks_29 ?_
  refine rl_row C (20 + a) rfl (by omega) dX12_picks_30 ?_
  refine j_icmp_lt C 55 dX12_picks_31 (by decide) (fun c31 => ?_) (fun c31 => ?_)
  · skip
    refine j_iconst C (v := (nI 0)) dX12_picks_55 (by decide) ?_
    refine j_istore C [(4, .int (nI 0)), (3, .int (bendF row np (wS V row nw p) p)), (2, .int (nI (10 + a))), (0, .ref o), (1, .int (nI p))] dX12_picks_56 (by decide) rfl ?_
    refine j_aload_n C 3 dX12_picks_58 rfl ?_
    refine rg C (v := .ref (q 20)) 20 (by decide) kf12_32 rfl dX12_picks_59 ?_
    refine j_iload_n C 4 dX12_picks_62 rfl ?_
    refine j_iload C 0 dX12_picks_63 rfl ?_
    refine j_aload_n C 3 dX12_picks_65 rfl ?_
    refine rg C (v := .ref (q 0)) 0 (by decide) kf12_7 rfl dX12_picks_66 ?_
    refine j_iload_n C 2 dX12_picks_69 rfl ?_
    refine rl_row C (10 + a) rfl (by omega) dX12_picks_70 ?_
    refine j_icmp_le C 83 dX12_picks_71 (by decide) (fun c71 => ?_) (fun c71 => ?_)
    · skip
      refine j_iload C 0 dX12_picks_83 rfl ?_
      refine rs_pk C p rfl (by omega) dX12_picks_85 ?_
      refine j_aload_n C 3 dX12_picks_86 rfl ?_
      refine rg C (v := .ref (q 0)) 0 (by decide) kf12_7 rfl dX12_picks_87 ?_
      refine j_iload_n C 2 dX12_picks_90 rfl ?_
      refine j_dup2 C dX12_picks_91 rfl rfl ?_
      refine rl_row C (10 + a) rfl (by omega) dX12_picks_92 ?_
      refine j_aload_n C 3 dX12_picks_93 rfl ?_
      refine rg C (v := .ref (q 20)) 20 (by decide) kf12_32 rfl dX12_picks_94 ?_
      refine j_iload_n C 4 dX12_picks_97 rfl ?_
      refine rl_pk C p rfl (by omega) dX12_picks_98 ?_
      refine j_v (nI 0) (by rw [pk_us]) ?_
      refine j_isub C dX12_picks_99 ?_
      refine rs_row C (10 + a) rfl (by omega) dX12_picks_100 ?_
      refine j_aload_n C 3 dX12_picks_101 rfl ?_
      refine j_iload_n C 4 dX12_picks_102 rfl ?_
      refine j_iconst C (v := (nI 4)) dX12_picks_103 (by decide) ?_
      refine j_aload_n C 3 dX12_picks_104 rfl ?_
      refine j_iload_n C 4 dX12_picks_105 rfl ?_
      refine j_iconst C (v := (nI 4)) dX12_picks_106 (by decide) ?_
      refine j_callV (As := [.int (nI p), .int (nI 4)]) (rest := [.int (nI 4), .int (nI p), .ref o]) C vw12_its (c_its p 4 (by omega)) rRcv rfl (Nat.le_of_ble_eq_true rfl) dX12_picks_107 (by decide) ?_
      rintro _ _ ⟨rfl, rfl⟩
      refine j_v (row (30 + 6 * p + 4)) (by rw [pk_un (by omega)]) ?_
      refine j_aload_n C 3 dX12_picks_110 rfl ?_
      refine rg C (v := .ref (q 20)) 20 (by decide) kf12_32 rfl dX12_picks_111 ?_
      refine j_iload_n C 4 dX12_picks_114 rfl ?_
      refine rl_pk C p rfl (by omega) dX12_picks_115 ?_
      refine j_v (nI 0) (by rw [pk_us]) ?_
      refine j_iadd C dX12_picks_116 ?_
      refine j_iconst C (v := (nI 0)) dX12_picks_117 (by decide) ?_
      refine j_sipush C (v := (nI 9999)) dX12_picks_118 (by decide) ?_
      refine j_callS (As := [.int ((row (30 + 6 * p + 4)) + (nI 0)), .int (nI 0), .int (nI 9999)]) (rest := [.int (nI 4), .int (nI p), .ref o]) C vw12_held (c_held) rfl (Nat.le_of_ble_eq_true rfl) dX12_picks_121 (by decide) ?_
      rintro _ _ ⟨rfl, rfl⟩
      refine j_callVv (As := [.int (nI p), .int (nI 4), .int (hld ((row (30 + 6 * p + 4)) + (nI 0)) (nI 0) (nI 9999))]) (rest := []) C vw12_gets (c_gets p 4 (by omega)) rRcv rfl (Nat.le_of_ble_eq_true rfl) dX12_picks_124 (by decide) ?_
      rintro _ rfl
      refine j_vret C dX12_picks_127 ?_
      have hv := pickV_eq (np := np) (w := wS V row nw p) ea (by omega)
      rw [if_neg (ltn c31), if_neg (lnl c71)] at hv
      exact ⟨_, hVx1, by rw [pickF_eq ea (by omega), hv]⟩
    · skip
      refine j_aload_n C 3 dX12_picks_74 rfl ?_
      refine rg C (v := .ref (q 0)) 0 (by decide) kf12_7 rfl dX12_picks_75 ?_
      refine j_iload_n C 2 dX12_picks_78 rfl ?_
      refine rl_row C (10 + a) rfl (by omega) dX12_picks_79 ?_
      refine j_goto C 85 dX12_picks_80 (by decide) ?_
      refine rs_pk C p rfl (by omega) dX12_picks_85 ?_
      refine j_aload_n C 3 dX12_picks_86 rfl ?_
      refine rg C (v := .ref (q 0)) 0 (by decide) kf12_7 rfl dX12_picks_87 ?_
      refine j_iload_n C 2 dX12_picks_90 rfl ?_
      refine j_dup2 C dX12_picks_91 rfl rfl ?_
      refine rl_row C (10 + a) rfl (by omega) dX12_picks_92 ?_
      refine j_aload_n C 3 dX12_picks_93 rfl ?_
      refine rg C (v := .ref (q 20)) 20 (by decide) kf12_32 rfl dX12_picks_94 ?_
      refine j_iload_n C 4 dX12_picks_97 rfl ?_
      refine rl_pk C p rfl (by omega) dX12_picks_98 ?_
      refine j_v (row (10 + a)) (by rw [pk_us]) ?_
      refine j_isub C dX12_picks_99 ?_
      refine rs_row C (10 + a) rfl (by omega) dX12_picks_100 ?_
      refine j_aload_n C 3 dX12_picks_101 rfl ?_
      refine j_iload_n C 4 dX12_picks_102 rfl ?_
      refine j_iconst C (v := (nI 4)) dX12_picks_103 (by decide) ?_
      refine j_aload_n C 3 dX12_picks_104 rfl ?_
      refine j_iload_n C 4 dX12_picks_105 rfl ?_
      refine j_iconst C (v := (nI 4)) dX12_picks_106 (by decide) ?_
      refine j_callV (As := [.int (nI p), .int (nI 4)]) (rest := [.int (nI 4), .int (nI p), .ref o]) C vw12_its (c_its p 4 (by omega)) rRcv rfl (Nat.le_of_ble_eq_true rfl) dX12_picks_107 (by decide) ?_
      rintro _ _ ⟨rfl, rfl⟩
      refine j_v (row (30 + 6 * p + 4)) (by rw [pk_un (by omega)]) ?_
      refine j_aload_n C 3 dX12_picks_110 rfl ?_
      refine rg C (v := .ref (q 20)) 20 (by decide) kf12_32 rfl dX12_picks_111 ?_
      refine j_iload_n C 4 dX12_picks_114 rfl ?_
      refine rl_pk C p rfl (by omega) dX12_picks_115 ?_
      refine j_v (row (10 + a)) (by rw [pk_us]) ?_
      refine j_iadd C dX12_picks_116 ?_
      refine j_iconst C (v := (nI 0)) dX12_picks_117 (by decide) ?_
      refine j_sipush C (v := (nI 9999)) dX12_picks_118 (by decide) ?_
      refine j_callS (As := [.int ((row (30 + 6 * p + 4)) + (row (10 + a))), .int (nI 0), .int (nI 9999)]) (rest := [.int (nI 4), .int (nI p), .ref o]) C vw12_held (c_held) rfl (Nat.le_of_ble_eq_true rfl) dX12_picks_121 (by decide) ?_
      rintro _ _ ⟨rfl, rfl⟩
      refine j_callVv (As := [.int (nI p), .int (nI 4), .int (hld ((row (30 + 6 * p + 4)) + (row (10 + a))) (nI 0) (nI 9999))]) (rest := []) C vw12_gets (c_gets p 4 (by omega)) rRcv rfl (Nat.le_of_ble_eq_true rfl) dX12_picks_124 (by decide) ?_
      rintro _ rfl
      refine j_vret C dX12_picks_127 ?_
      have hv := pickV_eq (np := np) (w := wS V row nw p) ea (by omega)
      rw [if_neg (ltn c31), if_pos (nle c71)] at hv
      exact ⟨_, hVx1, by rw [pickF_eq ea (by omega), hv]⟩
  · skip
    refine j_aload_n C 2 dX12_picks_34 rfl ?_
    refine j_iconst C (v := (nI 1)) dX12_picks_35 (by decide) ?_
    refine j_iload_n C 0 dX12_picks_36 rfl ?_
    refine j_aload_n C 2 dX12_picks_37 rfl ?_
    refine rg C (v := .ref (q 0)) 0 (by decide) kf12_7 rfl dX12_picks_38 ?_
    refine j_iload_n C 1 dX12_picks_41 rfl ?_
    refine rl_row C (10 + a) rfl (by omega) dX12_picks_42 ?_
    refine j_aload_n C 2 dX12_picks_43 rfl ?_
    refine j_iload_n C 3 dX12_picks_44 rfl ?_
    refine j_iconst C (v := (nI 1)) dX12_picks_45 (by decide) ?_
    refine j_callV (As := [.int (nI p), .int (nI 1)]) (rest := [.int (row (10 + a)), .int (bendF row np (wS V row nw p) p), .int (nI 1), .ref o]) C vw12_its (c_its p 1 (by omega)) rRcv rfl (Nat.le_of_ble_eq_true rfl) dX12_picks_46 (by decide) ?_
    rintro _ _ ⟨rfl, rfl⟩
    refine j_callV (As := [.int (nI 1), .int (bendF row np (wS V row nw p) p), .int (row (10 + a)), .int (row (30 + 6 * p + 1))]) (rest := []) C vw12_lawOf (c_lawOf 1 (by decide) hT1) rRcv rfl (Nat.le_of_ble_eq_true rfl) dX12_picks_49 (by decide) ?_
    rintro _ _ ⟨Vx2, hVx2, rfl, rfl⟩
    refine j_goto C 56 dX12_picks_52 (by decide) ?_
    refine j_istore C [(4, .int (lawF row 1 (bendF row np (wS V row nw p) p) (row (10 + a)) (row (30 + 6 * p + 1)))), (3, .int (bendF row np (wS V row nw p) p)), (2, .int (nI (10 + a))), (0, .ref o), (1, .int (nI p))] dX12_picks_56 (by decide) rfl ?_
    refine j_aload_n C 3 dX12_picks_58 rfl ?_
    refine rg C (v := .ref (q 20)) 20 (by decide) kf12_32 rfl dX12_picks_59 ?_
    refine j_iload_n C 4 dX12_picks_62 rfl ?_
    refine j_iload C 0 dX12_picks_63 rfl ?_
    refine j_aload_n C 3 dX12_picks_65 rfl ?_
    refine rg C (v := .ref (q 0)) 0 (by decide) kf12_7 rfl dX12_picks_66 ?_
    refine j_iload_n C 2 dX12_picks_69 rfl ?_
    refine rl_row C (10 + a) rfl (by omega) dX12_picks_70 ?_
    refine j_icmp_le C 83 dX12_picks_71 (by decide) (fun c71 => ?_) (fun c71 => ?_)
    · skip
      refine j_iload C 0 dX12_picks_83 rfl ?_
      refine rs_pk C p rfl (by omega) dX12_picks_85 ?_
      refine j_aload_n C 3 dX12_picks_86 rfl ?_
      refine rg C (v := .ref (q 0)) 0 (by decide) kf12_7 rfl dX12_picks_87 ?_
      refine j_iload_n C 2 dX12_picks_90 rfl ?_
      refine j_dup2 C dX12_picks_91 rfl rfl ?_
      refine rl_row C (10 + a) rfl (by omega) dX12_picks_92 ?_
      refine j_aload_n C 3 dX12_picks_93 rfl ?_
      refine rg C (v := .ref (q 20)) 20 (by decide) kf12_32 rfl dX12_picks_94 ?_
      refine j_iload_n C 4 dX12_picks_97 rfl ?_
      refine rl_pk C p rfl (by omega) dX12_picks_98 ?_
      refine j_v (lawF row 1 (bendF row np (wS V row nw p) p) (row (10 + a)) (row (30 + 6 * p + 1))) (by rw [pk_us]) ?_
      refine j_isub C dX12_picks_99 ?_
      refine rs_row C (10 + a) rfl (by omega) dX12_picks_100 ?_
      refine j_aload_n C 3 dX12_picks_101 rfl ?_
      refine j_iload_n C 4 dX12_picks_102 rfl ?_
      refine j_iconst C (v := (nI 4)) dX12_picks_103 (by decide) ?_
      refine j_aload_n C 3 dX12_picks_104 rfl ?_
      refine j_iload_n C 4 dX12_picks_105 rfl ?_
      refine j_iconst C (v := (nI 4)) dX12_picks_106 (by decide) ?_
      refine j_callV (As := [.int (nI p), .int (nI 4)]) (rest := [.int (nI 4), .int (nI p), .ref o]) C vw12_its (c_its p 4 (by omega)) rRcv rfl (Nat.le_of_ble_eq_true rfl) dX12_picks_107 (by decide) ?_
      rintro _ _ ⟨rfl, rfl⟩
      refine j_v (row (30 + 6 * p + 4)) (by rw [pk_un (by omega)]) ?_
      refine j_aload_n C 3 dX12_picks_110 rfl ?_
      refine rg C (v := .ref (q 20)) 20 (by decide) kf12_32 rfl dX12_picks_111 ?_
      refine j_iload_n C 4 dX12_picks_114 rfl ?_
      refine rl_pk C p rfl (by omega) dX12_picks_115 ?_
      refine j_v (lawF row 1 (bendF row np (wS V row nw p) p) (row (10 + a)) (row (30 + 6 * p + 1))) (by rw [pk_us]) ?_
      refine j_iadd C dX12_picks_116 ?_
      refine j_iconst C (v := (nI 0)) dX12_picks_117 (by decide) ?_
      refine j_sipush C (v := (nI 9999)) dX12_picks_118 (by decide) ?_
      refine j_callS (As := [.int ((row (30 + 6 * p + 4)) + (lawF row 1 (bendF row np (wS V row nw p) p) (row (10 + a)) (row (30 + 6 * p + 1)))), .int (nI 0), .int (nI 9999)]) (rest := [.int (nI 4), .int (nI p), .ref o]) C vw12_held (c_held) rfl (Nat.le_of_ble_eq_true rfl) dX12_picks_121 (by decide) ?_
      rintro _ _ ⟨rfl, rfl⟩
      refine j_callVv (As := [.int (nI p), .int (nI 4), .int (hld ((row (30 + 6 * p + 4)) + (lawF row 1 (bendF row np (wS V row nw p) p) (row (10 + a)) (row (30 + 6 * p + 1)))) (nI 0) (nI 9999))]) (rest := []) C vw12_gets (c_gets p 4 (by omega)) rRcv rfl (Nat.le_of_ble_eq_true rfl) dX12_picks_124 (by decide) ?_
      rintro _ rfl
      refine j_vret C dX12_picks_127 ?_
      have hv := pickV_eq (np := np) (w := wS V row nw p) ea (by omega)
      rw [if_pos (nlt c31), if_neg (lnl c71)] at hv
      exact ⟨_, (hVx2.tr hVx1), by rw [pickF_eq ea (by omega), hv]⟩
    · skip
      refine j_aload_n C 3 dX12_picks_74 rfl ?_
      refine rg C (v := .ref (q 0)) 0 (by decide) kf12_7 rfl dX12_picks_75 ?_
      refine j_iload_n C 2 dX12_picks_78 rfl ?_
      refine rl_row C (10 + a) rfl (by omega) dX12_picks_79 ?_
      refine j_goto C 85 dX12_picks_80 (by decide) ?_
      refine rs_pk C p rfl (by omega) dX12_picks_85 ?_
      refine j_aload_n C 3 dX12_picks_86 rfl ?_
      refine rg C (v := .ref (q 0)) 0 (by decide) kf12_7 rfl dX12_picks_87 ?_
      refine j_iload_n C 2 dX12_picks_90 rfl ?_
      refine j_dup2 C dX12_picks_91 rfl rfl ?_
      refine rl_row C (10 + a) rfl (by omega) dX12_picks_92 ?_
      refine j_aload_n C 3 dX12_picks_93 rfl ?_
      refine rg C (v := .ref (q 20)) 20 (by decide) kf12_32 rfl dX12_picks_94 ?_
      refine j_iload_n C 4 dX12_picks_97 rfl ?_
      refine rl_pk C p rfl (by omega) dX12_picks_98 ?_
      refine j_v (row (10 + a)) (by rw [pk_us]) ?_
      refine j_isub C dX12_picks_99 ?_
      refine rs_row C (10 + a) rfl (by omega) dX12_picks_100 ?_
      refine j_aload_n C 3 dX12_picks_101 rfl ?_
      refine j_iload_n C 4 dX12_picks_102 rfl ?_
      refine j_iconst C (v := (nI 4)) dX12_picks_103 (by decide) ?_
      refine j_aload_n C 3 dX12_picks_104 rfl ?_
      refine j_iload_n C 4 dX12_picks_105 rfl ?_
      refine j_iconst C (v := (nI 4)) dX12_picks_106 (by decide) ?_
      refine j_callV (As := [.int (nI p), .int (nI 4)]) (rest := [.int (nI 4), .int (nI p), .ref o]) C vw12_its (c_its p 4 (by omega)) rRcv rfl (Nat.le_of_ble_eq_true rfl) dX12_picks_107 (by decide) ?_
      rintro _ _ ⟨rfl, rfl⟩
      refine j_v (row (30 + 6 * p + 4)) (by rw [pk_un (by omega)]) ?_
      refine j_aload_n C 3 dX12_picks_110 rfl ?_
      refine rg C (v := .ref (q 20)) 20 (by decide) kf12_32 rfl dX12_picks_111 ?_
      refine j_iload_n C 4 dX12_picks_114 rfl ?_
      refine rl_pk C p rfl (by omega) dX12_picks_115 ?_
      refine j_v (row (10 + a)) (by rw [pk_us]) ?_
      refine j_iadd C dX12_picks_116 ?_
      refine j_iconst C (v := (nI 0)) dX12_picks_117 (by decide) ?_
      refine j_sipush C (v := (nI 9999)) dX12_picks_118 (by decide) ?_
      refine j_callS (As := [.int ((row (30 + 6 * p + 4)) + (row (10 + a))), .int (nI 0), .int (nI 9999)]) (rest := [.int (nI 4), .int (nI p), .ref o]) C vw12_held (c_held) rfl (Nat.le_of_ble_eq_true rfl) dX12_picks_121 (by decide) ?_
      rintro _ _ ⟨rfl, rfl⟩
      refine j_callVv (As := [.int (nI p), .int (nI 4), .int (hld ((row (30 + 6 * p + 4)) + (row (10 + a))) (nI 0) (nI 9999))]) (rest := []) C vw12_gets (c_gets p 4 (by omega)) rRcv rfl (Nat.le_of_ble_eq_true rfl) dX12_picks_124 (by decide) ?_
      rintro _ rfl
      refine j_vret C dX12_picks_127 ?_
      have hv := pickV_eq (np := np) (w := wS V row nw p) ea (by omega)
      rw [if_pos (nlt c31), if_pos (nle c71)] at hv
      exact ⟨_, (hVx2.tr hVx1), by rw [pickF_eq ea (by omega), hv]⟩
theorem dX12_goesOn_0 : decode cX12_goesOn 0 = .ok (.aload_n 0, 1) := by decide +kernel
theorem dX12_goesOn_1 : decode cX12_goesOn 1 = .ok (.iload_n 1, 1) := by decide +kernel
theorem dX12_goesOn_2 : decode cX12_goesOn 2 = .ok (.iconst 2, 1) := by decide +kernel
theorem dX12_goesOn_3 : decode cX12_goesOn 3 = .ok (.invokevirtual 69, 3) := by decide +kernel
theorem dX12_goesOn_6 : decode cX12_goesOn 6 = .ok (.aload_n 0, 1) := by decide +kernel
theorem dX12_goesOn_7 : decode cX12_goesOn 7 = .ok (.iload_n 1, 1) := by decide +kernel
theorem dX12_goesOn_8 : decode cX12_goesOn 8 = .ok (.iconst 3, 1) := by decide +kernel
theorem dX12_goesOn_9 : decode cX12_goesOn 9 = .ok (.invokevirtual 69, 3) := by decide +kernel
theorem dX12_goesOn_12 : decode cX12_goesOn 12 = .ok (.iadd, 1) := by decide +kernel
theorem dX12_goesOn_13 : decode cX12_goesOn 13 = .ok (.istore_n 2, 1) := by decide +kernel
theorem dX12_goesOn_14 : decode cX12_goesOn 14 = .ok (.aload_n 0, 1) := by decide +kernel
theorem dX12_goesOn_15 : decode cX12_goesOn 15 = .ok (.iload_n 2, 1) := by decide +kernel
theorem dX12_goesOn_16 : decode cX12_goesOn 16 = .ok (.invokevirtual 65, 3) := by decide +kernel
theorem dX12_goesOn_19 : decode cX12_goesOn 19 = .ok (.ifCond .eq 13, 3) := by decide +kernel
theorem dX12_goesOn_22 : decode cX12_goesOn 22 = .ok (.aload_n 0, 1) := by decide +kernel
theorem dX12_goesOn_23 : decode cX12_goesOn 23 = .ok (.iload_n 1, 1) := by decide +kernel
theorem dX12_goesOn_24 : decode cX12_goesOn 24 = .ok (.iconst 2, 1) := by decide +kernel
theorem dX12_goesOn_25 : decode cX12_goesOn 25 = .ok (.iload_n 2, 1) := by decide +kernel
theorem dX12_goesOn_26 : decode cX12_goesOn 26 = .ok (.invokevirtual 76, 3) := by decide +kernel
theorem dX12_goesOn_29 : decode cX12_goesOn 29 = .ok (.goto 16, 3) := by decide +kernel
theorem dX12_goesOn_32 : decode cX12_goesOn 32 = .ok (.aload_n 0, 1) := by decide +kernel
theorem dX12_goesOn_33 : decode cX12_goesOn 33 = .ok (.iload_n 1, 1) := by decide +kernel
theorem dX12_goesOn_34 : decode cX12_goesOn 34 = .ok (.iconst 3, 1) := by decide +kernel
theorem dX12_goesOn_35 : decode cX12_goesOn 35 = .ok (.aload_n 0, 1) := by decide +kernel
theorem dX12_goesOn_36 : decode cX12_goesOn 36 = .ok (.iload_n 1, 1) := by decide +kernel
theorem dX12_goesOn_37 : decode cX12_goesOn 37 = .ok (.iconst 3, 1) := by decide +kernel
theorem dX12_goesOn_38 : decode cX12_goesOn 38 = .ok (.invokevirtual 69, 3) := by decide +kernel
theorem dX12_goesOn_41 : decode cX12_goesOn 41 = .ok (.ineg, 1) := by decide +kernel
theorem dX12_goesOn_42 : decode cX12_goesOn 42 = .ok (.invokevirtual 76, 3) := by decide +kernel
theorem dX12_goesOn_45 : decode cX12_goesOn 45 = .ok (.return_, 1) := by decide +kernel
set_option maxHeartbeats 2000000 in
set_option maxRecDepth 20000 in
theorem c_goesOn {l : Launch} {D : va_G} {cI cG cW : ClassId} {o : Nat} {q : Nat → Nat} {V row kept tried bf fd pk bo so sh mv tr : Nat → Int32} (p : Nat) (hp : p < 6) : Cv l yX12_goesOn cX12_goesOn 3 none 2 D (tyL cI cG cW) (wR cI o q) [.ref o, .int (nI p)] (sR V row kept tried bf fd pk bo so sh mv tr) (fun τ => τ = sR V (goF row p) kept tried bf fd pk bo so sh mv tr) := by
  refine Cv.of (by decide) (Nat.le_of_ble_eq_true rfl) ?_
  intro p_ e_ s_ m_ b_ M_ c_ A_ C
  replace C : Cx _ _ _ _ _ _ _ _ RX12 _ _ _ _ := C
  refine j_L [0, 1] [(0, .ref o), (1, .int (nI p))] rfl ?_
  refine j_aload_n C 0 dX12_goesOn_0 rfl ?_
  refine j_iload_n C 1 dX12_goesOn_1 rfl ?_
  refine j_iconst C (v := (nI 2)) dX12_goesOn_2 (by decide) ?_
  refine j_callV (As := [.int (nI p), .int (nI 2)]) (rest := []) C vw12_its (c_its p 2 (by omega)) rRcv rfl (Nat.le_of_ble_eq_true rfl) dX12_goesOn_3 (by decide) ?_
  rintro _ _ ⟨rfl, rfl⟩
  refine j_aload_n C 0 dX12_goesOn_6 rfl ?_
  refine j_iload_n C 1 dX12_goesOn_7 rfl ?_
  refine j_iconst C (v := (nI 3)) dX12_goesOn_8 (by decide) ?_
  refine j_callV (As := [.int (nI p), .int (nI 3)]) (rest := [.int (row (30 + 6 * p + 2))]) C vw12_its (c_its p 3 (by omega)) rRcv rfl (Nat.le_of_ble_eq_true rfl) dX12_goesOn_9 (by decide) ?_
  rintro _ _ ⟨rfl, rfl⟩
  refine j_iadd C dX12_goesOn_12 ?_
  refine j_istore_n C [(2, .int ((row (30 + 6 * p + 2)) + (row (30 + 6 * p + 3)))), (0, .ref o), (1, .int (nI p))] dX12_goesOn_13 (by decide) rfl ?_
  refine j_aload_n C 1 dX12_goesOn_14 rfl ?_
  refine j_iload_n C 0 dX12_goesOn_15 rfl ?_
  refine j_callV (As := [.int ((row (30 + 6 * p + 2)) + (row (30 + 6 * p + 3)))]) (rest := []) C vw12_isCell (c_isCell) rRcv rfl (Nat.le_of_ble_eq_true rfl) dX12_goesOn_16 (by decide) ?_
  rintro _ _ ⟨rfl, rfl⟩
  refine j_if_eq C 32 dX12_goesOn_19 (by decide) (fun c19 => ?_) (fun c19 => ?_)
  · replace c19 := bI_f c19
    refine j_aload_n C 1 dX12_goesOn_32 rfl ?_
    refine j_iload_n C 2 dX12_goesOn_33 rfl ?_
    refine j_iconst C (v := (nI 3)) dX12_goesOn_34 (by decide) ?_
    refine j_aload_n C 1 dX12_goesOn_35 rfl ?_
    refine j_iload_n C 2 dX12_goesOn_36 rfl ?_
    refine j_iconst C (v := (nI 3)) dX12_goesOn_37 (by decide) ?_
    refine j_callV (As := [.int (nI p), .int (nI 3)]) (rest := [.int (nI 3), .int (nI p), .ref o]) C vw12_its (c_its p 3 (by omega)) rRcv rfl (Nat.le_of_ble_eq_true rfl) dX12_goesOn_38 (by decide) ?_
    rintro _ _ ⟨rfl, rfl⟩
    refine j_ineg C dX12_goesOn_41 ?_
    refine j_callVv (As := [.int (nI p), .int (nI 3), .int (-(row (30 + 6 * p + 3)))]) (rest := []) C vw12_gets (c_gets p 3 (by omega)) rRcv rfl (Nat.le_of_ble_eq_true rfl) dX12_goesOn_42 (by decide) ?_
    rintro _ rfl
    refine j_vret C dX12_goesOn_45 ?_
    show _ = _
    unfold goF
    rw [if_neg c19]
  · replace c19 := bI_t c19
    refine j_aload_n C 1 dX12_goesOn_22 rfl ?_
    refine j_iload_n C 2 dX12_goesOn_23 rfl ?_
    refine j_iconst C (v := (nI 2)) dX12_goesOn_24 (by decide) ?_
    refine j_iload_n C 0 dX12_goesOn_25 rfl ?_
    refine j_callVv (As := [.int (nI p), .int (nI 2), .int ((row (30 + 6 * p + 2)) + (row (30 + 6 * p + 3)))]) (rest := []) C vw12_gets (c_gets p 2 (by omega)) rRcv rfl (Nat.le_of_ble_eq_true rfl) dX12_goesOn_26 (by decide) ?_
    rintro _ rfl
    refine j_goto C 45 dX12_goesOn_29 (by decide) ?_
    refine j_vret C dX12_goesOn_45 ?_
    show _ = _
    unfold goF
    rw [if_pos c19]
theorem dX12_eatsNow_0 : decode cX12_eatsNow 0 = .ok (.aload_n 0, 1) := by decide +kernel
theorem dX12_eatsNow_1 : decode cX12_eatsNow 1 = .ok (.iload_n 1, 1) := by decide +kernel
theorem dX12_eatsNow_2 : decode cX12_eatsNow 2 = .ok (.iconst 4, 1) := by decide +kernel
theorem dX12_eatsNow_3 : decode cX12_eatsNow 3 = .ok (.invokevirtual 69, 3) := by decide +kernel
theorem dX12_eatsNow_6 : decode cX12_eatsNow 6 = .ok (.aload_n 0, 1) := by decide +kernel
theorem dX12_eatsNow_7 : decode cX12_eatsNow 7 = .ok (.iload_n 1, 1) := by decide +kernel
theorem dX12_eatsNow_8 : decode cX12_eatsNow 8 = .ok (.invokevirtual 89, 3) := by decide +kernel
theorem dX12_eatsNow_11 : decode cX12_eatsNow 11 = .ok (.if_icmp .lt 24, 3) := by decide +kernel
theorem dX12_eatsNow_14 : decode cX12_eatsNow 14 = .ok (.aload_n 0, 1) := by decide +kernel
theorem dX12_eatsNow_15 : decode cX12_eatsNow 15 = .ok (.iload_n 1, 1) := by decide +kernel
theorem dX12_eatsNow_16 : decode cX12_eatsNow 16 = .ok (.iconst 4, 1) := by decide +kernel
theorem dX12_eatsNow_17 : decode cX12_eatsNow 17 = .ok (.aload_n 0, 1) := by decide +kernel
theorem dX12_eatsNow_18 : decode cX12_eatsNow 18 = .ok (.iload_n 1, 1) := by decide +kernel
theorem dX12_eatsNow_19 : decode cX12_eatsNow 19 = .ok (.iconst 4, 1) := by decide +kernel
theorem dX12_eatsNow_20 : decode cX12_eatsNow 20 = .ok (.invokevirtual 69, 3) := by decide +kernel
theorem dX12_eatsNow_23 : decode cX12_eatsNow 23 = .ok (.aload_n 0, 1) := by decide +kernel
theorem dX12_eatsNow_24 : decode cX12_eatsNow 24 = .ok (.iload_n 1, 1) := by decide +kernel
theorem dX12_eatsNow_25 : decode cX12_eatsNow 25 = .ok (.invokevirtual 89, 3) := by decide +kernel
theorem dX12_eatsNow_28 : decode cX12_eatsNow 28 = .ok (.isub, 1) := by decide +kernel
theorem dX12_eatsNow_29 : decode cX12_eatsNow 29 = .ok (.invokevirtual 76, 3) := by decide +kernel
theorem dX12_eatsNow_32 : decode cX12_eatsNow 32 = .ok (.goto 31, 3) := by decide +kernel
theorem dX12_eatsNow_35 : decode cX12_eatsNow 35 = .ok (.aload_n 0, 1) := by decide +kernel
theorem dX12_eatsNow_36 : decode cX12_eatsNow 36 = .ok (.iload_n 1, 1) := by decide +kernel
theorem dX12_eatsNow_37 : decode cX12_eatsNow 37 = .ok (.iconst 4, 1) := by decide +kernel
theorem dX12_eatsNow_38 : decode cX12_eatsNow 38 = .ok (.iconst 0, 1) := by decide +kernel
theorem dX12_eatsNow_39 : decode cX12_eatsNow 39 = .ok (.invokevirtual 76, 3) := by decide +kernel
theorem dX12_eatsNow_42 : decode cX12_eatsNow 42 = .ok (.aload_n 0, 1) := by decide +kernel
theorem dX12_eatsNow_43 : decode cX12_eatsNow 43 = .ok (.iload_n 1, 1) := by decide +kernel
theorem dX12_eatsNow_44 : decode cX12_eatsNow 44 = .ok (.iconst 5, 1) := by decide +kernel
theorem dX12_eatsNow_45 : decode cX12_eatsNow 45 = .ok (.aload_n 0, 1) := by decide +kernel
theorem dX12_eatsNow_46 : decode cX12_eatsNow 46 = .ok (.iload_n 1, 1) := by decide +kernel
theorem dX12_eatsNow_47 : decode cX12_eatsNow 47 = .ok (.iconst 5, 1) := by decide +kernel
theorem dX12_eatsNow_48 : decode cX12_eatsNow 48 = .ok (.invokevirtual 69, 3) := by decide +kernel
theorem dX12_eatsNow_51 : decode cX12_eatsNow 51 = .ok (.iconst 1, 1) := by decide +kernel
theorem dX12_eatsNow_52 : decode cX12_eatsNow 52 = .ok (.iadd, 1) := by decide +kernel
theorem dX12_eatsNow_53 : decode cX12_eatsNow 53 = .ok (.iconst 0, 1) := by decide +kernel
theorem dX12_eatsNow_54 : decode cX12_eatsNow 54 = .ok (.sipush 9999, 3) := by decide +kernel
theorem dX12_eatsNow_57 : decode cX12_eatsNow 57 = .ok (.invokestatic 162, 3) := by decide +kernel
theorem dX12_eatsNow_60 : decode cX12_eatsNow 60 = .ok (.invokevirtual 76, 3) := by decide +kernel
theorem dX12_eatsNow_63 : decode cX12_eatsNow 63 = .ok (.return_, 1) := by decide +kernel
set_option maxHeartbeats 2000000 in
set_option maxRecDepth 20000 in
theorem c_eatsNow {l : Launch} {D : va_G} {cI cG cW : ClassId} {o : Nat} {q : Nat → Nat} {V row kept tried bf fd pk bo so sh mv tr : Nat → Int32} (p : Nat) {nc np nw : Nat} (hI : Iv row nc np nw) (hp : p < np) : Cv l yX12_eatsNow cX12_eatsNow 2 none 2 D (tyL cI cG cW) (wR cI o q) [.ref o, .int (nI p)] (sR V row kept tried bf fd pk bo so sh mv tr) (fun τ => τ = sR V (etF row p) kept tried bf fd pk bo so sh mv tr) := by
  refine Cv.of (by decide) (Nat.le_of_ble_eq_true rfl) ?_
  intro p_ e_ s_ m_ b_ M_ c_ A_ C
  replace C : Cx _ _ _ _ _ _ _ _ RX12 _ _ _ _ := C
  refine j_L [0, 1] [(0, .ref o), (1, .int (nI p))] rfl ?_
  obtain ⟨⟨e2, hc2, hc10⟩, ⟨e3, hn6⟩, ⟨e8, hw8⟩, hP, hE, hLo, hT0, hT1⟩ := id hI
  obtain ⟨⟨k, hk, ek⟩, ⟨mm, hm, em⟩, ⟨a, ha, ea⟩, hway, ⟨b, hb, eb⟩, ⟨h, hh, eh⟩⟩ := hP p hp
  refine j_aload_n C 0 dX12_eatsNow_0 rfl ?_
  refine j_iload_n C 1 dX12_eatsNow_1 rfl ?_
  refine j_iconst C (v := (nI 4)) dX12_eatsNow_2 (by decide) ?_
  refine j_callV (As := [.int (nI p), .int (nI 4)]) (rest := []) C vw12_its (c_its p 4 (by omega)) rRcv rfl (Nat.le_of_ble_eq_true rfl) dX12_eatsNow_3 (by decide) ?_
  rintro _ _ ⟨rfl, rfl⟩
  refine j_aload_n C 0 dX12_eatsNow_6 rfl ?_
  refine j_iload_n C 1 dX12_eatsNow_7 rfl ?_
  refine j_callV (As := [.int (nI p)]) (rest := [.int (row (30 + 6 * p + 4))]) C vw12_eats (c_eats p ek hk (by omega)) rRcv rfl (Nat.le_of_ble_eq_true rfl) dX12_eatsNow_8 (by decide) ?_
  rintro _ _ ⟨rfl, rfl⟩
  refine j_icmp_lt C 35 dX12_eatsNow_11 (by decide) (fun c11 => ?_) (fun c11 => ?_)
  · skip
    refine j_aload_n C 0 dX12_eatsNow_35 rfl ?_
    refine j_iload_n C 1 dX12_eatsNow_36 rfl ?_
    refine j_iconst C (v := (nI 4)) dX12_eatsNow_37 (by decide) ?_
    refine j_iconst C (v := (nI 0)) dX12_eatsNow_38 (by decide) ?_
    refine j_callVv (As := [.int (nI p), .int (nI 4), .int (nI 0)]) (rest := []) C vw12_gets (c_gets p 4 (by omega)) rRcv rfl (Nat.le_of_ble_eq_true rfl) dX12_eatsNow_39 (by decide) ?_
    rintro _ rfl
    refine j_aload_n C 0 dX12_eatsNow_42 rfl ?_
    refine j_iload_n C 1 dX12_eatsNow_43 rfl ?_
    refine j_iconst C (v := (nI 5)) dX12_eatsNow_44 (by decide) ?_
    refine j_aload_n C 0 dX12_eatsNow_45 rfl ?_
    refine j_iload_n C 1 dX12_eatsNow_46 rfl ?_
    refine j_iconst C (v := (nI 5)) dX12_eatsNow_47 (by decide) ?_
    refine j_callV (As := [.int (nI p), .int (nI 5)]) (rest := [.int (nI 5), .int (nI p), .ref o]) C vw12_its (c_its p 5 (by omega)) rRcv rfl (Nat.le_of_ble_eq_true rfl) dX12_eatsNow_48 (by decide) ?_
    rintro _ _ ⟨rfl, rfl⟩
    refine j_v (row (30 + 6 * p + 5)) (by rw [pk_un (by omega)]) ?_
    refine j_iconst C (v := (nI 1)) dX12_eatsNow_51 (by decide) ?_
    refine j_iadd C dX12_eatsNow_52 ?_
    refine j_iconst C (v := (nI 0)) dX12_eatsNow_53 (by decide) ?_
    refine j_sipush C (v := (nI 9999)) dX12_eatsNow_54 (by decide) ?_
    refine j_callS (As := [.int ((row (30 + 6 * p + 5)) + (nI 1)), .int (nI 0), .int (nI 9999)]) (rest := [.int (nI 5), .int (nI p), .ref o]) C vw12_held (c_held) rfl (Nat.le_of_ble_eq_true rfl) dX12_eatsNow_57 (by decide) ?_
    rintro _ _ ⟨rfl, rfl⟩
    refine j_callVv (As := [.int (nI p), .int (nI 5), .int (hld ((row (30 + 6 * p + 5)) + (nI 1)) (nI 0) (nI 9999))]) (rest := []) C vw12_gets (c_gets p 5 (by omega)) rRcv rfl (Nat.le_of_ble_eq_true rfl) dX12_eatsNow_60 (by decide) ?_
    rintro _ rfl
    refine j_vret C dX12_eatsNow_63 ?_
    show _ = _
    unfold etF
    rw [if_neg (ltn c11)]
  · skip
    refine j_aload_n C 0 dX12_eatsNow_14 rfl ?_
    refine j_iload_n C 1 dX12_eatsNow_15 rfl ?_
    refine j_iconst C (v := (nI 4)) dX12_eatsNow_16 (by decide) ?_
    refine j_aload_n C 0 dX12_eatsNow_17 rfl ?_
    refine j_iload_n C 1 dX12_eatsNow_18 rfl ?_
    refine j_iconst C (v := (nI 4)) dX12_eatsNow_19 (by decide) ?_
    refine j_callV (As := [.int (nI p), .int (nI 4)]) (rest := [.int (nI 4), .int (nI p), .ref o]) C vw12_its (c_its p 4 (by omega)) rRcv rfl (Nat.le_of_ble_eq_true rfl) dX12_eatsNow_20 (by decide) ?_
    rintro _ _ ⟨rfl, rfl⟩
    refine j_aload_n C 0 dX12_eatsNow_23 rfl ?_
    refine j_iload_n C 1 dX12_eatsNow_24 rfl ?_
    refine j_callV (As := [.int (nI p)]) (rest := [.int (row (30 + 6 * p + 4)), .int (nI 4), .int (nI p), .ref o]) C vw12_eats (c_eats p ek hk (by omega)) rRcv rfl (Nat.le_of_ble_eq_true rfl) dX12_eatsNow_25 (by decide) ?_
    rintro _ _ ⟨rfl, rfl⟩
    refine j_isub C dX12_eatsNow_28 ?_
    refine j_callVv (As := [.int (nI p), .int (nI 4), .int ((row (30 + 6 * p + 4)) - (eatF row p))]) (rest := []) C vw12_gets (c_gets p 4 (by omega)) rRcv rfl (Nat.le_of_ble_eq_true rfl) dX12_eatsNow_29 (by decide) ?_
    rintro _ rfl
    refine j_goto C 63 dX12_eatsNow_32 (by decide) ?_
    refine j_vret C dX12_eatsNow_63 ?_
    show _ = _
    unfold etF
    rw [if_pos (nlt c11)]
theorem dX12_oneDawn_0 : decode cX12_oneDawn 0 = .ok (.iconst 0, 1) := by decide +kernel
theorem dX12_oneDawn_1 : decode cX12_oneDawn 1 = .ok (.istore_n 1, 1) := by decide +kernel
theorem dX12_oneDawn_2 : decode cX12_oneDawn 2 = .ok (.iload_n 1, 1) := by decide +kernel
theorem dX12_oneDawn_3 : decode cX12_oneDawn 3 = .ok (.aload_n 0, 1) := by decide +kernel
theorem dX12_oneDawn_4 : decode cX12_oneDawn 4 = .ok (.getfield 7, 3) := by decide +kernel
theorem dX12_oneDawn_7 : decode cX12_oneDawn 7 = .ok (.iconst 3, 1) := by decide +kernel
theorem dX12_oneDawn_8 : decode cX12_oneDawn 8 = .ok (.iaload, 1) := by decide +kernel
theorem dX12_oneDawn_9 : decode cX12_oneDawn 9 = .ok (.if_icmp .ge 14, 3) := by decide +kernel
theorem dX12_oneDawn_12 : decode cX12_oneDawn 12 = .ok (.aload_n 0, 1) := by decide +kernel
theorem dX12_oneDawn_13 : decode cX12_oneDawn 13 = .ok (.iload_n 1, 1) := by decide +kernel
theorem dX12_oneDawn_14 : decode cX12_oneDawn 14 = .ok (.invokevirtual 187, 3) := by decide +kernel
theorem dX12_oneDawn_17 : decode cX12_oneDawn 17 = .ok (.iinc 1 1, 3) := by decide +kernel
theorem dX12_oneDawn_20 : decode cX12_oneDawn 20 = .ok (.goto (-18), 3) := by decide +kernel
theorem dX12_oneDawn_23 : decode cX12_oneDawn 23 = .ok (.iconst 0, 1) := by decide +kernel
theorem dX12_oneDawn_24 : decode cX12_oneDawn 24 = .ok (.istore_n 1, 1) := by decide +kernel
theorem dX12_oneDawn_25 : decode cX12_oneDawn 25 = .ok (.iload_n 1, 1) := by decide +kernel
theorem dX12_oneDawn_26 : decode cX12_oneDawn 26 = .ok (.aload_n 0, 1) := by decide +kernel
theorem dX12_oneDawn_27 : decode cX12_oneDawn 27 = .ok (.getfield 7, 3) := by decide +kernel
theorem dX12_oneDawn_30 : decode cX12_oneDawn 30 = .ok (.iconst 3, 1) := by decide +kernel
theorem dX12_oneDawn_31 : decode cX12_oneDawn 31 = .ok (.iaload, 1) := by decide +kernel
theorem dX12_oneDawn_32 : decode cX12_oneDawn 32 = .ok (.if_icmp .ge 14, 3) := by decide +kernel
theorem dX12_oneDawn_35 : decode cX12_oneDawn 35 = .ok (.aload_n 0, 1) := by decide +kernel
theorem dX12_oneDawn_36 : decode cX12_oneDawn 36 = .ok (.iload_n 1, 1) := by decide +kernel
theorem dX12_oneDawn_37 : decode cX12_oneDawn 37 = .ok (.invokevirtual 191, 3) := by decide +kernel
theorem dX12_oneDawn_40 : decode cX12_oneDawn 40 = .ok (.iinc 1 1, 3) := by decide +kernel
theorem dX12_oneDawn_43 : decode cX12_oneDawn 43 = .ok (.goto (-18), 3) := by decide +kernel
theorem dX12_oneDawn_46 : decode cX12_oneDawn 46 = .ok (.iconst 0, 1) := by decide +kernel
theorem dX12_oneDawn_47 : decode cX12_oneDawn 47 = .ok (.istore_n 1, 1) := by decide +kernel
theorem dX12_oneDawn_48 : decode cX12_oneDawn 48 = .ok (.iload_n 1, 1) := by decide +kernel
theorem dX12_oneDawn_49 : decode cX12_oneDawn 49 = .ok (.aload_n 0, 1) := by decide +kernel
theorem dX12_oneDawn_50 : decode cX12_oneDawn 50 = .ok (.getfield 7, 3) := by decide +kernel
theorem dX12_oneDawn_53 : decode cX12_oneDawn 53 = .ok (.iconst 3, 1) := by decide +kernel
theorem dX12_oneDawn_54 : decode cX12_oneDawn 54 = .ok (.iaload, 1) := by decide +kernel
theorem dX12_oneDawn_55 : decode cX12_oneDawn 55 = .ok (.if_icmp .ge 14, 3) := by decide +kernel
theorem dX12_oneDawn_58 : decode cX12_oneDawn 58 = .ok (.aload_n 0, 1) := by decide +kernel
theorem dX12_oneDawn_59 : decode cX12_oneDawn 59 = .ok (.iload_n 1, 1) := by decide +kernel
theorem dX12_oneDawn_60 : decode cX12_oneDawn 60 = .ok (.invokevirtual 194, 3) := by decide +kernel
theorem dX12_oneDawn_63 : decode cX12_oneDawn 63 = .ok (.iinc 1 1, 3) := by decide +kernel
theorem dX12_oneDawn_66 : decode cX12_oneDawn 66 = .ok (.goto (-18), 3) := by decide +kernel
theorem dX12_oneDawn_69 : decode cX12_oneDawn 69 = .ok (.aload_n 0, 1) := by decide +kernel
theorem dX12_oneDawn_70 : decode cX12_oneDawn 70 = .ok (.getfield 7, 3) := by decide +kernel
theorem dX12_oneDawn_73 : decode cX12_oneDawn 73 = .ok (.iconst 0, 1) := by decide +kernel
theorem dX12_oneDawn_74 : decode cX12_oneDawn 74 = .ok (.dup2, 1) := by decide +kernel
theorem dX12_oneDawn_75 : decode cX12_oneDawn 75 = .ok (.iaload, 1) := by decide +kernel
theorem dX12_oneDawn_76 : decode cX12_oneDawn 76 = .ok (.iconst 1, 1) := by decide +kernel
theorem dX12_oneDawn_77 : decode cX12_oneDawn 77 = .ok (.iadd, 1) := by decide +kernel
theorem dX12_oneDawn_78 : decode cX12_oneDawn 78 = .ok (.iastore, 1) := by decide +kernel
theorem dX12_oneDawn_79 : decode cX12_oneDawn 79 = .ok (.return_, 1) := by decide +kernel
set_option maxHeartbeats 2000000 in
set_option maxRecDepth 20000 in
theorem c_oneDawn {l : Launch} {D : va_G} {cI cG cW : ClassId} {o : Nat} {q : Nat → Nat} {V row kept tried bf fd pk bo so sh mv tr : Nat → Int32} {nc np nw : Nat} (hI : Iv row nc np nw) : Cv l yX12_oneDawn cX12_oneDawn 2 none 83 D (tyL cI cG cW) (wR cI o q) [.ref o] (sR V row kept tried bf fd pk bo so sh mv tr) (fun τ => ∃ V1 pk1, VE V1 V ∧ (∀ j, j < np → pk1 j = pickV (pksF np (wv V row nw) row j) np (wv V row nw j) j) ∧ τ = sR V1 (dawnF np (wv V row nw) row) kept tried bf fd pk1 bo so sh mv tr) := by
  refine Cv.of (by decide) (Nat.le_of_ble_eq_true rfl) ?_
  intro p_ e_ s_ m_ b_ M_ c_ A_ C
  replace C : Cx _ _ _ _ _ _ _ _ RX12 _ _ _ _ := C
  refine j_L [0] [(0, .ref o)] rfl ?_
  have hn6 := hI.2.1.2
  refine j_iconst C (v := (nI 0)) dX12_oneDawn_0 (by decide) ?_
  refine j_istore_n C [(1, .int (nI 0)), (0, .ref o)] dX12_oneDawn_1 (by decide) rfl ?_
  refine j_L [1, 0] [(0, .ref o), (1, .int (nI 0))] rfl ?_
  refine j_loop (X := Nat × (Nat → Int32) × (Nat → Int32)) (fun (z : Nat × (Nat → Int32) × (Nat → Int32)) => match z with | (i, V1, pk1) => i ≤ np ∧ VE V1 V ∧ ∀ j, j < i → pk1 j = pickV (pksF np (wv V row nw) row j) np (wv V row nw j) j) (fun (z : Nat × (Nat → Int32) × (Nat → Int32)) => match z with | (i, V1, pk1) => np - i) (fun (z : Nat × (Nat → Int32) × (Nat → Int32)) => match z with | (i, V1, pk1) => (sR V1 (pksF np (wv V row nw) row i) kept tried bf fd pk1 bo so sh mv tr)) (fun (z : Nat × (Nat → Int32) × (Nat → Int32)) => match z with | (i, V1, pk1) => [(0, .ref o), (1, .int (nI i))]) (0, V, pk) (⟨Nat.zero_le _, VE.rf, fun j h => absurd h (Nat.not_lt_zero _)⟩) rfl rfl ?_
  rintro ⟨i, V1, pk1⟩ ⟨hi, hV, hpk⟩ ih
  try dsimp only at ih ⊢
  obtain ⟨hIc, hFc⟩ := pks_IF (wv V row nw) hI i hi
  have hwv := wv_eq nw hV hFc
  refine j_iload_n C 1 dX12_oneDawn_2 rfl ?_
  refine j_aload_n C 0 dX12_oneDawn_3 rfl ?_
  refine rg C (v := .ref (q 0)) 0 (by decide) kf12_7 rfl dX12_oneDawn_4 ?_
  refine j_iconst C (v := (nI 3)) dX12_oneDawn_7 (by decide) ?_
  refine rl_row C 3 rfl (by omega) dX12_oneDawn_8 ?_
  refine j_v (nI np) hIc.2.1.1 ?_
  refine j_icmp_ge C 23 dX12_oneDawn_9 (by decide) (fun c9 => ?_) (fun c9 => ?_)
  · rw [nI_leI (by omega) (by omega)] at c9
    obtain rfl : np = i := by omega
    refine j_iconst C (v := (nI 0)) dX12_oneDawn_23 (by decide) ?_
    refine j_istore_n C [(1, .int (nI 0)), (0, .ref o)] dX12_oneDawn_24 (by decide) rfl ?_
    refine j_L [1, 0] [(0, .ref o), (1, .int (nI 0))] rfl ?_
    refine j_loop (X := Nat) (fun (i : Nat) => i ≤ np) (fun (i : Nat) => np - i) (fun (i : Nat) => (sR V1 (itN (fun p r => goF r p) i (pksF np (wv V row nw) row np)) kept tried bf fd pk1 bo so sh mv tr)) (fun (i : Nat) => [(0, .ref o), (1, .int (nI i))]) (0) (Nat.zero_le _) rfl rfl ?_
    rintro i hi ih
    try dsimp only at ih ⊢
    obtain ⟨hIc, hFc⟩ := go_IF (pks_IF (wv V row nw) hI np (Nat.le_refl _)) i hi
    refine j_iload_n C 1 dX12_oneDawn_25 rfl ?_
    refine j_aload_n C 0 dX12_oneDawn_26 rfl ?_
    refine rg C (v := .ref (q 0)) 0 (by decide) kf12_7 rfl dX12_oneDawn_27 ?_
    refine j_iconst C (v := (nI 3)) dX12_oneDawn_30 (by decide) ?_
    refine rl_row C 3 rfl (by omega) dX12_oneDawn_31 ?_
    refine j_v (nI np) hIc.2.1.1 ?_
    refine j_icmp_ge C 46 dX12_oneDawn_32 (by decide) (fun c32 => ?_) (fun c32 => ?_)
    · rw [nI_leI (by omega) (by omega)] at c32
      obtain rfl : np = i := by omega
      refine j_iconst C (v := (nI 0)) dX12_oneDawn_46 (by decide) ?_
      refine j_istore_n C [(1, .int (nI 0)), (0, .ref o)] dX12_oneDawn_47 (by decide) rfl ?_
      refine j_L [1, 0] [(0, .ref o), (1, .int (nI 0))] rfl ?_
      refine j_loop (X := Nat) (fun (i : Nat) => i ≤ np) (fun (i : Nat) => np - i) (fun (i : Nat) => (sR V1 (itN (fun p r => etF r p) i (itN (fun p r => goF r p) np (pksF np (wv V row nw) row np))) kept tried bf fd pk1 bo so sh mv tr)) (fun (i : Nat) => [(0, .ref o), (1, .int (nI i))]) (0) (Nat.zero_le _) rfl rfl ?_
      rintro i hi ih
      try dsimp only at ih ⊢
      obtain ⟨hIc, hFc⟩ := et_IF (go_IF (pks_IF (wv V row nw) hI np (Nat.le_refl _)) np (Nat.le_refl _)) i hi
      refine j_iload_n C 1 dX12_oneDawn_48 rfl ?_
      refine j_aload_n C 0 dX12_oneDawn_49 rfl ?_
      refine rg C (v := .ref (q 0)) 0 (by decide) kf12_7 rfl dX12_oneDawn_50 ?_
      refine j_iconst C (v := (nI 3)) dX12_oneDawn_53 (by decide) ?_
      refine rl_row C 3 rfl (by omega) dX12_oneDawn_54 ?_
      refine j_v (nI np) hIc.2.1.1 ?_
      refine j_icmp_ge C 69 dX12_oneDawn_55 (by decide) (fun c55 => ?_) (fun c55 => ?_)
      · rw [nI_leI (by omega) (by omega)] at c55
        obtain rfl : np = i := by omega
        refine j_aload_n C 0 dX12_oneDawn_69 rfl ?_
        refine rg C (v := .ref (q 0)) 0 (by decide) kf12_7 rfl dX12_oneDawn_70 ?_
        refine j_iconst C (v := (nI 0)) dX12_oneDawn_73 (by decide) ?_
        refine j_dup2 C dX12_oneDawn_74 rfl rfl ?_
        refine rl_row C 0 rfl (by omega) dX12_oneDawn_75 ?_
        refine j_iconst C (v := (nI 1)) dX12_oneDawn_76 (by decide) ?_
        refine j_iadd C dX12_oneDawn_77 ?_
        refine rs_row C 0 rfl (by omega) dX12_oneDawn_78 ?_
        refine j_vret C dX12_oneDawn_79 ?_
        exact ⟨_, _, hV, hpk, rfl⟩
      · rw [nI_leI (by omega) (by omega)] at c55
        refine j_aload_n C 0 dX12_oneDawn_58 rfl ?_
        refine j_iload_n C 1 dX12_oneDawn_59 rfl ?_
        refine j_callVv (As := [.int (nI i)]) (rest := []) C vw12_eatsNow (c_eatsNow i hIc (by omega)) rRcv rfl (Nat.le_of_ble_eq_true rfl) dX12_oneDawn_60 (by decide) ?_
        rintro _ rfl
        refine j_iinc C (v := (nI (i + 1))) 1 [(1, .int (nI (i + 1))), (0, .ref o)] dX12_oneDawn_63 rfl (nI_1 _) (by decide) rfl ?_
        refine j_goto C 48 dX12_oneDawn_66 (by decide) ?_
        refine j_L [1, 0] [(0, .ref o), (1, .int (nI (i + 1)))] rfl ?_
        exact ih (i + 1) (by omega) (by omega)
    · rw [nI_leI (by omega) (by omega)] at c32
      refine j_aload_n C 0 dX12_oneDawn_35 rfl ?_
      refine j_iload_n C 1 dX12_oneDawn_36 rfl ?_
      refine j_callVv (As := [.int (nI i)]) (rest := []) C vw12_goesOn (c_goesOn i (by omega)) rRcv rfl (Nat.le_of_ble_eq_true rfl) dX12_oneDawn_37 (by decide) ?_
      rintro _ rfl
      refine j_iinc C (v := (nI (i + 1))) 1 [(1, .int (nI (i + 1))), (0, .ref o)] dX12_oneDawn_40 rfl (nI_1 _) (by decide) rfl ?_
      refine j_goto C 25 dX12_oneDawn_43 (by decide) ?_
      refine j_L [1, 0] [(0, .ref o), (1, .int (nI (i + 1)))] rfl ?_
      exact ih (i + 1) (by omega) (by omega)
  · rw [nI_leI (by omega) (by omega)] at c9
    refine j_aload_n C 0 dX12_oneDawn_12 rfl ?_
    refine j_iload_n C 1 dX12_oneDawn_13 rfl ?_
    refine j_callVv (As := [.int (nI i)]) (rest := []) C vw12_picks (c_picks i hIc (by omega)) rRcv rfl (Nat.le_of_ble_eq_true rfl) dX12_oneDawn_14 (by decide) ?_
    rintro _ ⟨Vx1, hVx1, rfl⟩
    refine j_iinc C (v := (nI (i + 1))) 1 [(1, .int (nI (i + 1))), (0, .ref o)] dX12_oneDawn_17 rfl (nI_1 _) (by decide) rfl ?_
    refine j_goto C 2 dX12_oneDawn_20 (by decide) ?_
    refine j_L [1, 0] [(0, .ref o), (1, .int (nI (i + 1)))] rfl ?_
    have hw1 : wS V1 (pksF np (wv V row nw) row i) nw i = wv V row nw i := congrFun hwv i
    rw [hw1]
    refine ih (i + 1, Vx1, upd pk1 i (pickV (pksF np (wv V row nw) row i) np (wv V row nw i) i)) ⟨by dsimp only; omega, hVx1.tr hV, fun j hj => ?_⟩ (by dsimp only; omega)
    dsimp only at hj ⊢
    by_cases ej : j = i
    · subst ej; rw [pk_us]
    · rw [pk_un ej]; exact hpk j (by omega)
theorem dX12_passes_0 : decode cX12_passes 0 = .ok (.iconst 0, 1) := by decide +kernel
theorem dX12_passes_1 : decode cX12_passes 1 = .ok (.istore_n 2, 1) := by decide +kernel
theorem dX12_passes_2 : decode cX12_passes 2 = .ok (.iload_n 2, 1) := by decide +kernel
theorem dX12_passes_3 : decode cX12_passes 3 = .ok (.iload_n 1, 1) := by decide +kernel
theorem dX12_passes_4 : decode cX12_passes 4 = .ok (.if_icmp .ge 13, 3) := by decide +kernel
theorem dX12_passes_7 : decode cX12_passes 7 = .ok (.aload_n 0, 1) := by decide +kernel
theorem dX12_passes_8 : decode cX12_passes 8 = .ok (.invokevirtual 197, 3) := by decide +kernel
theorem dX12_passes_11 : decode cX12_passes 11 = .ok (.iinc 2 1, 3) := by decide +kernel
theorem dX12_passes_14 : decode cX12_passes 14 = .ok (.goto (-12), 3) := by decide +kernel
theorem dX12_passes_17 : decode cX12_passes 17 = .ok (.return_, 1) := by decide +kernel
set_option maxHeartbeats 2000000 in
set_option maxRecDepth 20000 in
theorem c_passes {l : Launch} {D : va_G} {cI cG cW : ClassId} {o : Nat} {q : Nat → Nat} {V row kept tried bf fd pk bo so sh mv tr : Nat → Int32} (n : Nat) (hn : n < 1000) {nc np nw : Nat} (hI : Iv row nc np nw) : Cv l yX12_passes cX12_passes 3 none 84 D (tyL cI cG cW) (wR cI o q) [.ref o, .int (nI n)] (sR V row kept tried bf fd pk bo so sh mv tr) (fun τ => ∃ V1 pk1, VE V1 V ∧ τ = sR V1 (dawnsF np (wv V row nw) row n) kept tried bf fd pk1 bo so sh mv tr) := by
  refine Cv.of (by decide) (Nat.le_of_ble_eq_true rfl) ?_
  intro p_ e_ s_ m_ b_ M_ c_ A_ C
  replace C : Cx _ _ _ _ _ _ _ _ RX12 _ _ _ _ := C
  refine j_L [0, 1] [(0, .ref o), (1, .int (nI n))] rfl ?_
  refine j_iconst C (v := (nI 0)) dX12_passes_0 (by decide) ?_
  refine j_istore_n C [(2, .int (nI 0)), (0, .ref o), (1, .int (nI n))] dX12_passes_1 (by decide) rfl ?_
  refine j_L [1, 2, 0] [(0, .ref o), (1, .int (nI n)), (2, .int (nI 0))] rfl ?_
  refine j_loop (X := Nat × (Nat → Int32) × (Nat → Int32)) (fun (z : Nat × (Nat → Int32) × (Nat → Int32)) => match z with | (i, V1, pk1) => i ≤ n ∧ VE V1 V) (fun (z : Nat × (Nat → Int32) × (Nat → Int32)) => match z with | (i, V1, pk1) => n - i) (fun (z : Nat × (Nat → Int32) × (Nat → Int32)) => match z with | (i, V1, pk1) => (sR V1 (dawnsF np (wv V row nw) row i) kept tried bf fd pk1 bo so sh mv tr)) (fun (z : Nat × (Nat → Int32) × (Nat → Int32)) => match z with | (i, V1, pk1) => [(0, .ref o), (1, .int (nI n)), (2, .int (nI i))]) (0, V, pk) (⟨Nat.zero_le _, VE.rf⟩) rfl rfl ?_
  rintro ⟨i, V1, pk1⟩ ⟨hi, hV⟩ ih
  try dsimp only at ih ⊢
  obtain ⟨hIc, hFc⟩ := dawns_IF (wv V row nw) hI i
  have hwv := wv_eq nw hV hFc
  refine j_iload_n C 2 dX12_passes_2 rfl ?_
  refine j_iload_n C 1 dX12_passes_3 rfl ?_
  refine j_icmp_ge C 17 dX12_passes_4 (by decide) (fun c4 => ?_) (fun c4 => ?_)
  · rw [nI_leI (by omega) (by omega)] at c4
    obtain rfl : n = i := by omega
    refine j_vret C dX12_passes_17 ?_
    exact ⟨_, _, hV, rfl⟩
  · rw [nI_leI (by omega) (by omega)] at c4
    refine j_aload_n C 0 dX12_passes_7 rfl ?_
    refine j_callVv (As := []) (rest := []) C vw12_oneDawn (c_oneDawn hIc) rRcv rfl (Nat.le_of_ble_eq_true rfl) dX12_passes_8 (by decide) ?_
    rintro _ ⟨Vx1, pkx2, hVx1, hpkx2, rfl⟩
    refine j_iinc C (v := (nI (i + 1))) 2 [(2, .int (nI (i + 1))), (0, .ref o), (1, .int (nI n))] dX12_passes_11 rfl (nI_1 _) (by decide) rfl ?_
    refine j_goto C 2 dX12_passes_14 (by decide) ?_
    refine j_L [1, 2, 0] [(0, .ref o), (1, .int (nI n)), (2, .int (nI (i + 1)))] rfl ?_
    rw [hwv]
    exact ih (i + 1, Vx1, pkx2) ⟨by dsimp only; omega, hVx1.tr hV⟩ (by dsimp only; omega)
theorem dX12_hungrier_0 : decode cX12_hungrier 0 = .ok (.iconst 0, 1) := by decide +kernel
theorem dX12_hungrier_1 : decode cX12_hungrier 1 = .ok (.istore_n 1, 1) := by decide +kernel
theorem dX12_hungrier_2 : decode cX12_hungrier 2 = .ok (.iconst 0, 1) := by decide +kernel
theorem dX12_hungrier_3 : decode cX12_hungrier 3 = .ok (.istore_n 2, 1) := by decide +kernel
theorem dX12_hungrier_4 : decode cX12_hungrier 4 = .ok (.iload_n 2, 1) := by decide +kernel
theorem dX12_hungrier_5 : decode cX12_hungrier 5 = .ok (.aload_n 0, 1) := by decide +kernel
theorem dX12_hungrier_6 : decode cX12_hungrier 6 = .ok (.getfield 7, 3) := by decide +kernel
theorem dX12_hungrier_9 : decode cX12_hungrier 9 = .ok (.iconst 3, 1) := by decide +kernel
theorem dX12_hungrier_10 : decode cX12_hungrier 10 = .ok (.iaload, 1) := by decide +kernel
theorem dX12_hungrier_11 : decode cX12_hungrier 11 = .ok (.if_icmp .ge 42, 3) := by decide +kernel
theorem dX12_hungrier_14 : decode cX12_hungrier 14 = .ok (.iload_n 1, 1) := by decide +kernel
theorem dX12_hungrier_15 : decode cX12_hungrier 15 = .ok (.aload_n 0, 1) := by decide +kernel
theorem dX12_hungrier_16 : decode cX12_hungrier 16 = .ok (.iload_n 2, 1) := by decide +kernel
theorem dX12_hungrier_17 : decode cX12_hungrier 17 = .ok (.iconst 5, 1) := by decide +kernel
theorem dX12_hungrier_18 : decode cX12_hungrier 18 = .ok (.invokevirtual 69, 3) := by decide +kernel
theorem dX12_hungrier_21 : decode cX12_hungrier 21 = .ok (.aload_n 0, 1) := by decide +kernel
theorem dX12_hungrier_22 : decode cX12_hungrier 22 = .ok (.getfield 16, 3) := by decide +kernel
theorem dX12_hungrier_25 : decode cX12_hungrier 25 = .ok (.bipush 30, 2) := by decide +kernel
theorem dX12_hungrier_27 : decode cX12_hungrier 27 = .ok (.bipush 6, 2) := by decide +kernel
theorem dX12_hungrier_29 : decode cX12_hungrier 29 = .ok (.iload_n 2, 1) := by decide +kernel
theorem dX12_hungrier_30 : decode cX12_hungrier 30 = .ok (.imul, 1) := by decide +kernel
theorem dX12_hungrier_31 : decode cX12_hungrier 31 = .ok (.iadd, 1) := by decide +kernel
theorem dX12_hungrier_32 : decode cX12_hungrier 32 = .ok (.iconst 5, 1) := by decide +kernel
theorem dX12_hungrier_33 : decode cX12_hungrier 33 = .ok (.iadd, 1) := by decide +kernel
theorem dX12_hungrier_34 : decode cX12_hungrier 34 = .ok (.iaload, 1) := by decide +kernel
theorem dX12_hungrier_35 : decode cX12_hungrier 35 = .ok (.if_icmp .le 9, 3) := by decide +kernel
theorem dX12_hungrier_38 : decode cX12_hungrier 38 = .ok (.iconst 1, 1) := by decide +kernel
theorem dX12_hungrier_39 : decode cX12_hungrier 39 = .ok (.iload_n 2, 1) := by decide +kernel
theorem dX12_hungrier_40 : decode cX12_hungrier 40 = .ok (.ishl, 1) := by decide +kernel
theorem dX12_hungrier_41 : decode cX12_hungrier 41 = .ok (.goto 4, 3) := by decide +kernel
theorem dX12_hungrier_44 : decode cX12_hungrier 44 = .ok (.iconst 0, 1) := by decide +kernel
theorem dX12_hungrier_45 : decode cX12_hungrier 45 = .ok (.ior, 1) := by decide +kernel
theorem dX12_hungrier_46 : decode cX12_hungrier 46 = .ok (.istore_n 1, 1) := by decide +kernel
theorem dX12_hungrier_47 : decode cX12_hungrier 47 = .ok (.iinc 2 1, 3) := by decide +kernel
theorem dX12_hungrier_50 : decode cX12_hungrier 50 = .ok (.goto (-46), 3) := by decide +kernel
theorem dX12_hungrier_53 : decode cX12_hungrier 53 = .ok (.iload_n 1, 1) := by decide +kernel
theorem dX12_hungrier_54 : decode cX12_hungrier 54 = .ok (.ireturn, 1) := by decide +kernel
set_option maxHeartbeats 2000000 in
set_option maxRecDepth 20000 in
theorem c_hungrier {l : Launch} {D : va_G} {cI cG cW : ClassId} {o : Nat} {q : Nat → Nat} {V row kept tried bf fd pk bo so sh mv tr : Nat → Int32} {np : Nat} (e3 : row 3 = nI np) (hn6 : np ≤ 6) : Ci l yX12_hungrier cX12_hungrier 3 (some .int) 1 D (tyL cI cG cW) (wR cI o q) [.ref o] (sR V row kept tried bf fd pk bo so sh mv tr) (fun r τ => r = hunF row tried np ∧ τ = sR V row kept tried bf fd pk bo so sh mv tr) := by
  refine Ci.of (by decide) (Nat.le_of_ble_eq_true rfl) ?_
  intro p_ e_ s_ m_ b_ M_ c_ A_ C
  replace C : Cx _ _ _ _ _ _ _ _ RX12 _ _ _ _ := C
  refine j_L [0] [(0, .ref o)] rfl ?_
  refine j_iconst C (v := (nI 0)) dX12_hungrier_0 (by decide) ?_
  refine j_istore_n C [(1, .int (nI 0)), (0, .ref o)] dX12_hungrier_1 (by decide) rfl ?_
  refine j_iconst C (v := (nI 0)) dX12_hungrier_2 (by decide) ?_
  refine j_istore_n C [(2, .int (nI 0)), (1, .int (nI 0)), (0, .ref o)] dX12_hungrier_3 (by decide) rfl ?_
  refine j_L [2, 1, 0] [(0, .ref o), (1, .int (nI 0)), (2, .int (nI 0))] rfl ?_
  refine j_loop (X := Nat × Int32) (fun (z : Nat × Int32) => match z with | (i, a) => i ≤ np ∧ a = hunF row tried i) (fun (z : Nat × Int32) => match z with | (i, a) => np - i) (fun (z : Nat × Int32) => match z with | (i, a) => (sR V row kept tried bf fd pk bo so sh mv tr)) (fun (z : Nat × Int32) => match z with | (i, a) => [(0, .ref o), (1, .int a), (2, .int (nI i))]) (0, 0) (⟨Nat.zero_le _, rfl⟩) rfl rfl ?_
  rintro ⟨i, a⟩ ⟨hi, ha⟩ ih
  try dsimp only at ih ⊢
  refine j_iload_n C 2 dX12_hungrier_4 rfl ?_
  refine j_aload_n C 0 dX12_hungrier_5 rfl ?_
  refine rg C (v := .ref (q 0)) 0 (by decide) kf12_7 rfl dX12_hungrier_6 ?_
  refine j_iconst C (v := (nI 3)) dX12_hungrier_9 (by decide) ?_
  refine rl_row C 3 rfl (by omega) dX12_hungrier_10 ?_
  refine j_v (nI np) e3 ?_
  refine j_icmp_ge C 53 dX12_hungrier_11 (by decide) (fun c11 => ?_) (fun c11 => ?_)
  · rw [nI_leI (by omega) (by omega)] at c11
    refine j_iload_n C 1 dX12_hungrier_53 rfl ?_
    refine j_iret C dX12_hungrier_54 ?_
    obtain rfl : i = np := by omega
    exact ⟨ha, rfl⟩
  · rw [nI_leI (by omega) (by omega)] at c11
    refine j_iload_n C 1 dX12_hungrier_14 rfl ?_
    refine j_aload_n C 0 dX12_hungrier_15 rfl ?_
    refine j_iload_n C 2 dX12_hungrier_16 rfl ?_
    refine j_iconst C (v := (nI 5)) dX12_hungrier_17 (by decide) ?_
    refine j_callV (As := [.int (nI i), .int (nI 5)]) (rest := [.int a]) C vw12_its (c_its i 5 (by omega)) rRcv rfl (Nat.le_of_ble_eq_true rfl) dX12_hungrier_18 (by decide) ?_
    rintro _ _ ⟨rfl, rfl⟩
    refine j_aload_n C 0 dX12_hungrier_21 rfl ?_
    refine rg C (v := .ref (q 2)) 2 (by decide) kf12_16 rfl dX12_hungrier_22 ?_
    refine j_bipush C (v := (nI 30)) dX12_hungrier_25 (by decide) ?_
    refine j_bipush C (v := (nI 6)) dX12_hungrier_27 (by decide) ?_
    refine j_iload_n C 2 dX12_hungrier_29 rfl ?_
    refine j_imulN C dX12_hungrier_30 ?_
    refine j_iaddN C dX12_hungrier_31 ?_
    refine j_iconst C (v := (nI 5)) dX12_hungrier_32 (by decide) ?_
    refine j_iaddN C dX12_hungrier_33 ?_
    refine rl_tried C (30 + 6 * i + 5) rfl (by omega) dX12_hungrier_34 ?_
    refine j_icmp_le C 44 dX12_hungrier_35 (by decide) (fun c35 => ?_) (fun c35 => ?_)
    · skip
      refine j_iconst C (v := (nI 0)) dX12_hungrier_44 (by decide) ?_
      refine j_ior C dX12_hungrier_45 ?_
      refine j_istore_n C [(1, .int (a ||| (nI 0))), (0, .ref o), (2, .int (nI i))] dX12_hungrier_46 (by decide) rfl ?_
      refine j_iinc C (v := (nI (i + 1))) 2 [(2, .int (nI (i + 1))), (1, .int (a ||| (nI 0))), (0, .ref o)] dX12_hungrier_47 rfl (nI_1 _) (by decide) rfl ?_
      refine j_goto C 4 dX12_hungrier_50 (by decide) ?_
      refine j_L [2, 1, 0] [(0, .ref o), (1, .int (a ||| (nI 0))), (2, .int (nI (i + 1)))] rfl ?_
      exact ih (i + 1, a ||| (nI 0)) (⟨by dsimp only; omega, by dsimp only; rw [hunF, ← ha, if_neg (lnl c35)]⟩) (by dsimp only; omega)
    · skip
      refine j_iconst C (v := (nI 1)) dX12_hungrier_38 (by decide) ?_
      refine j_iload_n C 2 dX12_hungrier_39 rfl ?_
      refine j_ishl C dX12_hungrier_40 ?_
      refine j_goto C 45 dX12_hungrier_41 (by decide) ?_
      refine j_ior C dX12_hungrier_45 ?_
      refine j_istore_n C [(1, .int (a ||| ((nI 1) <<< ((nI i) &&& 31)))), (0, .ref o), (2, .int (nI i))] dX12_hungrier_46 (by decide) rfl ?_
      refine j_iinc C (v := (nI (i + 1))) 2 [(2, .int (nI (i + 1))), (1, .int (a ||| ((nI 1) <<< ((nI i) &&& 31)))), (0, .ref o)] dX12_hungrier_47 rfl (nI_1 _) (by decide) rfl ?_
      refine j_goto C 4 dX12_hungrier_50 (by decide) ?_
      refine j_L [2, 1, 0] [(0, .ref o), (1, .int (a ||| ((nI 1) <<< ((nI i) &&& 31)))), (2, .int (nI (i + 1)))] rfl ?_
      exact ih (i + 1, a ||| ((nI 1) <<< ((nI i) &&& 31))) (⟨by dsimp only; omega, by dsimp only; rw [hunF, ← ha, if_pos (nle c35)]⟩) (by dsimp only; omega)
theorem dX12_starving_0 : decode cX12_starving 0 = .ok (.aload_n 0, 1) := by decide +kernel
theorem dX12_starving_1 : decode cX12_starving 1 = .ok (.aload_n 0, 1) := by decide +kernel
theorem dX12_starving_2 : decode cX12_starving 2 = .ok (.getfield 7, 3) := by decide +kernel
theorem dX12_starving_5 : decode cX12_starving 5 = .ok (.aload_n 0, 1) := by decide +kernel
theorem dX12_starving_6 : decode cX12_starving 6 = .ok (.getfield 16, 3) := by decide +kernel
theorem dX12_starving_9 : decode cX12_starving 9 = .ok (.invokevirtual 171, 3) := by decide +kernel
theorem dX12_starving_12 : decode cX12_starving 12 = .ok (.aload_n 0, 1) := by decide +kernel
theorem dX12_starving_13 : decode cX12_starving 13 = .ok (.iload_n 1, 1) := by decide +kernel
theorem dX12_starving_14 : decode cX12_starving 14 = .ok (.invokevirtual 200, 3) := by decide +kernel
theorem dX12_starving_17 : decode cX12_starving 17 = .ok (.aload_n 0, 1) := by decide +kernel
theorem dX12_starving_18 : decode cX12_starving 18 = .ok (.invokevirtual 210, 3) := by decide +kernel
theorem dX12_starving_21 : decode cX12_starving 21 = .ok (.istore_n 2, 1) := by decide +kernel
theorem dX12_starving_22 : decode cX12_starving 22 = .ok (.aload_n 0, 1) := by decide +kernel
theorem dX12_starving_23 : decode cX12_starving 23 = .ok (.aload_n 0, 1) := by decide +kernel
theorem dX12_starving_24 : decode cX12_starving 24 = .ok (.getfield 16, 3) := by decide +kernel
theorem dX12_starving_27 : decode cX12_starving 27 = .ok (.aload_n 0, 1) := by decide +kernel
theorem dX12_starving_28 : decode cX12_starving 28 = .ok (.getfield 7, 3) := by decide +kernel
theorem dX12_starving_31 : decode cX12_starving 31 = .ok (.invokevirtual 171, 3) := by decide +kernel
theorem dX12_starving_34 : decode cX12_starving 34 = .ok (.iload_n 2, 1) := by decide +kernel
theorem dX12_starving_35 : decode cX12_starving 35 = .ok (.ireturn, 1) := by decide +kernel
set_option maxHeartbeats 2000000 in
set_option maxRecDepth 20000 in
theorem c_starving {l : Launch} {D : va_G} {cI cG cW : ClassId} {o : Nat} {q : Nat → Nat} {V row kept tried bf fd pk bo so sh mv tr : Nat → Int32} (n : Nat) (hn : n < 1000) {nc np nw : Nat} (hI : Iv row nc np nw) : Ci l yX12_starving cX12_starving 3 (some .int) 85 D (tyL cI cG cW) (wR cI o q) [.ref o, .int (nI n)] (sR V row kept tried bf fd pk bo so sh mv tr) (fun r τ => ∃ V1 pk1, VE V1 V ∧ r = hunF (dawnsF np (wv V row nw) row n) row np ∧ τ = sR V1 row kept row bf fd pk1 bo so sh mv tr) := by
  refine Ci.of (by decide) (Nat.le_of_ble_eq_true rfl) ?_
  intro p_ e_ s_ m_ b_ M_ c_ A_ C
  replace C : Cx _ _ _ _ _ _ _ _ RX12 _ _ _ _ := C
  refine j_L [0, 1] [(0, .ref o), (1, .int (nI n))] rfl ?_
  have hIc := hI
  refine j_aload_n C 0 dX12_starving_0 rfl ?_
  refine j_aload_n C 0 dX12_starving_1 rfl ?_
  refine rg C (v := .ref (q 0)) 0 (by decide) kf12_7 rfl dX12_starving_2 ?_
  refine j_aload_n C 0 dX12_starving_5 rfl ?_
  refine rg C (v := .ref (q 2)) 2 (by decide) kf12_16 rfl dX12_starving_6 ?_
  refine j_callVv (As := [.ref (q 0), .ref (q 2)]) (rest := []) C vw12_moveAll (c_moveAll_row_tried) rRcv rfl (Nat.le_of_ble_eq_true rfl) dX12_starving_9 (by decide) ?_
  rintro _ rfl
  refine j_aload_n C 0 dX12_starving_12 rfl ?_
  refine j_iload_n C 1 dX12_starving_13 rfl ?_
  refine j_callVv (As := [.int (nI n)]) (rest := []) C vw12_passes (c_passes n (by omega) hIc) rRcv rfl (Nat.le_of_ble_eq_true rfl) dX12_starving_14 (by decide) ?_
  rintro _ ⟨Vx1, pkx2, hVx1, rfl⟩
  have hIc := (dawns_IF (wv V row nw) hI n).1
  refine j_aload_n C 0 dX12_starving_17 rfl ?_
  refine j_callV (As := []) (rest := []) C vw12_hungrier (c_hungrier hIc.2.1.1 hIc.2.1.2) rRcv rfl (Nat.le_of_ble_eq_true rfl) dX12_starving_18 (by decide) ?_
  rintro _ _ ⟨rfl, rfl⟩
  refine j_istore_n C [(2, .int (hunF (dawnsF np (wv V row nw) row n) row np)), (0, .ref o), (1, .int (nI n))] dX12_starving_21 (by decide) rfl ?_
  refine j_aload_n C 1 dX12_starving_22 rfl ?_
  refine j_aload_n C 1 dX12_starving_23 rfl ?_
  refine rg C (v := .ref (q 2)) 2 (by decide) kf12_16 rfl dX12_starving_24 ?_
  refine j_aload_n C 1 dX12_starving_27 rfl ?_
  refine rg C (v := .ref (q 0)) 0 (by decide) kf12_7 rfl dX12_starving_28 ?_
  refine j_callVv (As := [.ref (q 2), .ref (q 0)]) (rest := []) C vw12_moveAll (c_moveAll_tried_row) rRcv rfl (Nat.le_of_ble_eq_true rfl) dX12_starving_31 (by decide) ?_
  rintro _ rfl
  refine j_iload_n C 0 dX12_starving_34 rfl ?_
  refine j_iret C dX12_starving_35 ?_
  exact ⟨_, _, hVx1, rfl, rfl⟩
theorem dX12_drawn_0 : decode cX12_drawn 0 = .ok (.aload_n 0, 1) := by decide +kernel
theorem dX12_drawn_1 : decode cX12_drawn 1 = .ok (.getfield 7, 3) := by decide +kernel
theorem dX12_drawn_4 : decode cX12_drawn 4 = .ok (.iconst 1, 1) := by decide +kernel
theorem dX12_drawn_5 : decode cX12_drawn 5 = .ok (.aload_n 0, 1) := by decide +kernel
theorem dX12_drawn_6 : decode cX12_drawn 6 = .ok (.getfield 7, 3) := by decide +kernel
theorem dX12_drawn_9 : decode cX12_drawn 9 = .ok (.iconst 1, 1) := by decide +kernel
theorem dX12_drawn_10 : decode cX12_drawn 10 = .ok (.iaload, 1) := by decide +kernel
theorem dX12_drawn_11 : decode cX12_drawn 11 = .ok (.ldc 206, 2) := by decide +kernel
theorem dX12_drawn_13 : decode cX12_drawn 13 = .ok (.imul, 1) := by decide +kernel
theorem dX12_drawn_14 : decode cX12_drawn 14 = .ok (.sipush 12345, 3) := by decide +kernel
theorem dX12_drawn_17 : decode cX12_drawn 17 = .ok (.iadd, 1) := by decide +kernel
theorem dX12_drawn_18 : decode cX12_drawn 18 = .ok (.iastore, 1) := by decide +kernel
theorem dX12_drawn_19 : decode cX12_drawn 19 = .ok (.aload_n 0, 1) := by decide +kernel
theorem dX12_drawn_20 : decode cX12_drawn 20 = .ok (.getfield 7, 3) := by decide +kernel
theorem dX12_drawn_23 : decode cX12_drawn 23 = .ok (.iconst 1, 1) := by decide +kernel
theorem dX12_drawn_24 : decode cX12_drawn 24 = .ok (.iaload, 1) := by decide +kernel
theorem dX12_drawn_25 : decode cX12_drawn 25 = .ok (.bipush 8, 2) := by decide +kernel
theorem dX12_drawn_27 : decode cX12_drawn 27 = .ok (.iushr, 1) := by decide +kernel
theorem dX12_drawn_28 : decode cX12_drawn 28 = .ok (.iload_n 1, 1) := by decide +kernel
theorem dX12_drawn_29 : decode cX12_drawn 29 = .ok (.irem, 1) := by decide +kernel
theorem dX12_drawn_30 : decode cX12_drawn 30 = .ok (.ireturn, 1) := by decide +kernel
set_option maxHeartbeats 2000000 in
set_option maxRecDepth 20000 in
theorem c_drawn {l : Launch} {D : va_G} {cI cG cW : ClassId} {o : Nat} {q : Nat → Nat} {V row kept tried bf fd pk bo so sh mv tr : Nat → Int32} (b : Nat) (hb : 0 < b) (hb2 : b < 2 ^ 31) : Ci l yX12_drawn cX12_drawn 2 (some .int) 0 D (tyL cI cG cW) (wR cI o q) [.ref o, .int (nI b)] (sR V row kept tried bf fd pk bo so sh mv tr) (fun r τ => r = rem (((row 1 * 1103515245 + nI 12345).toUInt32 >>> ((nI 8).toUInt32 &&& Int32.toUInt32 31)).toInt32) (nI b) ∧ τ = sR V (upd row 1 (row 1 * 1103515245 + nI 12345)) kept tried bf fd pk bo so sh mv tr) := by
  refine Ci.of (by decide) (Nat.le_of_ble_eq_true rfl) ?_
  intro p_ e_ s_ m_ b_ M_ c_ A_ C
  replace C : Cx _ _ _ _ _ _ _ _ RX12 _ _ _ _ := C
  refine j_L [0, 1] [(0, .ref o), (1, .int (nI b))] rfl ?_
  have hnz : ¬ nI b = 0 := nI_ne0 hb hb2
  refine j_aload_n C 0 dX12_drawn_0 rfl ?_
  refine rg C (v := .ref (q 0)) 0 (by decide) kf12_7 rfl dX12_drawn_1 ?_
  refine j_iconst C (v := (nI 1)) dX12_drawn_4 (by decide) ?_
  refine j_aload_n C 0 dX12_drawn_5 rfl ?_
  refine rg C (v := .ref (q 0)) 0 (by decide) kf12_7 rfl dX12_drawn_6 ?_
  refine j_iconst C (v := (nI 1)) dX12_drawn_9 (by decide) ?_
  refine rl_row C 1 rfl (by omega) dX12_drawn_10 ?_
  refine j_ldc C (1103515245) dX12_drawn_11 kc12_206 ?_
  refine j_imul C dX12_drawn_13 ?_
  refine j_sipush C (v := (nI 12345)) dX12_drawn_14 (by decide) ?_
  refine j_iadd C dX12_drawn_17 ?_
  refine rs_row C 1 rfl (by omega) dX12_drawn_18 ?_
  refine j_aload_n C 0 dX12_drawn_19 rfl ?_
  refine rg C (v := .ref (q 0)) 0 (by decide) kf12_7 rfl dX12_drawn_20 ?_
  refine j_iconst C (v := (nI 1)) dX12_drawn_23 (by decide) ?_
  refine rl_row C 1 rfl (by omega) dX12_drawn_24 ?_
  refine j_v (row 1 * 1103515245 + nI 12345) (by rw [pk_us]) ?_
  refine j_bipush C (v := (nI 8)) dX12_drawn_25 (by decide) ?_
  refine j_iushr C dX12_drawn_27 ?_
  refine j_iload_n C 1 dX12_drawn_28 rfl ?_
  refine j_irem C dX12_drawn_29 (by assumption) ?_
  refine j_iret C dX12_drawn_30 ?_
  exact ⟨rfl, rfl⟩
def earF (row : Nat → Int32) : Nat → Int32
  | 0 => 0
  | n + 1 => earF row n + row (10 + n)
theorem dX12_earsOfAll_0 : decode cX12_earsOfAll 0 = .ok (.iconst 0, 1) := by decide +kernel
theorem dX12_earsOfAll_1 : decode cX12_earsOfAll 1 = .ok (.istore_n 1, 1) := by decide +kernel
theorem dX12_earsOfAll_2 : decode cX12_earsOfAll 2 = .ok (.iconst 0, 1) := by decide +kernel
theorem dX12_earsOfAll_3 : decode cX12_earsOfAll 3 = .ok (.istore_n 2, 1) := by decide +kernel
theorem dX12_earsOfAll_4 : decode cX12_earsOfAll 4 = .ok (.iload_n 2, 1) := by decide +kernel
theorem dX12_earsOfAll_5 : decode cX12_earsOfAll 5 = .ok (.aload_n 0, 1) := by decide +kernel
theorem dX12_earsOfAll_6 : decode cX12_earsOfAll 6 = .ok (.getfield 7, 3) := by decide +kernel
theorem dX12_earsOfAll_9 : decode cX12_earsOfAll 9 = .ok (.iconst 2, 1) := by decide +kernel
theorem dX12_earsOfAll_10 : decode cX12_earsOfAll 10 = .ok (.iaload, 1) := by decide +kernel
theorem dX12_earsOfAll_11 : decode cX12_earsOfAll 11 = .ok (.if_icmp .ge 21, 3) := by decide +kernel
theorem dX12_earsOfAll_14 : decode cX12_earsOfAll 14 = .ok (.iload_n 1, 1) := by decide +kernel
theorem dX12_earsOfAll_15 : decode cX12_earsOfAll 15 = .ok (.aload_n 0, 1) := by decide +kernel
theorem dX12_earsOfAll_16 : decode cX12_earsOfAll 16 = .ok (.getfield 7, 3) := by decide +kernel
theorem dX12_earsOfAll_19 : decode cX12_earsOfAll 19 = .ok (.bipush 10, 2) := by decide +kernel
theorem dX12_earsOfAll_21 : decode cX12_earsOfAll 21 = .ok (.iload_n 2, 1) := by decide +kernel
theorem dX12_earsOfAll_22 : decode cX12_earsOfAll 22 = .ok (.iadd, 1) := by decide +kernel
theorem dX12_earsOfAll_23 : decode cX12_earsOfAll 23 = .ok (.iaload, 1) := by decide +kernel
theorem dX12_earsOfAll_24 : decode cX12_earsOfAll 24 = .ok (.iadd, 1) := by decide +kernel
theorem dX12_earsOfAll_25 : decode cX12_earsOfAll 25 = .ok (.istore_n 1, 1) := by decide +kernel
theorem dX12_earsOfAll_26 : decode cX12_earsOfAll 26 = .ok (.iinc 2 1, 3) := by decide +kernel
theorem dX12_earsOfAll_29 : decode cX12_earsOfAll 29 = .ok (.goto (-25), 3) := by decide +kernel
theorem dX12_earsOfAll_32 : decode cX12_earsOfAll 32 = .ok (.iload_n 1, 1) := by decide +kernel
theorem dX12_earsOfAll_33 : decode cX12_earsOfAll 33 = .ok (.ireturn, 1) := by decide +kernel
set_option maxHeartbeats 2000000 in
set_option maxRecDepth 20000 in
theorem c_earsOfAll {l : Launch} {D : va_G} {cI cG cW : ClassId} {o : Nat} {q : Nat → Nat} {V row kept tried bf fd pk bo so sh mv tr : Nat → Int32} {nc : Nat} (e2 : row 2 = nI nc) (hc : nc ≤ 10) : Ci l yX12_earsOfAll cX12_earsOfAll 3 (some .int) 1 D (tyL cI cG cW) (wR cI o q) [.ref o] (sR V row kept tried bf fd pk bo so sh mv tr) (fun r τ => r = earF row nc ∧ τ = sR V row kept tried bf fd pk bo so sh mv tr) := by
  refine Ci.of (by decide) (Nat.le_of_ble_eq_true rfl) ?_
  intro p_ e_ s_ m_ b_ M_ c_ A_ C
  replace C : Cx _ _ _ _ _ _ _ _ RX12 _ _ _ _ := C
  refine j_L [0] [(0, .ref o)] rfl ?_
  refine j_iconst C (v := (nI 0)) dX12_earsOfAll_0 (by decide) ?_
  refine j_istore_n C [(1, .int (nI 0)), (0, .ref o)] dX12_earsOfAll_1 (by decide) rfl ?_
  refine j_iconst C (v := (nI 0)) dX12_earsOfAll_2 (by decide) ?_
  refine j_istore_n C [(2, .int (nI 0)), (1, .int (nI 0)), (0, .ref o)] dX12_earsOfAll_3 (by decide) rfl ?_
  refine j_L [2, 1, 0] [(0, .ref o), (1, .int (nI 0)), (2, .int (nI 0))] rfl ?_
  refine j_loop (X := Nat × Int32) (fun (z : Nat × Int32) => match z with | (i, a) => i ≤ nc ∧ a = earF row i) (fun (z : Nat × Int32) => match z with | (i, a) => nc - i) (fun (z : Nat × Int32) => match z with | (i, a) => (sR V row kept tried bf fd pk bo so sh mv tr)) (fun (z : Nat × Int32) => match z with | (i, a) => [(0, .ref o), (1, .int a), (2, .int (nI i))]) (0, 0) (⟨Nat.zero_le _, rfl⟩) rfl rfl ?_
  rintro ⟨i, a⟩ ⟨hi, ha⟩ ih
  try dsimp only at ih ⊢
  refine j_iload_n C 2 dX12_earsOfAll_4 rfl ?_
  refine j_aload_n C 0 dX12_earsOfAll_5 rfl ?_
  refine rg C (v := .ref (q 0)) 0 (by decide) kf12_7 rfl dX12_earsOfAll_6 ?_
  refine j_iconst C (v := (nI 2)) dX12_earsOfAll_9 (by decide) ?_
  refine rl_row C 2 rfl (by omega) dX12_earsOfAll_10 ?_
  refine j_v (nI nc) e2 ?_
  refine j_icmp_ge C 32 dX12_earsOfAll_11 (by decide) (fun c11 => ?_) (fun c11 => ?_)
  · rw [nI_leI (by omega) (by omega)] at c11
    refine j_iload_n C 1 dX12_earsOfAll_32 rfl ?_
    refine j_iret C dX12_earsOfAll_33 ?_
    obtain rfl : i = nc := by omega
    exact ⟨ha, rfl⟩
  · rw [nI_leI (by omega) (by omega)] at c11
    refine j_iload_n C 1 dX12_earsOfAll_14 rfl ?_
    refine j_aload_n C 0 dX12_earsOfAll_15 rfl ?_
    refine rg C (v := .ref (q 0)) 0 (by decide) kf12_7 rfl dX12_earsOfAll_16 ?_
    refine j_bipush C (v := (nI 10)) dX12_earsOfAll_19 (by decide) ?_
    refine j_iload_n C 2 dX12_earsOfAll_21 rfl ?_
    refine j_iaddN C dX12_earsOfAll_22 ?_
    refine rl_row C (10 + i) rfl (by omega) dX12_earsOfAll_23 ?_
    refine j_iadd C dX12_earsOfAll_24 ?_
    refine j_istore_n C [(1, .int (a + (row (10 + i)))), (0, .ref o), (2, .int (nI i))] dX12_earsOfAll_25 (by decide) rfl ?_
    refine j_iinc C (v := (nI (i + 1))) 2 [(2, .int (nI (i + 1))), (1, .int (a + (row (10 + i)))), (0, .ref o)] dX12_earsOfAll_26 rfl (nI_1 _) (by decide) rfl ?_
    refine j_goto C 4 dX12_earsOfAll_29 (by decide) ?_
    refine j_L [2, 1, 0] [(0, .ref o), (1, .int (a + (row (10 + i)))), (2, .int (nI (i + 1)))] rfl ?_
    exact ih (i + 1, a + (row (10 + i))) (⟨by dsimp only; omega, by dsimp only; rw [earF, ← ha]⟩) (by dsimp only; omega)

/-! The reference's reader: comparisons, units, and all levels. -/
theorem numF_nI {b : Nat → Int32} {n : Nat} (F k x : Nat) (hx : (x + 1) * 10 ^ F < 2 ^ 30) : ∃ y, y < (x + 1) * 10 ^ F ∧ (numF b n F k (nI x)).2 = nI y := by
  induction F generalizing k x with
  | zero => exact ⟨x, by omega, rfl⟩
  | succ F ih =>
    unfold numF
    have hp : (x + 1) * 10 ^ (F + 1) = 10 * ((x + 1) * 10 ^ F) := by rw [Nat.pow_succ]; rw [← Nat.mul_assoc, Nat.mul_comm]
    have hx1 : x + 1 ≤ (x + 1) * 10 ^ F := Nat.le_mul_of_pos_right _ (Nat.pow_pos (by omega))
    by_cases h : inn (bytF b n k) 48 57
    · rw [if_pos h]
      obtain ⟨j, h1, h2, e⟩ := inn_lit (a := 48) (b := 57) h (by omega)
      rw [e, pk_mul, nI_add, pk_sub (by omega)]
      have hle : (10 * x + j - 48 + 1) * 10 ^ F ≤ (x + 1) * 10 ^ (F + 1) := by
        rw [Nat.pow_succ, Nat.mul_comm (10 ^ F) 10, ← Nat.mul_assoc]
        exact Nat.mul_le_mul_right _ (by omega)
      obtain ⟨y, hy, ey⟩ := ih (k + 1) (10 * x + j - 48) (by omega)
      exact ⟨y, by omega, ey⟩
    · rw [if_neg h]
      exact ⟨x, by omega, rfl⟩
theorem num_nn (b : Nat → Int32) (n k : Nat) : 0 ≤ (numF b n 4 k 0).2 := by
  obtain ⟨y, hy, ey⟩ := numF_nI (b := b) (n := n) 4 k 0 (by omega)
  have e0 : (numF b n 4 k 0).2 = nI y := ey
  rw [e0]
  exact nI_pos' (by omega)

theorem dX12_compared_0 : decode cX12_compared 0 = .ok (.aload_n 0, 1) := by decide +kernel
theorem dX12_compared_1 : decode cX12_compared 1 = .ok (.invokevirtual 149, 3) := by decide +kernel
theorem dX12_compared_4 : decode cX12_compared 4 = .ok (.istore_n 1, 1) := by decide +kernel
theorem dX12_compared_5 : decode cX12_compared 5 = .ok (.aload_n 0, 1) := by decide +kernel
theorem dX12_compared_6 : decode cX12_compared 6 = .ok (.getfield 105, 3) := by decide +kernel
theorem dX12_compared_9 : decode cX12_compared 9 = .ok (.ifCond .eq 14, 3) := by decide +kernel
theorem dX12_compared_12 : decode cX12_compared 12 = .ok (.aload_n 0, 1) := by decide +kernel
theorem dX12_compared_13 : decode cX12_compared 13 = .ok (.aload_n 0, 1) := by decide +kernel
theorem dX12_compared_14 : decode cX12_compared 14 = .ok (.getfield 109, 3) := by decide +kernel
theorem dX12_compared_17 : decode cX12_compared 17 = .ok (.invokevirtual 112, 3) := by decide +kernel
theorem dX12_compared_20 : decode cX12_compared 20 = .ok (.goto 4, 3) := by decide +kernel
theorem dX12_compared_23 : decode cX12_compared 23 = .ok (.iconst (-1), 1) := by decide +kernel
theorem dX12_compared_24 : decode cX12_compared 24 = .ok (.istore_n 2, 1) := by decide +kernel
theorem dX12_compared_25 : decode cX12_compared 25 = .ok (.iload_n 2, 1) := by decide +kernel
theorem dX12_compared_26 : decode cX12_compared 26 = .ok (.bipush 60, 2) := by decide +kernel
theorem dX12_compared_28 : decode cX12_compared 28 = .ok (.if_icmp .eq 17, 3) := by decide +kernel
theorem dX12_compared_31 : decode cX12_compared 31 = .ok (.iload_n 2, 1) := by decide +kernel
theorem dX12_compared_32 : decode cX12_compared 32 = .ok (.bipush 61, 2) := by decide +kernel
theorem dX12_compared_34 : decode cX12_compared 34 = .ok (.if_icmp .eq 11, 3) := by decide +kernel
theorem dX12_compared_37 : decode cX12_compared 37 = .ok (.iload_n 2, 1) := by decide +kernel
theorem dX12_compared_38 : decode cX12_compared 38 = .ok (.bipush 62, 2) := by decide +kernel
theorem dX12_compared_40 : decode cX12_compared 40 = .ok (.if_icmp .eq 5, 3) := by decide +kernel
theorem dX12_compared_43 : decode cX12_compared 43 = .ok (.iload_n 1, 1) := by decide +kernel
theorem dX12_compared_44 : decode cX12_compared 44 = .ok (.ireturn, 1) := by decide +kernel
theorem dX12_compared_45 : decode cX12_compared 45 = .ok (.aload_n 0, 1) := by decide +kernel
theorem dX12_compared_46 : decode cX12_compared 46 = .ok (.dup, 1) := by decide +kernel
theorem dX12_compared_47 : decode cX12_compared 47 = .ok (.getfield 109, 3) := by decide +kernel
theorem dX12_compared_50 : decode cX12_compared 50 = .ok (.iconst 1, 1) := by decide +kernel
theorem dX12_compared_51 : decode cX12_compared 51 = .ok (.iadd, 1) := by decide +kernel
theorem dX12_compared_52 : decode cX12_compared 52 = .ok (.putfield 109, 3) := by decide +kernel
theorem dX12_compared_55 : decode cX12_compared 55 = .ok (.aload_n 0, 1) := by decide +kernel
theorem dX12_compared_56 : decode cX12_compared 56 = .ok (.invokevirtual 149, 3) := by decide +kernel
theorem dX12_compared_59 : decode cX12_compared 59 = .ok (.istore_n 3, 1) := by decide +kernel
theorem dX12_compared_60 : decode cX12_compared 60 = .ok (.iload_n 2, 1) := by decide +kernel
theorem dX12_compared_61 : decode cX12_compared 61 = .ok (.bipush 60, 2) := by decide +kernel
theorem dX12_compared_63 : decode cX12_compared 63 = .ok (.if_icmp .ne 16, 3) := by decide +kernel
theorem dX12_compared_66 : decode cX12_compared 66 = .ok (.iload_n 1, 1) := by decide +kernel
theorem dX12_compared_67 : decode cX12_compared 67 = .ok (.iload_n 3, 1) := by decide +kernel
theorem dX12_compared_68 : decode cX12_compared 68 = .ok (.if_icmp .ge 7, 3) := by decide +kernel
theorem dX12_compared_71 : decode cX12_compared 71 = .ok (.iconst 1, 1) := by decide +kernel
theorem dX12_compared_72 : decode cX12_compared 72 = .ok (.goto 36, 3) := by decide +kernel
theorem dX12_compared_75 : decode cX12_compared 75 = .ok (.iconst 0, 1) := by decide +kernel
theorem dX12_compared_76 : decode cX12_compared 76 = .ok (.goto 32, 3) := by decide +kernel
theorem dX12_compared_79 : decode cX12_compared 79 = .ok (.iload_n 2, 1) := by decide +kernel
theorem dX12_compared_80 : decode cX12_compared 80 = .ok (.bipush 61, 2) := by decide +kernel
theorem dX12_compared_82 : decode cX12_compared 82 = .ok (.if_icmp .ne 16, 3) := by decide +kernel
theorem dX12_compared_85 : decode cX12_compared 85 = .ok (.iload_n 1, 1) := by decide +kernel
theorem dX12_compared_86 : decode cX12_compared 86 = .ok (.iload_n 3, 1) := by decide +kernel
theorem dX12_compared_87 : decode cX12_compared 87 = .ok (.if_icmp .ne 7, 3) := by decide +kernel
theorem dX12_compared_90 : decode cX12_compared 90 = .ok (.iconst 1, 1) := by decide +kernel
theorem dX12_compared_91 : decode cX12_compared 91 = .ok (.goto 17, 3) := by decide +kernel
theorem dX12_compared_94 : decode cX12_compared 94 = .ok (.iconst 0, 1) := by decide +kernel
theorem dX12_compared_95 : decode cX12_compared 95 = .ok (.goto 13, 3) := by decide +kernel
theorem dX12_compared_98 : decode cX12_compared 98 = .ok (.iload_n 1, 1) := by decide +kernel
theorem dX12_compared_99 : decode cX12_compared 99 = .ok (.iload_n 3, 1) := by decide +kernel
theorem dX12_compared_100 : decode cX12_compared 100 = .ok (.if_icmp .le 7, 3) := by decide +kernel
theorem dX12_compared_103 : decode cX12_compared 103 = .ok (.iconst 1, 1) := by decide +kernel
theorem dX12_compared_104 : decode cX12_compared 104 = .ok (.goto 4, 3) := by decide +kernel
theorem dX12_compared_107 : decode cX12_compared 107 = .ok (.iconst 0, 1) := by decide +kernel
theorem dX12_compared_108 : decode cX12_compared 108 = .ok (.istore 4, 2) := by decide +kernel
theorem dX12_compared_110 : decode cX12_compared 110 = .ok (.iload 4, 2) := by decide +kernel
theorem dX12_compared_112 : decode cX12_compared 112 = .ok (.ifCond .eq 7, 3) := by decide +kernel
theorem dX12_compared_115 : decode cX12_compared 115 = .ok (.iconst 1, 1) := by decide +kernel
theorem dX12_compared_116 : decode cX12_compared 116 = .ok (.goto 4, 3) := by decide +kernel
theorem dX12_compared_119 : decode cX12_compared 119 = .ok (.iconst 0, 1) := by decide +kernel
theorem dX12_compared_120 : decode cX12_compared 120 = .ok (.ireturn, 1) := by decide +kernel
set_option maxHeartbeats 2000000 in
set_option maxRecDepth 20000 in
theorem c_compared {l : Launch} {D : va_G} {cI cG cW : ClassId} {o : Nat} {q : Nat → Nat} {row kept tried bf fd pk bo so sh mv tr : Nat → Int32} {u n : Nat} {a b c : Int32} (hu : u ≤ 1) (hn : n ≤ 50) (f : Nat) (IH : ∀ f', f' < f → PC l D cI cG cW o q row kept tried bf fd pk bo so sh mv tr u n a b c yX12_sum cX12_sum 4 3 f') : PC l D cI cG cW o q row kept tried bf fd pk bo so sh mv tr u n a b c yX12_compared cX12_compared 5 2 f := by
  intro V op k code hp hop hk hf
  obtain ⟨f, rfl⟩ : ∃ f', f = f' + 2 := ⟨f - 2, by omega⟩
  refine Ci.of (by decide) (Nat.le_of_ble_eq_true rfl) ?_
  intro p_ e_ s_ m_ b_ M_ c_ A_ C
  replace C : Cx _ _ _ _ _ _ _ _ RX12 _ _ _ _ := C
  refine j_L [0] [(0, .ref o)] rfl ?_
  refine j_aload_n C 0 dX12_compared_0 rfl ?_
  refine j_callV (As := []) (rest := []) C vw12_sum (IH (f + 1) (by omega) V op k code hp (by omega) (by omega) (by omega)) rRcv rfl (Nat.le_of_ble_eq_true rfl) dX12_compared_1 (by unfold dP; omega) ?_
  rintro r1 _ ⟨W1, hW1, hP1, hS1, rfl⟩
  obtain ⟨res1, hr1⟩ : ∃ x, x = prs (txF row u) n u (f + 1) 3 false op k code := ⟨_, rfl⟩
  rw [← hr1] at hP1 hS1
  have hpr1 := prs_pr (b := txF row u) (n := n) (u := u) (f + 1) 3 false op k code (by omega) (fun h => by cases h) (by omega)
  rw [← hr1] at hpr1
  have ve1 := hW1.tr (VE.rf (V := V))
  refine j_istore_n C [(1, .int r1), (0, .ref o)] dX12_compared_4 (by decide) rfl ?_
  rcases Bool.eq_false_or_eq_true res1.1 with hg1 | hg1
  · have hPt1 := g_t hP1 hg1
    have hlt1 := hpr1.2.2 rfl hg1
    obtain ⟨seg, hcd, hsg⟩ := hS1 hg1
    refine j_aload_n C 1 dX12_compared_5 rfl ?_
    refine rg C (v := .int (W1 14)) 14 (by decide) kf12_105 rfl dX12_compared_6 ?_
    refine j_v (nI 1) (g_1 hPt1) ?_
    refine j_if_eq C 23 dX12_compared_9 (by decide) (fun c9 => ?_) (fun c9 => ?_)
    · rw [show (0 : Int32) = nI 0 from rfl, nI_eq (by omega) (by omega)] at c9
      exfalso; omega
    · rw [show (0 : Int32) = nI 0 from rfl, nI_eq (by omega) (by omega)] at c9
      refine j_aload_n C 1 dX12_compared_12 rfl ?_
      refine j_aload_n C 1 dX12_compared_13 rfl ?_
      refine rg C (v := .int (W1 8)) 8 (by decide) kf12_109 rfl dX12_compared_14 ?_
      refine j_v (nI res1.2.1) hPt1.2.1 ?_
      refine j_callV (As := [.int (nI res1.2.1)]) (rest := []) C vw12_byteAt (c_byteAt (V := W1) res1.2.1 (by omega) hu hn hPt1.1 hPt1.2.2.1) rRcv rfl (Nat.le_of_ble_eq_true rfl) dX12_compared_17 (by unfold dP; omega) ?_
      rintro _ _ ⟨rfl, rfl⟩
      refine j_goto C 24 dX12_compared_20 (by decide) ?_
      refine j_istore_n C [(2, .int (bytF (txF row u) n res1.2.1)), (1, .int r1), (0, .ref o)] dX12_compared_24 (by decide) rfl ?_
      refine j_iload_n C 0 dX12_compared_25 rfl ?_
      refine j_bipush C (v := (nI 60)) dX12_compared_26 (by decide) ?_
      refine j_icmp_eq C 45 dX12_compared_28 (by decide) (fun c28 => ?_) (fun c28 => ?_)
      · skip
        have hkl : res1.2.1 < n := byt_lt (b := txF row u) (by rw [c28]; decide)
        refine j_aload_n C 2 dX12_compared_45 rfl ?_
        refine j_dup C dX12_compared_46 rfl ?_
        refine rg C (v := .int (W1 8)) 8 (by decide) kf12_109 rfl dX12_compared_47 ?_
        refine j_v (nI res1.2.1) hPt1.2.1 ?_
        refine j_iconst C (v := (nI 1)) dX12_compared_50 (by decide) ?_
        refine j_iaddN C dX12_compared_51 ?_
        refine rp_8 C kf12_109 dX12_compared_52 ?_
        have hp2 := hPt1.sk (res1.2.1 + 1)
        have ve3 := VE.s2 ve1 8 (nI (res1.2.1 + 1)) (by omega)
        refine j_aload_n C 2 dX12_compared_55 rfl ?_
        refine j_callV (As := []) (rest := []) C vw12_sum (IH f (by omega) (upd W1 8 (nI (res1.2.1 + 1))) op (res1.2.1 + 1) res1.2.2 hp2 (by omega) (by omega) (by omega)) rRcv rfl (Nat.le_of_ble_eq_true rfl) dX12_compared_56 (by unfold dP; omega) ?_
        rintro r4 _ ⟨W4, hW4, hP4, hS4, rfl⟩
        obtain ⟨res4, hr4⟩ : ∃ x, x = prs (txF row u) n u f 3 false op (res1.2.1 + 1) res1.2.2 := ⟨_, rfl⟩
        rw [← hr4] at hP4 hS4
        have hpr4 := prs_pr (b := txF row u) (n := n) (u := u) f 3 false op (res1.2.1 + 1) res1.2.2 (by omega) (fun h => by cases h) (by omega)
        rw [← hr4] at hpr4
        have ve4 := hW4.tr ve3
        refine j_istore_n C [(3, .int r4), (2, .int (bytF (txF row u) n res1.2.1)), (1, .int r1), (0, .ref o)] dX12_compared_59 (by decide) rfl ?_
        refine j_iload_n C 1 dX12_compared_60 rfl ?_
        refine j_bipush C (v := (nI 60)) dX12_compared_61 (by decide) ?_
        refine j_icmp_ne C 79 dX12_compared_63 (by decide) (fun c63 => ?_) (fun c63 => ?_)
        · skip
          exact absurd c28 c63
        · skip
          refine j_iload_n C 2 dX12_compared_66 rfl ?_
          refine j_iload_n C 0 dX12_compared_67 rfl ?_
          refine j_icmp_ge C 75 dX12_compared_68 (by decide) (fun c68 => ?_) (fun c68 => ?_)
          · skip
            refine j_iconst C (v := (nI 0)) dX12_compared_75 (by decide) ?_
            refine j_goto C 108 dX12_compared_76 (by decide) ?_
            refine j_istore C [(4, .int (nI 0)), (3, .int r4), (2, .int (bytF (txF row u) n res1.2.1)), (1, .int r1), (0, .ref o)] dX12_compared_108 (by decide) rfl ?_
            refine j_iload C 0 dX12_compared_110 rfl ?_
            refine j_if_eq C 119 dX12_compared_112 (by decide) (fun c112 => ?_) (fun c112 => ?_)
            · rw [show (0 : Int32) = nI 0 from rfl, nI_eq (by omega) (by omega)] at c112
              refine j_iconst C (v := (nI 0)) dX12_compared_119 (by decide) ?_
              refine j_iret C dX12_compared_120 ?_
              rcases Bool.eq_false_or_eq_true res4.1 with hg4 | hg4
              · obtain ⟨seg2, hc2, hs2⟩ := hS4 hg4
                have hj : joinF (bytF (txF row u) n res1.2.1) r1 r4 = (nI 0) := by rw [c28]; exact (join_60 r1 r4).trans (bI0 (lnl c68)).symm
                have hsj := hsg.join hs2 (sg := bytF (txF row u) n res1.2.1) (by rw [c28]; decide) (by rw [c28]; decide) (by rw [c28]; decide)
                rw [hj] at hsj
                rw [prs_ut (by decide) (by rw [← hr1]; exact hg1), ← hr1, prs_l2 (lv_eq2 (Or.inl c28)) (by rw [← hr4]; exact hg4), ← hr4]
                exact ⟨W4, ve4, g_t hP4 hg4, fun _ => ⟨_, by dsimp only; rw [hc2, hcd, List.append_assoc, List.append_assoc, ← List.append_assoc seg], hsj⟩, rfl⟩
              · rw [prs_ut (by decide) (by rw [← hr1]; exact hg1), ← hr1, prs_lf (lv_eq2 (Or.inl c28)) (by rw [← hr4]; exact hg4), ← hr4]
                exact ⟨W4, ve4, hP4, fun h => (by rw [hg4] at h; cases h), rfl⟩
            · rw [show (0 : Int32) = nI 0 from rfl, nI_eq (by omega) (by omega)] at c112
              exfalso; omega
          · skip
            refine j_iconst C (v := (nI 1)) dX12_compared_71 (by decide) ?_
            refine j_goto C 108 dX12_compared_72 (by decide) ?_
            refine j_istore C [(4, .int (nI 1)), (3, .int r4), (2, .int (bytF (txF row u) n res1.2.1)), (1, .int r1), (0, .ref o)] dX12_compared_108 (by decide) rfl ?_
            refine j_iload C 0 dX12_compared_110 rfl ?_
            refine j_if_eq C 119 dX12_compared_112 (by decide) (fun c112 => ?_) (fun c112 => ?_)
            · rw [show (0 : Int32) = nI 0 from rfl, nI_eq (by omega) (by omega)] at c112
              exact absurd c112 c9
            · rw [show (0 : Int32) = nI 0 from rfl, nI_eq (by omega) (by omega)] at c112
              refine j_iconst C (v := (nI 1)) dX12_compared_115 (by decide) ?_
              refine j_goto C 120 dX12_compared_116 (by decide) ?_
              refine j_iret C dX12_compared_120 ?_
              rcases Bool.eq_false_or_eq_true res4.1 with hg4 | hg4
              · obtain ⟨seg2, hc2, hs2⟩ := hS4 hg4
                have hj : joinF (bytF (txF row u) n res1.2.1) r1 r4 = (nI 1) := by rw [c28]; exact (join_60 r1 r4).trans (bI1 (nle c68)).symm
                have hsj := hsg.join hs2 (sg := bytF (txF row u) n res1.2.1) (by rw [c28]; decide) (by rw [c28]; decide) (by rw [c28]; decide)
                rw [hj] at hsj
                rw [prs_ut (by decide) (by rw [← hr1]; exact hg1), ← hr1, prs_l2 (lv_eq2 (Or.inl c28)) (by rw [← hr4]; exact hg4), ← hr4]
                exact ⟨W4, ve4, g_t hP4 hg4, fun _ => ⟨_, by dsimp only; rw [hc2, hcd, List.append_assoc, List.append_assoc, ← List.append_assoc seg], hsj⟩, rfl⟩
              · rw [prs_ut (by decide) (by rw [← hr1]; exact hg1), ← hr1, prs_lf (lv_eq2 (Or.inl c28)) (by rw [← hr4]; exact hg4), ← hr4]
                exact ⟨W4, ve4, hP4, fun h => (by rw [hg4] at h; cases h), rfl⟩
      · skip
        refine j_iload_n C 0 dX12_compared_31 rfl ?_
        refine j_bipush C (v := (nI 61)) dX12_compared_32 (by decide) ?_
        refine j_icmp_eq C 45 dX12_compared_34 (by decide) (fun c34 => ?_) (fun c34 => ?_)
        · skip
          have hkl : res1.2.1 < n := byt_lt (b := txF row u) (by rw [c34]; decide)
          refine j_aload_n C 2 dX12_compared_45 rfl ?_
          refine j_dup C dX12_compared_46 rfl ?_
          refine rg C (v := .int (W1 8)) 8 (by decide) kf12_109 rfl dX12_compared_47 ?_
          refine j_v (nI res1.2.1) hPt1.2.1 ?_
          refine j_iconst C (v := (nI 1)) dX12_compared_50 (by decide) ?_
          refine j_iaddN C dX12_compared_51 ?_
          refine rp_8 C kf12_109 dX12_compared_52 ?_
          have hp5 := hPt1.sk (res1.2.1 + 1)
          have ve6 := VE.s2 ve1 8 (nI (res1.2.1 + 1)) (by omega)
          refine j_aload_n C 2 dX12_compared_55 rfl ?_
          refine j_callV (As := []) (rest := []) C vw12_sum (IH f (by omega) (upd W1 8 (nI (res1.2.1 + 1))) op (res1.2.1 + 1) res1.2.2 hp5 (by omega) (by omega) (by omega)) rRcv rfl (Nat.le_of_ble_eq_true rfl) dX12_compared_56 (by unfold dP; omega) ?_
          rintro r7 _ ⟨W7, hW7, hP7, hS7, rfl⟩
          obtain ⟨res7, hr7⟩ : ∃ x, x = prs (txF row u) n u f 3 false op (res1.2.1 + 1) res1.2.2 := ⟨_, rfl⟩
          rw [← hr7] at hP7 hS7
          have hpr7 := prs_pr (b := txF row u) (n := n) (u := u) f 3 false op (res1.2.1 + 1) res1.2.2 (by omega) (fun h => by cases h) (by omega)
          rw [← hr7] at hpr7
          have ve7 := hW7.tr ve6
          refine j_istore_n C [(3, .int r7), (2, .int (bytF (txF row u) n res1.2.1)), (1, .int r1), (0, .ref o)] dX12_compared_59 (by decide) rfl ?_
          refine j_iload_n C 1 dX12_compared_60 rfl ?_
          refine j_bipush C (v := (nI 60)) dX12_compared_61 (by decide) ?_
          refine j_icmp_ne C 79 dX12_compared_63 (by decide) (fun c63 => ?_) (fun c63 => ?_)
          · skip
            refine j_iload_n C 1 dX12_compared_79 rfl ?_
            refine j_bipush C (v := (nI 61)) dX12_compared_80 (by decide) ?_
            refine j_icmp_ne C 98 dX12_compared_82 (by decide) (fun c82 => ?_) (fun c82 => ?_)
            · skip
              exact absurd c34 c82
            · skip
              refine j_iload_n C 2 dX12_compared_85 rfl ?_
              refine j_iload_n C 0 dX12_compared_86 rfl ?_
              refine j_icmp_ne C 94 dX12_compared_87 (by decide) (fun c87 => ?_) (fun c87 => ?_)
              · skip
                refine j_iconst C (v := (nI 0)) dX12_compared_94 (by decide) ?_
                refine j_goto C 108 dX12_compared_95 (by decide) ?_
                refine j_istore C [(4, .int (nI 0)), (3, .int r7), (2, .int (bytF (txF row u) n res1.2.1)), (1, .int r1), (0, .ref o)] dX12_compared_108 (by decide) rfl ?_
                refine j_iload C 0 dX12_compared_110 rfl ?_
                refine j_if_eq C 119 dX12_compared_112 (by decide) (fun c112 => ?_) (fun c112 => ?_)
                · rw [show (0 : Int32) = nI 0 from rfl, nI_eq (by omega) (by omega)] at c112
                  refine j_iconst C (v := (nI 0)) dX12_compared_119 (by decide) ?_
                  refine j_iret C dX12_compared_120 ?_
                  rcases Bool.eq_false_or_eq_true res7.1 with hg7 | hg7
                  · obtain ⟨seg2, hc2, hs2⟩ := hS7 hg7
                    have hj : joinF (bytF (txF row u) n res1.2.1) r1 r7 = (nI 0) := by rw [c34]; exact (join_61 r1 r7).trans (bI0 c87).symm
                    have hsj := hsg.join hs2 (sg := bytF (txF row u) n res1.2.1) (by rw [c34]; decide) (by rw [c34]; decide) (by rw [c34]; decide)
                    rw [hj] at hsj
                    rw [prs_ut (by decide) (by rw [← hr1]; exact hg1), ← hr1, prs_l2 (lv_eq2 (Or.inr (Or.inl c34))) (by rw [← hr7]; exact hg7), ← hr7]
                    exact ⟨W7, ve7, g_t hP7 hg7, fun _ => ⟨_, by dsimp only; rw [hc2, hcd, List.append_assoc, List.append_assoc, ← List.append_assoc seg], hsj⟩, rfl⟩
                  · rw [prs_ut (by decide) (by rw [← hr1]; exact hg1), ← hr1, prs_lf (lv_eq2 (Or.inr (Or.inl c34))) (by rw [← hr7]; exact hg7), ← hr7]
                    exact ⟨W7, ve7, hP7, fun h => (by rw [hg7] at h; cases h), rfl⟩
                · rw [show (0 : Int32) = nI 0 from rfl, nI_eq (by omega) (by omega)] at c112
                  exfalso; omega
              · skip
                refine j_iconst C (v := (nI 1)) dX12_compared_90 (by decide) ?_
                refine j_goto C 108 dX12_compared_91 (by decide) ?_
                refine j_istore C [(4, .int (nI 1)), (3, .int r7), (2, .int (bytF (txF row u) n res1.2.1)), (1, .int r1), (0, .ref o)] dX12_compared_108 (by decide) rfl ?_
                refine j_iload C 0 dX12_compared_110 rfl ?_
                refine j_if_eq C 119 dX12_compared_112 (by decide) (fun c112 => ?_) (fun c112 => ?_)
                · rw [show (0 : Int32) = nI 0 from rfl, nI_eq (by omega) (by omega)] at c112
                  exact absurd c112 c9
                · rw [show (0 : Int32) = nI 0 from rfl, nI_eq (by omega) (by omega)] at c112
                  refine j_iconst C (v := (nI 1)) dX12_compared_115 (by decide) ?_
                  refine j_goto C 120 dX12_compared_116 (by decide) ?_
                  refine j_iret C dX12_compared_120 ?_
                  rcases Bool.eq_false_or_eq_true res7.1 with hg7 | hg7
                  · obtain ⟨seg2, hc2, hs2⟩ := hS7 hg7
                    have hj : joinF (bytF (txF row u) n res1.2.1) r1 r7 = (nI 1) := by rw [c34]; exact (join_61 r1 r7).trans (bI1 c87).symm
                    have hsj := hsg.join hs2 (sg := bytF (txF row u) n res1.2.1) (by rw [c34]; decide) (by rw [c34]; decide) (by rw [c34]; decide)
                    rw [hj] at hsj
                    rw [prs_ut (by decide) (by rw [← hr1]; exact hg1), ← hr1, prs_l2 (lv_eq2 (Or.inr (Or.inl c34))) (by rw [← hr7]; exact hg7), ← hr7]
                    exact ⟨W7, ve7, g_t hP7 hg7, fun _ => ⟨_, by dsimp only; rw [hc2, hcd, List.append_assoc, List.append_assoc, ← List.append_assoc seg], hsj⟩, rfl⟩
                  · rw [prs_ut (by decide) (by rw [← hr1]; exact hg1), ← hr1, prs_lf (lv_eq2 (Or.inr (Or.inl c34))) (by rw [← hr7]; exact hg7), ← hr7]
                    exact ⟨W7, ve7, hP7, fun h => (by rw [hg7] at h; cases h), rfl⟩
          · skip
            exact absurd c63 c28
        · skip
          refine j_iload_n C 0 dX12_compared_37 rfl ?_
          refine j_bipush C (v := (nI 62)) dX12_compared_38 (by decide) ?_
          refine j_icmp_eq C 45 dX12_compared_40 (by decide) (fun c40 => ?_) (fun c40 => ?_)
          · skip
            have hkl : res1.2.1 < n := byt_lt (b := txF row u) (by rw [c40]; decide)
            refine j_aload_n C 2 dX12_compared_45 rfl ?_
            refine j_dup C dX12_compared_46 rfl ?_
            refine rg C (v := .int (W1 8)) 8 (by decide) kf12_109 rfl dX12_compared_47 ?_
            refine j_v (nI res1.2.1) hPt1.2.1 ?_
            refine j_iconst C (v := (nI 1)) dX12_compared_50 (by decide) ?_
            refine j_iaddN C dX12_compared_51 ?_
            refine rp_8 C kf12_109 dX12_compared_52 ?_
            have hp8 := hPt1.sk (res1.2.1 + 1)
            have ve9 := VE.s2 ve1 8 (nI (res1.2.1 + 1)) (by omega)
            refine j_aload_n C 2 dX12_compared_55 rfl ?_
            refine j_callV (As := []) (rest := []) C vw12_sum (IH f (by omega) (upd W1 8 (nI (res1.2.1 + 1))) op (res1.2.1 + 1) res1.2.2 hp8 (by omega) (by omega) (by omega)) rRcv rfl (Nat.le_of_ble_eq_true rfl) dX12_compared_56 (by unfold dP; omega) ?_
            rintro r10 _ ⟨W10, hW10, hP10, hS10, rfl⟩
            obtain ⟨res10, hr10⟩ : ∃ x, x = prs (txF row u) n u f 3 false op (res1.2.1 + 1) res1.2.2 := ⟨_, rfl⟩
            rw [← hr10] at hP10 hS10
            have hpr10 := prs_pr (b := txF row u) (n := n) (u := u) f 3 false op (res1.2.1 + 1) res1.2.2 (by omega) (fun h => by cases h) (by omega)
            rw [← hr10] at hpr10
            have ve10 := hW10.tr ve9
            refine j_istore_n C [(3, .int r10), (2, .int (bytF (txF row u) n res1.2.1)), (1, .int r1), (0, .ref o)] dX12_compared_59 (by decide) rfl ?_
            refine j_iload_n C 1 dX12_compared_60 rfl ?_
            refine j_bipush C (v := (nI 60)) dX12_compared_61 (by decide) ?_
            refine j_icmp_ne C 79 dX12_compared_63 (by decide) (fun c63 => ?_) (fun c63 => ?_)
            · skip
              refine j_iload_n C 1 dX12_compared_79 rfl ?_
              refine j_bipush C (v := (nI 61)) dX12_compared_80 (by decide) ?_
              refine j_icmp_ne C 98 dX12_compared_82 (by decide) (fun c82 => ?_) (fun c82 => ?_)
              · skip
                refine j_iload_n C 2 dX12_compared_98 rfl ?_
                refine j_iload_n C 0 dX12_compared_99 rfl ?_
                refine j_icmp_le C 107 dX12_compared_100 (by decide) (fun c100 => ?_) (fun c100 => ?_)
                · skip
                  refine j_iconst C (v := (nI 0)) dX12_compared_107 (by decide) ?_
                  refine j_istore C [(4, .int (nI 0)), (3, .int r10), (2, .int (bytF (txF row u) n res1.2.1)), (1, .int r1), (0, .ref o)] dX12_compared_108 (by decide) rfl ?_
                  refine j_iload C 0 dX12_compared_110 rfl ?_
                  refine j_if_eq C 119 dX12_compared_112 (by decide) (fun c112 => ?_) (fun c112 => ?_)
                  · rw [show (0 : Int32) = nI 0 from rfl, nI_eq (by omega) (by omega)] at c112
                    refine j_iconst C (v := (nI 0)) dX12_compared_119 (by decide) ?_
                    refine j_iret C dX12_compared_120 ?_
                    rcases Bool.eq_false_or_eq_true res10.1 with hg10 | hg10
                    · obtain ⟨seg2, hc2, hs2⟩ := hS10 hg10
                      have hj : joinF (bytF (txF row u) n res1.2.1) r1 r10 = (nI 0) := by rw [c40]; exact (join_62 r1 r10).trans (bI0 (lnl c100)).symm
                      have hsj := hsg.join hs2 (sg := bytF (txF row u) n res1.2.1) (by rw [c40]; decide) (by rw [c40]; decide) (by rw [c40]; decide)
                      rw [hj] at hsj
                      rw [prs_ut (by decide) (by rw [← hr1]; exact hg1), ← hr1, prs_l2 (lv_eq2 (Or.inr (Or.inr c40))) (by rw [← hr10]; exact hg10), ← hr10]
                      exact ⟨W10, ve10, g_t hP10 hg10, fun _ => ⟨_, by dsimp only; rw [hc2, hcd, List.append_assoc, List.append_assoc, ← List.append_assoc seg], hsj⟩, rfl⟩
                    · rw [prs_ut (by decide) (by rw [← hr1]; exact hg1), ← hr1, prs_lf (lv_eq2 (Or.inr (Or.inr c40))) (by rw [← hr10]; exact hg10), ← hr10]
                      exact ⟨W10, ve10, hP10, fun h => (by rw [hg10] at h; cases h), rfl⟩
                  · rw [show (0 : Int32) = nI 0 from rfl, nI_eq (by omega) (by omega)] at c112
                    exfalso; omega
                · skip
                  refine j_iconst C (v := (nI 1)) dX12_compared_103 (by decide) ?_
                  refine j_goto C 108 dX12_compared_104 (by decide) ?_
                  refine j_istore C [(4, .int (nI 1)), (3, .int r10), (2, .int (bytF (txF row u) n res1.2.1)), (1, .int r1), (0, .ref o)] dX12_compared_108 (by decide) rfl ?_
                  refine j_iload C 0 dX12_compared_110 rfl ?_
                  refine j_if_eq C 119 dX12_compared_112 (by decide) (fun c112 => ?_) (fun c112 => ?_)
                  · rw [show (0 : Int32) = nI 0 from rfl, nI_eq (by omega) (by omega)] at c112
                    exact absurd c112 c9
                  · rw [show (0 : Int32) = nI 0 from rfl, nI_eq (by omega) (by omega)] at c112
                    refine j_iconst C (v := (nI 1)) dX12_compared_115 (by decide) ?_
                    refine j_goto C 120 dX12_compared_116 (by decide) ?_
                    refine j_iret C dX12_compared_120 ?_
                    rcases Bool.eq_false_or_eq_true res10.1 with hg10 | hg10
                    · obtain ⟨seg2, hc2, hs2⟩ := hS10 hg10
                      have hj : joinF (bytF (txF row u) n res1.2.1) r1 r10 = (nI 1) := by rw [c40]; exact (join_62 r1 r10).trans (bI1 (nle c100)).symm
                      have hsj := hsg.join hs2 (sg := bytF (txF row u) n res1.2.1) (by rw [c40]; decide) (by rw [c40]; decide) (by rw [c40]; decide)
                      rw [hj] at hsj
                      rw [prs_ut (by decide) (by rw [← hr1]; exact hg1), ← hr1, prs_l2 (lv_eq2 (Or.inr (Or.inr c40))) (by rw [← hr10]; exact hg10), ← hr10]
                      exact ⟨W10, ve10, g_t hP10 hg10, fun _ => ⟨_, by dsimp only; rw [hc2, hcd, List.append_assoc, List.append_assoc, ← List.append_assoc seg], hsj⟩, rfl⟩
                    · rw [prs_ut (by decide) (by rw [← hr1]; exact hg1), ← hr1, prs_lf (lv_eq2 (Or.inr (Or.inr c40))) (by rw [← hr10]; exact hg10), ← hr10]
                      exact ⟨W10, ve10, hP10, fun h => (by rw [hg10] at h; cases h), rfl⟩
              · skip
                exact absurd c82 c34
            · skip
              exact absurd c63 c28
          · skip
            refine j_iload_n C 1 dX12_compared_43 rfl ?_
            refine j_iret C dX12_compared_44 ?_
            rw [prs_ut (by decide) (by rw [← hr1]; exact hg1), ← hr1, prs_no (lv_ne2 c28 c34 c40)]
            exact ⟨W1, ve1, hPt1, fun _ => ⟨seg, hcd, hsg⟩, rfl⟩
  · skip
    refine j_aload_n C 1 dX12_compared_5 rfl ?_
    refine rg C (v := .int (W1 14)) 14 (by decide) kf12_105 rfl dX12_compared_6 ?_
    refine j_v (nI 0) (g_0 hP1 hg1) ?_
    refine j_if_eq C 23 dX12_compared_9 (by decide) (fun c9 => ?_) (fun c9 => ?_)
    · rw [show (0 : Int32) = nI 0 from rfl, nI_eq (by omega) (by omega)] at c9
      refine j_iconst C (v := (-1)) dX12_compared_23 (by decide) ?_
      refine j_istore_n C [(2, .int (-1)), (1, .int r1), (0, .ref o)] dX12_compared_24 (by decide) rfl ?_
      refine j_iload_n C 0 dX12_compared_25 rfl ?_
      refine j_bipush C (v := (nI 60)) dX12_compared_26 (by decide) ?_
      refine j_icmp_eq C 45 dX12_compared_28 (by decide) (fun c28 => ?_) (fun c28 => ?_)
      · skip
        exact absurd c28 (by decide)
      · skip
        refine j_iload_n C 0 dX12_compared_31 rfl ?_
        refine j_bipush C (v := (nI 61)) dX12_compared_32 (by decide) ?_
        refine j_icmp_eq C 45 dX12_compared_34 (by decide) (fun c34 => ?_) (fun c34 => ?_)
        · skip
          exact absurd c34 (by decide)
        · skip
          refine j_iload_n C 0 dX12_compared_37 rfl ?_
          refine j_bipush C (v := (nI 62)) dX12_compared_38 (by decide) ?_
          refine j_icmp_eq C 45 dX12_compared_40 (by decide) (fun c40 => ?_) (fun c40 => ?_)
          · skip
            exact absurd c40 (by decide)
          · skip
            refine j_iload_n C 1 dX12_compared_43 rfl ?_
            refine j_iret C dX12_compared_44 ?_
            rw [prs_uf (by decide) (by rw [← hr1]; exact hg1), ← hr1]
            exact ⟨W1, ve1, hP1, fun h => (by rw [hg1] at h; cases h), rfl⟩
    · rw [show (0 : Int32) = nI 0 from rfl, nI_eq (by omega) (by omega)] at c9
      exfalso; omega
theorem dX12_factor_0 : decode cX12_factor 0 = .ok (.aload_n 0, 1) := by decide +kernel
theorem dX12_factor_1 : decode cX12_factor 1 = .ok (.aload_n 0, 1) := by decide +kernel
theorem dX12_factor_2 : decode cX12_factor 2 = .ok (.getfield 109, 3) := by decide +kernel
theorem dX12_factor_5 : decode cX12_factor 5 = .ok (.invokevirtual 112, 3) := by decide +kernel
theorem dX12_factor_8 : decode cX12_factor 8 = .ok (.istore_n 1, 1) := by decide +kernel
theorem dX12_factor_9 : decode cX12_factor 9 = .ok (.iload_n 1, 1) := by decide +kernel
theorem dX12_factor_10 : decode cX12_factor 10 = .ok (.invokestatic 115, 3) := by decide +kernel
theorem dX12_factor_13 : decode cX12_factor 13 = .ok (.ifCond .eq 8, 3) := by decide +kernel
theorem dX12_factor_16 : decode cX12_factor 16 = .ok (.aload_n 0, 1) := by decide +kernel
theorem dX12_factor_17 : decode cX12_factor 17 = .ok (.invokevirtual 131, 3) := by decide +kernel
theorem dX12_factor_20 : decode cX12_factor 20 = .ok (.ireturn, 1) := by decide +kernel
theorem dX12_factor_21 : decode cX12_factor 21 = .ok (.iload_n 1, 1) := by decide +kernel
theorem dX12_factor_22 : decode cX12_factor 22 = .ok (.bipush 33, 2) := by decide +kernel
theorem dX12_factor_24 : decode cX12_factor 24 = .ok (.if_icmp .eq 15, 3) := by decide +kernel
theorem dX12_factor_27 : decode cX12_factor 27 = .ok (.iload_n 1, 1) := by decide +kernel
theorem dX12_factor_28 : decode cX12_factor 28 = .ok (.bipush 40, 2) := by decide +kernel
theorem dX12_factor_30 : decode cX12_factor 30 = .ok (.if_icmp .eq 9, 3) := by decide +kernel
theorem dX12_factor_33 : decode cX12_factor 33 = .ok (.aload_n 0, 1) := by decide +kernel
theorem dX12_factor_34 : decode cX12_factor 34 = .ok (.iload_n 1, 1) := by decide +kernel
theorem dX12_factor_35 : decode cX12_factor 35 = .ok (.invokevirtual 134, 3) := by decide +kernel
theorem dX12_factor_38 : decode cX12_factor 38 = .ok (.ireturn, 1) := by decide +kernel
theorem dX12_factor_39 : decode cX12_factor 39 = .ok (.aload_n 0, 1) := by decide +kernel
theorem dX12_factor_40 : decode cX12_factor 40 = .ok (.getfield 137, 3) := by decide +kernel
theorem dX12_factor_43 : decode cX12_factor 43 = .ok (.iconst 5, 1) := by decide +kernel
theorem dX12_factor_44 : decode cX12_factor 44 = .ok (.if_icmp .ne 8, 3) := by decide +kernel
theorem dX12_factor_47 : decode cX12_factor 47 = .ok (.aload_n 0, 1) := by decide +kernel
theorem dX12_factor_48 : decode cX12_factor 48 = .ok (.invokevirtual 118, 3) := by decide +kernel
theorem dX12_factor_51 : decode cX12_factor 51 = .ok (.ireturn, 1) := by decide +kernel
theorem dX12_factor_52 : decode cX12_factor 52 = .ok (.aload_n 0, 1) := by decide +kernel
theorem dX12_factor_53 : decode cX12_factor 53 = .ok (.dup, 1) := by decide +kernel
theorem dX12_factor_54 : decode cX12_factor 54 = .ok (.getfield 137, 3) := by decide +kernel
theorem dX12_factor_57 : decode cX12_factor 57 = .ok (.iconst 1, 1) := by decide +kernel
theorem dX12_factor_58 : decode cX12_factor 58 = .ok (.iadd, 1) := by decide +kernel
theorem dX12_factor_59 : decode cX12_factor 59 = .ok (.putfield 137, 3) := by decide +kernel
theorem dX12_factor_62 : decode cX12_factor 62 = .ok (.aload_n 0, 1) := by decide +kernel
theorem dX12_factor_63 : decode cX12_factor 63 = .ok (.dup, 1) := by decide +kernel
theorem dX12_factor_64 : decode cX12_factor 64 = .ok (.getfield 109, 3) := by decide +kernel
theorem dX12_factor_67 : decode cX12_factor 67 = .ok (.iconst 1, 1) := by decide +kernel
theorem dX12_factor_68 : decode cX12_factor 68 = .ok (.iadd, 1) := by decide +kernel
theorem dX12_factor_69 : decode cX12_factor 69 = .ok (.putfield 109, 3) := by decide +kernel
theorem dX12_factor_72 : decode cX12_factor 72 = .ok (.iload_n 1, 1) := by decide +kernel
theorem dX12_factor_73 : decode cX12_factor 73 = .ok (.bipush 33, 2) := by decide +kernel
theorem dX12_factor_75 : decode cX12_factor 75 = .ok (.if_icmp .ne 10, 3) := by decide +kernel
theorem dX12_factor_78 : decode cX12_factor 78 = .ok (.aload_n 0, 1) := by decide +kernel
theorem dX12_factor_79 : decode cX12_factor 79 = .ok (.invokevirtual 140, 3) := by decide +kernel
theorem dX12_factor_82 : decode cX12_factor 82 = .ok (.goto 7, 3) := by decide +kernel
theorem dX12_factor_85 : decode cX12_factor 85 = .ok (.aload_n 0, 1) := by decide +kernel
theorem dX12_factor_86 : decode cX12_factor 86 = .ok (.invokevirtual 143, 3) := by decide +kernel
theorem dX12_factor_89 : decode cX12_factor 89 = .ok (.istore_n 2, 1) := by decide +kernel
theorem dX12_factor_90 : decode cX12_factor 90 = .ok (.aload_n 0, 1) := by decide +kernel
theorem dX12_factor_91 : decode cX12_factor 91 = .ok (.dup, 1) := by decide +kernel
theorem dX12_factor_92 : decode cX12_factor 92 = .ok (.getfield 137, 3) := by decide +kernel
theorem dX12_factor_95 : decode cX12_factor 95 = .ok (.iconst 1, 1) := by decide +kernel
theorem dX12_factor_96 : decode cX12_factor 96 = .ok (.isub, 1) := by decide +kernel
theorem dX12_factor_97 : decode cX12_factor 97 = .ok (.putfield 137, 3) := by decide +kernel
theorem dX12_factor_100 : decode cX12_factor 100 = .ok (.iload_n 1, 1) := by decide +kernel
theorem dX12_factor_101 : decode cX12_factor 101 = .ok (.bipush 33, 2) := by decide +kernel
theorem dX12_factor_103 : decode cX12_factor 103 = .ok (.if_icmp .ne 13, 3) := by decide +kernel
theorem dX12_factor_106 : decode cX12_factor 106 = .ok (.iload_n 2, 1) := by decide +kernel
theorem dX12_factor_107 : decode cX12_factor 107 = .ok (.ifCond .ne 7, 3) := by decide +kernel
theorem dX12_factor_110 : decode cX12_factor 110 = .ok (.iconst 1, 1) := by decide +kernel
theorem dX12_factor_111 : decode cX12_factor 111 = .ok (.goto 4, 3) := by decide +kernel
theorem dX12_factor_114 : decode cX12_factor 114 = .ok (.iconst 0, 1) := by decide +kernel
theorem dX12_factor_115 : decode cX12_factor 115 = .ok (.ireturn, 1) := by decide +kernel
theorem dX12_factor_116 : decode cX12_factor 116 = .ok (.aload_n 0, 1) := by decide +kernel
theorem dX12_factor_117 : decode cX12_factor 117 = .ok (.getfield 105, 3) := by decide +kernel
theorem dX12_factor_120 : decode cX12_factor 120 = .ok (.ifCond .eq 28, 3) := by decide +kernel
theorem dX12_factor_123 : decode cX12_factor 123 = .ok (.aload_n 0, 1) := by decide +kernel
theorem dX12_factor_124 : decode cX12_factor 124 = .ok (.aload_n 0, 1) := by decide +kernel
theorem dX12_factor_125 : decode cX12_factor 125 = .ok (.getfield 109, 3) := by decide +kernel
theorem dX12_factor_128 : decode cX12_factor 128 = .ok (.invokevirtual 112, 3) := by decide +kernel
theorem dX12_factor_131 : decode cX12_factor 131 = .ok (.bipush 41, 2) := by decide +kernel
theorem dX12_factor_133 : decode cX12_factor 133 = .ok (.if_icmp .ne 15, 3) := by decide +kernel
theorem dX12_factor_136 : decode cX12_factor 136 = .ok (.aload_n 0, 1) := by decide +kernel
theorem dX12_factor_137 : decode cX12_factor 137 = .ok (.dup, 1) := by decide +kernel
theorem dX12_factor_138 : decode cX12_factor 138 = .ok (.getfield 109, 3) := by decide +kernel
theorem dX12_factor_141 : decode cX12_factor 141 = .ok (.iconst 1, 1) := by decide +kernel
theorem dX12_factor_142 : decode cX12_factor 142 = .ok (.iadd, 1) := by decide +kernel
theorem dX12_factor_143 : decode cX12_factor 143 = .ok (.putfield 109, 3) := by decide +kernel
theorem dX12_factor_146 : decode cX12_factor 146 = .ok (.iload_n 2, 1) := by decide +kernel
theorem dX12_factor_147 : decode cX12_factor 147 = .ok (.ireturn, 1) := by decide +kernel
theorem dX12_factor_148 : decode cX12_factor 148 = .ok (.aload_n 0, 1) := by decide +kernel
theorem dX12_factor_149 : decode cX12_factor 149 = .ok (.invokevirtual 118, 3) := by decide +kernel
theorem dX12_factor_152 : decode cX12_factor 152 = .ok (.ireturn, 1) := by decide +kernel
set_option maxHeartbeats 2000000 in
set_option maxRecDepth 20000 in
theorem c_factor {l : Launch} {D : va_G} {cI cG cW : ClassId} {o : Nat} {q : Nat → Nat} {row kept tried bf fd pk bo so sh mv tr : Nat → Int32} {u n : Nat} {a b c : Int32} (hu : u ≤ 1) (hn : n ≤ 50) (f : Nat) (IH : ∀ f', f' < f → PC l D cI cG cW o q row kept tried bf fd pk bo so sh mv tr u n a b c yX12_factor cX12_factor 3 5 f') (IHw : ∀ f', f' < f → PC l D cI cG cW o q row kept tried bf fd pk bo so sh mv tr u n a b c yX12_whole cX12_whole 3 0 f') : PC l D cI cG cW o q row kept tried bf fd pk bo so sh mv tr u n a b c yX12_factor cX12_factor 3 5 f := by
  intro V op k code hp hop hk hf
  obtain ⟨f, rfl⟩ : ∃ f', f = f' + 1 := ⟨f - 1, by omega⟩
  refine Ci.of (by decide) (Nat.le_of_ble_eq_true rfl) ?_
  intro p_ e_ s_ m_ b_ M_ c_ A_ C
  replace C : Cx _ _ _ _ _ _ _ _ RX12 _ _ _ _ := C
  refine j_L [0] [(0, .ref o)] rfl ?_
  refine j_aload_n C 0 dX12_factor_0 rfl ?_
  refine j_aload_n C 0 dX12_factor_1 rfl ?_
  refine rg C (v := .int (V 8)) 8 (by decide) kf12_109 rfl dX12_factor_2 ?_
  refine j_v (nI k) hp.2.1 ?_
  refine j_callV (As := [.int (nI k)]) (rest := []) C vw12_byteAt (c_byteAt (V := V) k (by omega) hu hn hp.1 hp.2.2.1) rRcv rfl (Nat.le_of_ble_eq_true rfl) dX12_factor_5 (by unfold dP; omega) ?_
  rintro _ _ ⟨rfl, rfl⟩
  refine j_istore_n C [(1, .int (bytF (txF row u) n k)), (0, .ref o)] dX12_factor_8 (by decide) rfl ?_
  refine j_iload_n C 0 dX12_factor_9 rfl ?_
  refine j_callS (As := [.int (bytF (txF row u) n k)]) (rest := []) C vw12_isDigit (c_isDigit) rfl (Nat.le_of_ble_eq_true rfl) dX12_factor_10 (by unfold dP; omega) ?_
  rintro _ _ ⟨rfl, rfl⟩
  refine j_if_eq C 21 dX12_factor_13 (by decide) (fun c13 => ?_) (fun c13 => ?_)
  · replace c13 := bI_f c13
    refine j_iload_n C 0 dX12_factor_21 rfl ?_
    refine j_bipush C (v := (nI 33)) dX12_factor_22 (by decide) ?_
    refine j_icmp_eq C 39 dX12_factor_24 (by decide) (fun c24 => ?_) (fun c24 => ?_)
    · skip
      refine j_aload_n C 1 dX12_factor_39 rfl ?_
      refine rg C (v := .int (V 10)) 10 (by decide) kf12_137 rfl dX12_factor_40 ?_
      refine j_v (nI op) hp.2.2.2.1 ?_
      refine j_iconst C (v := (nI 5)) dX12_factor_43 (by decide) ?_
      refine j_icmp_ne C 52 dX12_factor_44 (by decide) (fun c44 => ?_) (fun c44 => ?_)
      · rw [nI_eq (by omega) (by omega)] at c44
        have hkl : k < n := byt_lt (b := txF row u) (by rw [c24]; decide)
        refine j_aload_n C 1 dX12_factor_52 rfl ?_
        refine j_dup C dX12_factor_53 rfl ?_
        refine rg C (v := .int (V 10)) 10 (by decide) kf12_137 rfl dX12_factor_54 ?_
        refine j_v (nI op) hp.2.2.2.1 ?_
        refine j_iconst C (v := (nI 1)) dX12_factor_57 (by decide) ?_
        refine j_iaddN C dX12_factor_58 ?_
        refine rp_10 C kf12_137 dX12_factor_59 ?_
        have hp1 := hp.so (op + 1)
        have ve2 := VE.s2 (VE.rf (V := V)) 10 (nI (op + 1)) (by omega)
        refine j_aload_n C 1 dX12_factor_62 rfl ?_
        refine j_dup C dX12_factor_63 rfl ?_
        refine rg C (v := .int ((upd V 10 (nI (op + 1))) 8)) 8 (by decide) kf12_109 rfl dX12_factor_64 ?_
        refine j_v (nI k) hp1.2.1 ?_
        refine j_iconst C (v := (nI 1)) dX12_factor_67 (by decide) ?_
        refine j_iaddN C dX12_factor_68 ?_
        refine rp_8 C kf12_109 dX12_factor_69 ?_
        have hp3 := hp1.sk (k + 1)
        have ve4 := VE.s2 ve2 8 (nI (k + 1)) (by omega)
        refine j_iload_n C 0 dX12_factor_72 rfl ?_
        refine j_bipush C (v := (nI 33)) dX12_factor_73 (by decide) ?_
        refine j_icmp_ne C 85 dX12_factor_75 (by decide) (fun c75 => ?_) (fun c75 => ?_)
        · skip
          exact absurd c24 c75
        · skip
          refine j_aload_n C 1 dX12_factor_78 rfl ?_
          refine j_callV (As := []) (rest := []) C vw12_factor (IH f (by omega) (upd (upd V 10 (nI (op + 1))) 8 (nI (k + 1))) (op + 1) (k + 1) code hp3 (by omega) (by omega) (by omega)) rRcv rfl (Nat.le_of_ble_eq_true rfl) dX12_factor_79 (by unfold dP; omega) ?_
          rintro r5 _ ⟨W5, hW5, hP5, hS5, rfl⟩
          obtain ⟨res5, hr5⟩ : ∃ x, x = prs (txF row u) n u f 5 false (op + 1) (k + 1) code := ⟨_, rfl⟩
          rw [← hr5] at hP5 hS5
          have hpr5 := prs_pr (b := txF row u) (n := n) (u := u) f 5 false (op + 1) (k + 1) code (by omega) (fun h => by cases h) (by omega)
          rw [← hr5] at hpr5
          have ve5 := hW5.tr ve4
          refine j_goto C 89 dX12_factor_82 (by decide) ?_
          refine j_istore_n C [(2, .int r5), (1, .int (bytF (txF row u) n k)), (0, .ref o)] dX12_factor_89 (by decide) rfl ?_
          refine j_aload_n C 2 dX12_factor_90 rfl ?_
          refine j_dup C dX12_factor_91 rfl ?_
          refine rg C (v := .int (W5 10)) 10 (by decide) kf12_137 rfl dX12_factor_92 ?_
          refine j_v (nI (op + 1)) hP5.2.2.2.1 ?_
          refine j_iconst C (v := (nI 1)) dX12_factor_95 (by decide) ?_
          refine j_isubN C (by omega) dX12_factor_96 ?_
          refine rp_10 C kf12_137 dX12_factor_97 ?_
          have hp6 := hP5.so (op + 1 - 1)
          have ve7 := VE.s2 ve5 10 (nI (op + 1 - 1)) (by omega)
          refine j_iload_n C 1 dX12_factor_100 rfl ?_
          refine j_bipush C (v := (nI 33)) dX12_factor_101 (by decide) ?_
          refine j_icmp_ne C 116 dX12_factor_103 (by decide) (fun c103 => ?_) (fun c103 => ?_)
          · skip
            exact absurd c75 c103
          · skip
            refine j_iload_n C 0 dX12_factor_106 rfl ?_
            refine j_if_ne C 114 dX12_factor_107 (by decide) (fun c107 => ?_) (fun c107 => ?_)
            · skip
              refine j_iconst C (v := (nI 0)) dX12_factor_114 (by decide) ?_
              refine j_iret C dX12_factor_115 ?_
              rw [prs_not c13 c24 c44, ← hr5]
              exact ⟨_, ve7, hp6, fun h => (by
                obtain ⟨seg, hc, hs⟩ := hS5 h
                have hb := hs.not
                rw [← bI0 c107] at hb
                exact ⟨seg ++ [-33], by dsimp only; rw [hc, List.append_assoc], hb⟩), rfl⟩
            · skip
              refine j_iconst C (v := (nI 1)) dX12_factor_110 (by decide) ?_
              refine j_goto C 115 dX12_factor_111 (by decide) ?_
              refine j_iret C dX12_factor_115 ?_
              rw [prs_not c13 c24 c44, ← hr5]
              exact ⟨_, ve7, hp6, fun h => (by
                obtain ⟨seg, hc, hs⟩ := hS5 h
                have hb := hs.not
                rw [← bI1 c107] at hb
                exact ⟨seg ++ [-33], by dsimp only; rw [hc, List.append_assoc], hb⟩), rfl⟩
      · rw [nI_eq (by omega) (by omega)] at c44
        refine j_aload_n C 1 dX12_factor_47 rfl ?_
        refine j_callV (As := []) (rest := []) C vw12_fails (c_fails) rRcv rfl (Nat.le_of_ble_eq_true rfl) dX12_factor_48 (by unfold dP; omega) ?_
        rintro _ _ ⟨rfl, rfl⟩
        have hp8 := hp.sg
        have ve9 := VE.s2 (VE.rf (V := V)) 14 0 (by omega)
        refine j_iret C dX12_factor_51 ?_
        rw [prs_full c13 (Or.inl c24) c44]
        exact ⟨_, ve9, hp8, fun h => (by cases h), rfl⟩
    · skip
      refine j_iload_n C 0 dX12_factor_27 rfl ?_
      refine j_bipush C (v := (nI 40)) dX12_factor_28 (by decide) ?_
      refine j_icmp_eq C 39 dX12_factor_30 (by decide) (fun c30 => ?_) (fun c30 => ?_)
      · skip
        refine j_aload_n C 1 dX12_factor_39 rfl ?_
        refine rg C (v := .int (V 10)) 10 (by decide) kf12_137 rfl dX12_factor_40 ?_
        refine j_v (nI op) hp.2.2.2.1 ?_
        refine j_iconst C (v := (nI 5)) dX12_factor_43 (by decide) ?_
        refine j_icmp_ne C 52 dX12_factor_44 (by decide) (fun c44 => ?_) (fun c44 => ?_)
        · rw [nI_eq (by omega) (by omega)] at c44
          have hkl : k < n := byt_lt (b := txF row u) (by rw [c30]; decide)
          refine j_aload_n C 1 dX12_factor_52 rfl ?_
          refine j_dup C dX12_factor_53 rfl ?_
          refine rg C (v := .int (V 10)) 10 (by decide) kf12_137 rfl dX12_factor_54 ?_
          refine j_v (nI op) hp.2.2.2.1 ?_
          refine j_iconst C (v := (nI 1)) dX12_factor_57 (by decide) ?_
          refine j_iaddN C dX12_factor_58 ?_
          refine rp_10 C kf12_137 dX12_factor_59 ?_
          have hp10 := hp.so (op + 1)
          have ve11 := VE.s2 (VE.rf (V := V)) 10 (nI (op + 1)) (by omega)
          refine j_aload_n C 1 dX12_factor_62 rfl ?_
          refine j_dup C dX12_factor_63 rfl ?_
          refine rg C (v := .int ((upd V 10 (nI (op + 1))) 8)) 8 (by decide) kf12_109 rfl dX12_factor_64 ?_
          refine j_v (nI k) hp10.2.1 ?_
          refine j_iconst C (v := (nI 1)) dX12_factor_67 (by decide) ?_
          refine j_iaddN C dX12_factor_68 ?_
          refine rp_8 C kf12_109 dX12_factor_69 ?_
          have hp12 := hp10.sk (k + 1)
          have ve13 := VE.s2 ve11 8 (nI (k + 1)) (by omega)
          refine j_iload_n C 0 dX12_factor_72 rfl ?_
          refine j_bipush C (v := (nI 33)) dX12_factor_73 (by decide) ?_
          refine j_icmp_ne C 85 dX12_factor_75 (by decide) (fun c75 => ?_) (fun c75 => ?_)
          · skip
            refine j_aload_n C 1 dX12_factor_85 rfl ?_
            refine j_callV (As := []) (rest := []) C vw12_whole (IHw f (by omega) (upd (upd V 10 (nI (op + 1))) 8 (nI (k + 1))) (op + 1) (k + 1) code hp12 (by omega) (by omega) (by omega)) rRcv rfl (Nat.le_of_ble_eq_true rfl) dX12_factor_86 (by unfold dP; omega) ?_
            rintro r14 _ ⟨W14, hW14, hP14, hS14, rfl⟩
            obtain ⟨res14, hr14⟩ : ∃ x, x = prs (txF row u) n u f 0 false (op + 1) (k + 1) code := ⟨_, rfl⟩
            rw [← hr14] at hP14 hS14
            have hpr14 := prs_pr (b := txF row u) (n := n) (u := u) f 0 false (op + 1) (k + 1) code (by omega) (fun h => by cases h) (by omega)
            rw [← hr14] at hpr14
            have ve14 := hW14.tr ve13
            refine j_istore_n C [(2, .int r14), (1, .int (bytF (txF row u) n k)), (0, .ref o)] dX12_factor_89 (by decide) rfl ?_
            refine j_aload_n C 2 dX12_factor_90 rfl ?_
            refine j_dup C dX12_factor_91 rfl ?_
            refine rg C (v := .int (W14 10)) 10 (by decide) kf12_137 rfl dX12_factor_92 ?_
            refine j_v (nI (op + 1)) hP14.2.2.2.1 ?_
            refine j_iconst C (v := (nI 1)) dX12_factor_95 (by decide) ?_
            refine j_isubN C (by omega) dX12_factor_96 ?_
            refine rp_10 C kf12_137 dX12_factor_97 ?_
            have hp15 := hP14.so (op + 1 - 1)
            have ve16 := VE.s2 ve14 10 (nI (op + 1 - 1)) (by omega)
            refine j_iload_n C 1 dX12_factor_100 rfl ?_
            refine j_bipush C (v := (nI 33)) dX12_factor_101 (by decide) ?_
            refine j_icmp_ne C 116 dX12_factor_103 (by decide) (fun c103 => ?_) (fun c103 => ?_)
            · skip
              refine j_aload_n C 2 dX12_factor_116 rfl ?_
              refine rg C (v := .int ((upd W14 10 (nI (op + 1 - 1))) 14)) 14 (by decide) kf12_105 rfl dX12_factor_117 ?_
              refine j_v (bI (res14.1 = true)) hp15.2.2.2.2.2.2.2 ?_
              refine j_if_eq C 148 dX12_factor_120 (by decide) (fun c120 => ?_) (fun c120 => ?_)
              · replace c120 := bI_f c120
                refine j_aload_n C 2 dX12_factor_148 rfl ?_
                refine j_callV (As := []) (rest := []) C vw12_fails (c_fails) rRcv rfl (Nat.le_of_ble_eq_true rfl) dX12_factor_149 (by unfold dP; omega) ?_
                rintro _ _ ⟨rfl, rfl⟩
                have hp17 := hp15.sg
                have ve18 := VE.s2 ve16 14 0 (by omega)
                refine j_iret C dX12_factor_152 ?_
                rw [prs_pf c13 c30 c44 (by rw [← hr14]; exact fun h => c120 h.1), ← hr14]
                exact ⟨_, ve18, hp17, fun h => (by cases h), rfl⟩
              · replace c120 := bI_t c120
                refine j_aload_n C 2 dX12_factor_123 rfl ?_
                refine j_aload_n C 2 dX12_factor_124 rfl ?_
                refine rg C (v := .int ((upd W14 10 (nI (op + 1 - 1))) 8)) 8 (by decide) kf12_109 rfl dX12_factor_125 ?_
                refine j_v (nI res14.2.1) hp15.2.1 ?_
                refine j_callV (As := [.int (nI res14.2.1)]) (rest := []) C vw12_byteAt (c_byteAt (V := upd W14 10 (nI (op + 1 - 1))) res14.2.1 (by omega) hu hn hp15.1 hp15.2.2.1) rRcv rfl (Nat.le_of_ble_eq_true rfl) dX12_factor_128 (by unfold dP; omega) ?_
                rintro _ _ ⟨rfl, rfl⟩
                refine j_bipush C (v := (nI 41)) dX12_factor_131 (by decide) ?_
                refine j_icmp_ne C 148 dX12_factor_133 (by decide) (fun c133 => ?_) (fun c133 => ?_)
                · skip
                  refine j_aload_n C 2 dX12_factor_148 rfl ?_
                  refine j_callV (As := []) (rest := []) C vw12_fails (c_fails) rRcv rfl (Nat.le_of_ble_eq_true rfl) dX12_factor_149 (by unfold dP; omega) ?_
                  rintro _ _ ⟨rfl, rfl⟩
                  have hp19 := hp15.sg
                  have ve20 := VE.s2 ve16 14 0 (by omega)
                  refine j_iret C dX12_factor_152 ?_
                  rw [prs_pf c13 c30 c44 (by rw [← hr14]; exact fun h => c133 h.2), ← hr14]
                  exact ⟨_, ve20, hp19, fun h => (by cases h), rfl⟩
                · skip
                  refine j_aload_n C 2 dX12_factor_136 rfl ?_
                  refine j_dup C dX12_factor_137 rfl ?_
                  refine rg C (v := .int ((upd W14 10 (nI (op + 1 - 1))) 8)) 8 (by decide) kf12_109 rfl dX12_factor_138 ?_
                  refine j_v (nI res14.2.1) hp15.2.1 ?_
                  refine j_iconst C (v := (nI 1)) dX12_factor_141 (by decide) ?_
                  refine j_iaddN C dX12_factor_142 ?_
                  refine rp_8 C kf12_109 dX12_factor_143 ?_
                  have hp21 := hp15.sk (res14.2.1 + 1)
                  have ve22 := VE.s2 ve16 8 (nI (res14.2.1 + 1)) (by omega)
                  refine j_iload_n C 0 dX12_factor_146 rfl ?_
                  refine j_iret C dX12_factor_147 ?_
                  rw [prs_pt c13 c30 c44 (by rw [← hr14]; exact ⟨c120, c133⟩), ← hr14]
                  exact ⟨_, ve22, g_t hp21 c120, fun _ => hS14 c120, rfl⟩
            · skip
              exact absurd c103 c75
          · skip
            exact absurd c75 c24
        · rw [nI_eq (by omega) (by omega)] at c44
          refine j_aload_n C 1 dX12_factor_47 rfl ?_
          refine j_callV (As := []) (rest := []) C vw12_fails (c_fails) rRcv rfl (Nat.le_of_ble_eq_true rfl) dX12_factor_48 (by unfold dP; omega) ?_
          rintro _ _ ⟨rfl, rfl⟩
          have hp23 := hp.sg
          have ve24 := VE.s2 (VE.rf (V := V)) 14 0 (by omega)
          refine j_iret C dX12_factor_51 ?_
          rw [prs_full c13 (Or.inr c30) c44]
          exact ⟨_, ve24, hp23, fun h => (by cases h), rfl⟩
      · skip
        refine j_aload_n C 1 dX12_factor_33 rfl ?_
        refine j_iload_n C 0 dX12_factor_34 rfl ?_
        refine j_callV (As := [.int (bytF (txF row u) n k)]) (rest := []) C vw12_named (c_named hu hn hk hp) rRcv rfl (Nat.le_of_ble_eq_true rfl) dX12_factor_35 (by unfold dP; omega) ?_
        rintro r0 _ ⟨W0, hW0, hA, hB, rfl⟩
        refine j_iret C dX12_factor_38 ?_
        by_cases hnm : namF u (bytF (txF row u) n k) < 3
        · obtain ⟨hA1, rfl⟩ := hA hnm
          rw [prs_nam c13 c24 c30 hnm]
          exact ⟨W0, hW0, hA1, fun _ => ⟨_, rfl, Seg.nam a b c hnm⟩, rfl⟩
        · rw [prs_bad c13 c24 c30 hnm]
          exact ⟨W0, hW0, hB hnm, fun h => (by cases h), rfl⟩
  · replace c13 := bI_t c13
    refine j_aload_n C 1 dX12_factor_16 rfl ?_
    refine j_callV (As := []) (rest := []) C vw12_number (c_number hu hn hk hp) rRcv rfl (Nat.le_of_ble_eq_true rfl) dX12_factor_17 (by unfold dP; omega) ?_
    rintro _ _ ⟨W0, hW0, hP0, rfl, rfl⟩
    refine j_iret C dX12_factor_20 ?_
    rw [prs_num c13]
    exact ⟨W0, hW0, hP0, fun _ => ⟨_, rfl, Seg.num (num_nn _ _ _)⟩, rfl⟩

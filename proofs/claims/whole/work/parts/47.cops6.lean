/-! The class's public calls: sheets. -/
theorem dX11_lowestBits_0 : decode cX11_lowestBits 0 = .ok (.iload_n 0, 1) := by decide +kernel
theorem dX11_lowestBits_1 : decode cX11_lowestBits 1 = .ok (.lookupswitch 33 #[(8, 27), (16, 30)], 27) := by decide +kernel
theorem dX11_lowestBits_28 : decode cX11_lowestBits 28 = .ok (.iload_n 1, 1) := by decide +kernel
theorem dX11_lowestBits_29 : decode cX11_lowestBits 29 = .ok (.i2b, 1) := by decide +kernel
theorem dX11_lowestBits_30 : decode cX11_lowestBits 30 = .ok (.ireturn, 1) := by decide +kernel
theorem dX11_lowestBits_31 : decode cX11_lowestBits 31 = .ok (.iload_n 1, 1) := by decide +kernel
theorem dX11_lowestBits_32 : decode cX11_lowestBits 32 = .ok (.i2s, 1) := by decide +kernel
theorem dX11_lowestBits_33 : decode cX11_lowestBits 33 = .ok (.ireturn, 1) := by decide +kernel
theorem dX11_lowestBits_34 : decode cX11_lowestBits 34 = .ok (.iload_n 1, 1) := by decide +kernel
theorem dX11_lowestBits_35 : decode cX11_lowestBits 35 = .ok (.ireturn, 1) := by decide +kernel
set_option maxHeartbeats 2000000 in
set_option maxRecDepth 20000 in
theorem h_lowestBits {l : Launch} {D : va_G} {cI cG cW : ClassId} {q : Nat → Nat} {S : Nat → Int32} {X : Nat → Nat → Int32} {P : Nat → Nat} {b v : Int32} : Ci l yX11_lowestBits cX11_lowestBits 2 (some .int) 0 D (tyL cI cG cW) (wC cI cG cW q) [.int b, .int v] (S, X, P) (fun r τ => r = narF b v ∧ τ = (S, X, P)) := by
  refine Ci.of (by decide) (Nat.le_of_ble_eq_true rfl) ?_
  intro p_ e_ s_ m_ b_ M_ c_ A_ C
  replace C : Cx _ _ _ _ _ _ _ _ RX11 _ _ _ _ := C
  refine j_L [0, 1] [(0, .int b), (1, .int v)] rfl ?_
  by_cases h8 : b = nI 8
  · subst h8
    refine j_iload_n C 0 dX11_lowestBits_0 rfl ?_
    · refine j_lookup C (off := 27) 28 dX11_lowestBits_1 (by decide) (by decide) (by decide) ?_
      refine j_iload_n C 1 dX11_lowestBits_28 rfl ?_
      refine j_i2b C dX11_lowestBits_29 ?_
      refine j_iret C dX11_lowestBits_30 ?_
      refine ⟨?_, rfl⟩
      unfold narF
      rw [if_pos rfl]
  · by_cases h16 : b = nI 16
    · subst h16
      refine j_iload_n C 0 dX11_lowestBits_0 rfl ?_
      · refine j_lookup C (off := 30) 31 dX11_lowestBits_1 (by decide) (by decide) (by decide) ?_
        refine j_iload_n C 1 dX11_lowestBits_31 rfl ?_
        refine j_i2s C dX11_lowestBits_32 ?_
        refine j_iret C dX11_lowestBits_33 ?_
        refine ⟨?_, rfl⟩
        unfold narF
        rw [if_neg (by decide), if_pos rfl]
    · refine j_iload_n C 0 dX11_lowestBits_0 rfl ?_
      refine j_lookup C (off := 33) 34 dX11_lowestBits_1 (by decide) (show Op.lookupswitch.offset [(8, 27), (16, 30)] 33 _ = _ from by rw [lv_osw h8 (by decide), lv_osw h16 (by decide)]; rfl) (by decide) ?_
      refine j_iload_n C 1 dX11_lowestBits_34 rfl ?_
      refine j_iret C dX11_lowestBits_35 ?_
      refine ⟨?_, rfl⟩
      unfold narF
      rw [if_neg h8, if_neg h16]

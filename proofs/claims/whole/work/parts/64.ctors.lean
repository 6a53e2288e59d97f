/-! The constructors. -/
theorem fr_ix {α : Type} {Ap B : List α} {x : α} (k : Nat) (q : α) (hq : (x :: (Ap ++ B))[k]? = some q) : (Ap ++ x :: B)[if k = 0 then Ap.length else if k ≤ Ap.length then k - 1 else k]? = some q := by
  cases k with
  | zero => rw [if_pos rfl, List.getElem?_append_right (Nat.le_refl _), Nat.sub_self]; exact hq
  | succ k =>
    have hq2 : (Ap ++ B)[k]? = some q := hq
    rw [if_neg (Nat.succ_ne_zero k)]
    by_cases h : k + 1 ≤ Ap.length
    · rw [if_pos h, Nat.add_sub_cancel, List.getElem?_append_left (by omega)]
      rw [List.getElem?_append_left (by omega)] at hq2; exact hq2
    · rw [if_neg h, List.getElem?_append_right (by omega), show k + 1 - Ap.length = (k - Ap.length) + 1 by omega]
      rw [List.getElem?_append_right (by omega)] at hq2; exact hq2
theorem n_front {p : Program} {l : Launch} {e : Env} {R : Room} {s : State} {m : MethodId} {args : Array Value} {below : List Frame} {meth : Method} {c : Code} {Q : State → Prop} {nL : Nat} {D : va_G} {A : Nat → Prop} {cl sl : Nat} {ws : va_W} {pc : Nat} {L : List (Nat × Value)} {st : List Value} (Ap : va_W) (x : Nat × va_E) (B : va_W) (h1 : ws = Ap ++ x :: B) (ws' : va_W) (h2 : x :: (Ap ++ B) = ws') (kk : JN p l e R s m args below meth c Q nL D A cl sl (fun w : va_W => w) ws' pc L st) : JN p l e R s m args below meth c Q nL D A cl sl (fun w : va_W => w) ws pc L st := by
  intro H locs ls hP hD hS hl
  subst h1
  subst h2
  refine kk H locs ls (fun k q hq => hP _ q (fr_ix k q hq)) ⟨fun i j p q hi hj e => ?_, fun k q hq => hD.2 _ q (fr_ix k q hq)⟩ hS hl
  have hx := hD.1 _ _ p q (fr_ix i p hi) (fr_ix j q hj) e
  by_cases a : i = 0
  · by_cases b : j = 0
    · omega
    · rw [if_pos a, if_neg b] at hx
      by_cases b2 : j ≤ Ap.length
      · rw [if_pos b2] at hx; omega
      · rw [if_neg b2] at hx; omega
  · by_cases b : j = 0
    · rw [if_neg a, if_pos b] at hx
      by_cases a2 : i ≤ Ap.length
      · rw [if_pos a2] at hx; omega
      · rw [if_neg a2] at hx; omega
    · rw [if_neg a, if_neg b] at hx
      by_cases a2 : i ≤ Ap.length
      · by_cases b2 : j ≤ Ap.length
        · rw [if_pos a2, if_pos b2] at hx; omega
        · rw [if_pos a2, if_neg b2] at hx; omega
      · by_cases b2 : j ≤ Ap.length
        · rw [if_neg a2, if_pos b2] at hx; omega
        · rw [if_neg a2, if_neg b2] at hx; omega
theorem inlN0 : ∀ w ∈ u_ws RX0 TX0 0, w ∈ lw_g := by decide +kernel
theorem inlN1 : ∀ w ∈ u_ws RX1 TX1 16, w ∈ lw_g := by decide +kernel
theorem inlN2 : ∀ w ∈ u_ws RX2 TX2 0, w ∈ lw_g := by decide +kernel
theorem inlN3 : ∀ w ∈ u_ws RX3 TX3 8, w ∈ lw_g := by decide +kernel
theorem inlN4 : ∀ w ∈ u_ws RX4 TX4 6, w ∈ lw_g := by decide +kernel
theorem inlN5 : ∀ w ∈ u_ws RX5 TX5 0, w ∈ lw_g := by decide +kernel
theorem inlN6 : ∀ w ∈ u_ws RX6 TX6 0, w ∈ lw_g := by decide +kernel
theorem inlN7 : ∀ w ∈ u_ws RX7 TX7 0, w ∈ lw_g := by decide +kernel
theorem inlN8 : ∀ w ∈ u_ws RX8 TX8 2, w ∈ lw_g := by decide +kernel
theorem inlN9 : ∀ w ∈ u_ws RX9 TX9 0, w ∈ lw_g := by decide +kernel
theorem inlN10 : ∀ w ∈ u_ws RX10 TX10 0, w ∈ lw_g := by decide +kernel
theorem inlN11 : ∀ w ∈ u_ws RX11 TX11 10, w ∈ lw_g := by decide +kernel
theorem inlN12 : ∀ w ∈ u_ws RX12 TX12 30, w ∈ lw_g := by decide +kernel
theorem arI : Cond.arrayClass .int ∈ lw_g := gw 138 (by decide +kernel) rfl
theorem obI1 : Cond.instanceMethod Lib.objectInit ∈ lw_g := gw 110 (by decide +kernel) rfl
theorem obI2 : Cond.code Lib.objectInit ⟨#[0xb1]⟩ 1 none ∈ lw_g := gw 111 (by decide +kernel) rfl
theorem it11 : Cond.initialized RX11 ∈ lw_g := gw 83 (by decide +kernel) rfl
theorem it4 : Cond.initialized RX4 ∈ lw_g := gw 84 (by decide +kernel) rfl
theorem it8 : Cond.initialized RX8 ∈ lw_g := gw 85 (by decide +kernel) rfl
theorem it2 : Cond.initialized RX2 ∈ lw_g := gw 87 (by decide +kernel) rfl
theorem it10 : Cond.initialized RX10 ∈ lw_g := gw 88 (by decide +kernel) rfl
theorem it0 : Cond.initialized RX0 ∈ lw_g := gw 89 (by decide +kernel) rfl
theorem it9 : Cond.initialized RX9 ∈ lw_g := gw 90 (by decide +kernel) rfl
theorem it5 : Cond.initialized RX5 ∈ lw_g := gw 91 (by decide +kernel) rfl
theorem it6 : Cond.initialized RX6 ∈ lw_g := gw 92 (by decide +kernel) rfl
theorem it7 : Cond.initialized RX7 ∈ lw_g := gw 93 (by decide +kernel) rfl
theorem it3 : Cond.initialized RX3 ∈ lw_g := gw 94 (by decide +kernel) rfl
theorem it1 : Cond.initialized RX1 ∈ lw_g := gw 95 (by decide +kernel) rfl
theorem it12 : Cond.initialized RX12 ∈ lw_g := gw 96 (by decide +kernel) rfl
theorem is11 : Cond.instantiable RX11 10 ∈ lw_g := gw 105 (by decide +kernel) rfl
theorem cl11_7 : Cond.classLink RX11 7 RX4 ∈ lw_g := gw 112 (by decide +kernel) rfl
theorem is4 : Cond.instantiable RX4 6 ∈ lw_g := gw 113 (by decide +kernel) rfl
theorem cl4_9 : Cond.classLink RX4 9 RX8 ∈ lw_g := gw 118 (by decide +kernel) rfl
theorem is8 : Cond.instantiable RX8 2 ∈ lw_g := gw 119 (by decide +kernel) rfl
theorem cl11_18 : Cond.classLink RX11 18 RX8 ∈ lw_g := gw 162 (by decide +kernel) rfl
theorem cl11_40 : Cond.classLink RX11 40 RX2 ∈ lw_g := gw 165 (by decide +kernel) rfl
theorem is2 : Cond.instantiable RX2 0 ∈ lw_g := gw 167 (by decide +kernel) rfl
theorem cl11_43 : Cond.classLink RX11 43 RX10 ∈ lw_g := gw 173 (by decide +kernel) rfl
theorem is10 : Cond.instantiable RX10 0 ∈ lw_g := gw 174 (by decide +kernel) rfl
theorem cl11_46 : Cond.classLink RX11 46 RX0 ∈ lw_g := gw 180 (by decide +kernel) rfl
theorem is0 : Cond.instantiable RX0 0 ∈ lw_g := gw 181 (by decide +kernel) rfl
theorem cl11_49 : Cond.classLink RX11 49 RX9 ∈ lw_g := gw 187 (by decide +kernel) rfl
theorem is9 : Cond.instantiable RX9 0 ∈ lw_g := gw 188 (by decide +kernel) rfl
theorem cl11_52 : Cond.classLink RX11 52 RX5 ∈ lw_g := gw 194 (by decide +kernel) rfl
theorem is5 : Cond.instantiable RX5 0 ∈ lw_g := gw 195 (by decide +kernel) rfl
theorem cl11_55 : Cond.classLink RX11 55 RX6 ∈ lw_g := gw 201 (by decide +kernel) rfl
theorem is6 : Cond.instantiable RX6 0 ∈ lw_g := gw 202 (by decide +kernel) rfl
theorem cl11_58 : Cond.classLink RX11 58 RX7 ∈ lw_g := gw 208 (by decide +kernel) rfl
theorem is7 : Cond.instantiable RX7 0 ∈ lw_g := gw 209 (by decide +kernel) rfl
theorem cl11_65 : Cond.classLink RX11 65 RX3 ∈ lw_g := gw 215 (by decide +kernel) rfl
theorem is3 : Cond.instantiable RX3 8 ∈ lw_g := gw 216 (by decide +kernel) rfl
theorem cl11_67 : Cond.classLink RX11 67 RX1 ∈ lw_g := gw 217 (by decide +kernel) rfl
theorem is1 : Cond.instantiable RX1 16 ∈ lw_g := gw 218 (by decide +kernel) rfl
theorem cl3_25 : Cond.classLink RX3 25 RX8 ∈ lw_g := gw 302 (by decide +kernel) rfl
theorem is12 : Cond.instantiable RX12 30 ∈ lw_g := gw 976 (by decide +kernel) rfl
theorem oi11_1 : Cond.methodLink RX11 1 Lib.objectInit ∈ lw_g := gw 109 (by decide +kernel) rfl
theorem ii11_9 : IN RX11 9 yX4_init cX4_init 2 1 := ⟨"GleanedSorry", gw 116 (by decide +kernel) rfl, nw 114 (by decide +kernel) rfl, gw 115 (by decide +kernel) rfl, it4, by decide +kernel, by decide, rfl⟩
theorem oi4_3 : Cond.methodLink RX4 3 Lib.objectInit ∈ lw_g := gw 117 (by decide +kernel) rfl
theorem ii4_11 : IN RX4 11 yX8_init cX8_init 2 1 := ⟨"GleanedSorry", gw 122 (by decide +kernel) rfl, nw 120 (by decide +kernel) rfl, gw 121 (by decide +kernel) rfl, it8, by decide +kernel, by decide, rfl⟩
theorem oi8_1 : Cond.methodLink RX8 1 Lib.objectInit ∈ lw_g := gw 123 (by decide +kernel) rfl
theorem ii11_20 : IN RX11 20 yX8_init cX8_init 2 1 := ⟨"GleanedSorry", gw 122 (by decide +kernel) rfl, nw 163 (by decide +kernel) rfl, gw 121 (by decide +kernel) rfl, it8, by decide +kernel, by decide, rfl⟩
theorem ii11_42 : IN RX11 42 yX2_init cX2_init 1 0 := ⟨"GleanedSorry", gw 170 (by decide +kernel) rfl, nw 168 (by decide +kernel) rfl, gw 169 (by decide +kernel) rfl, it2, by decide +kernel, by decide, rfl⟩
theorem oi2_1 : Cond.methodLink RX2 1 Lib.objectInit ∈ lw_g := gw 171 (by decide +kernel) rfl
theorem ii11_45 : IN RX11 45 yX10_init cX10_init 1 0 := ⟨"GleanedSorry", gw 177 (by decide +kernel) rfl, nw 175 (by decide +kernel) rfl, gw 176 (by decide +kernel) rfl, it10, by decide +kernel, by decide, rfl⟩
theorem ii10_1 : IN RX10 1 yX2_init cX2_init 1 0 := ⟨"GleanedSorry", gw 170 (by decide +kernel) rfl, nw 178 (by decide +kernel) rfl, gw 169 (by decide +kernel) rfl, it2, by decide +kernel, by decide, rfl⟩
theorem ii11_48 : IN RX11 48 yX0_init cX0_init 1 0 := ⟨"GleanedSorry", gw 184 (by decide +kernel) rfl, nw 182 (by decide +kernel) rfl, gw 183 (by decide +kernel) rfl, it0, by decide +kernel, by decide, rfl⟩
theorem ii0_1 : IN RX0 1 yX2_init cX2_init 1 0 := ⟨"GleanedSorry", gw 170 (by decide +kernel) rfl, nw 185 (by decide +kernel) rfl, gw 169 (by decide +kernel) rfl, it2, by decide +kernel, by decide, rfl⟩
theorem ii11_51 : IN RX11 51 yX9_init cX9_init 1 0 := ⟨"GleanedSorry", gw 191 (by decide +kernel) rfl, nw 189 (by decide +kernel) rfl, gw 190 (by decide +kernel) rfl, it9, by decide +kernel, by decide, rfl⟩
theorem ii9_1 : IN RX9 1 yX2_init cX2_init 1 0 := ⟨"GleanedSorry", gw 170 (by decide +kernel) rfl, nw 192 (by decide +kernel) rfl, gw 169 (by decide +kernel) rfl, it2, by decide +kernel, by decide, rfl⟩
theorem ii11_54 : IN RX11 54 yX5_init cX5_init 1 0 := ⟨"GleanedSorry", gw 198 (by decide +kernel) rfl, nw 196 (by decide +kernel) rfl, gw 197 (by decide +kernel) rfl, it5, by decide +kernel, by decide, rfl⟩
theorem ii5_1 : IN RX5 1 yX10_init cX10_init 1 0 := ⟨"GleanedSorry", gw 177 (by decide +kernel) rfl, nw 199 (by decide +kernel) rfl, gw 176 (by decide +kernel) rfl, it10, by decide +kernel, by decide, rfl⟩
theorem ii11_57 : IN RX11 57 yX6_init cX6_init 1 0 := ⟨"GleanedSorry", gw 205 (by decide +kernel) rfl, nw 203 (by decide +kernel) rfl, gw 204 (by decide +kernel) rfl, it6, by decide +kernel, by decide, rfl⟩
theorem ii6_1 : IN RX6 1 yX0_init cX0_init 1 0 := ⟨"GleanedSorry", gw 184 (by decide +kernel) rfl, nw 206 (by decide +kernel) rfl, gw 183 (by decide +kernel) rfl, it0, by decide +kernel, by decide, rfl⟩
theorem ii11_60 : IN RX11 60 yX7_init cX7_init 1 0 := ⟨"GleanedSorry", gw 212 (by decide +kernel) rfl, nw 210 (by decide +kernel) rfl, gw 211 (by decide +kernel) rfl, it7, by decide +kernel, by decide, rfl⟩
theorem ii7_1 : IN RX7 1 yX9_init cX9_init 1 0 := ⟨"GleanedSorry", gw 191 (by decide +kernel) rfl, nw 213 (by decide +kernel) rfl, gw 190 (by decide +kernel) rfl, it9, by decide +kernel, by decide, rfl⟩
theorem ii11_69 : IN RX11 69 yX1_init cX1_init 4 3 := ⟨"GleanedSorry", gw 221 (by decide +kernel) rfl, nw 219 (by decide +kernel) rfl, gw 220 (by decide +kernel) rfl, it1, by decide +kernel, by decide, rfl⟩
theorem oi1_3 : Cond.methodLink RX1 3 Lib.objectInit ∈ lw_g := gw 222 (by decide +kernel) rfl
theorem ii11_72 : IN RX11 72 yX3_init cX3_init 2 1 := ⟨"GleanedSorry", gw 300 (by decide +kernel) rfl, nw 298 (by decide +kernel) rfl, gw 299 (by decide +kernel) rfl, it3, by decide +kernel, by decide, rfl⟩
theorem oi3_3 : Cond.methodLink RX3 3 Lib.objectInit ∈ lw_g := gw 301 (by decide +kernel) rfl
theorem ii3_27 : IN RX3 27 yX8_init cX8_init 2 1 := ⟨"GleanedSorry", gw 122 (by decide +kernel) rfl, nw 303 (by decide +kernel) rfl, gw 121 (by decide +kernel) rfl, it8, by decide +kernel, by decide, rfl⟩
theorem oi12_1 : Cond.methodLink RX12 1 Lib.objectInit ∈ lw_g := gw 980 (by decide +kernel) rfl
theorem dX8_init_0 : decode cX8_init 0 = .ok (.aload_n 0, 1) := by decide +kernel
theorem dX8_init_1 : decode cX8_init 1 = .ok (.invokespecial 1, 3) := by decide +kernel
theorem dX8_init_4 : decode cX8_init 4 = .ok (.aload_n 0, 1) := by decide +kernel
theorem dX8_init_5 : decode cX8_init 5 = .ok (.iconst 0, 1) := by decide +kernel
theorem dX8_init_6 : decode cX8_init 6 = .ok (.putfield 7, 3) := by decide +kernel
theorem dX8_init_9 : decode cX8_init 9 = .ok (.aload_n 0, 1) := by decide +kernel
theorem dX8_init_10 : decode cX8_init 10 = .ok (.iload_n 1, 1) := by decide +kernel
theorem dX8_init_11 : decode cX8_init 11 = .ok (.iconst 0, 1) := by decide +kernel
theorem dX8_init_12 : decode cX8_init 12 = .ok (.invokestatic 13, 3) := by decide +kernel
theorem dX8_init_15 : decode cX8_init 15 = .ok (.newarray .int, 2) := by decide +kernel
theorem dX8_init_17 : decode cX8_init 17 = .ok (.putfield 19, 3) := by decide +kernel
theorem dX8_init_20 : decode cX8_init 20 = .ok (.return_, 1) := by decide +kernel
set_option maxHeartbeats 4000000 in
set_option maxRecDepth 20000 in
theorem h_rowI_50 {O : Ou} {l : Launch} {D : va_G} {cI cG cW : ClassId} (h : Nat) (ws0 : va_W) : Cn O l yX8_init cX8_init 2 2 1 50 D (tyL cI cG cW) [.ref h, .int (nI 50)] ((h, .inr (8, [.null, .int (nI 0)])) :: ws0) (fun ws' => ∃ a, ws' = (a, .inl (cI, 50, .inl (fun _ => nI 0))) :: (h, .inr (8, [.ref a, .int (nI 0)])) :: ws0) := by
  refine Cn.of (by decide) (Nat.le_of_ble_eq_true rfl) ?_
  intro p_ e_ s_ m_ b_ M_ c_ A_ C hO hX hI_
  replace C : Cx _ _ _ _ _ _ _ _ RX8 _ _ _ _ := C
  refine n_L [0, 1] [(0, .ref h), (1, .int (nI 50))] rfl ?_
  refine n_aload_n C 0 dX8_init_0 rfl ?_
  refine n_objI (rest := []) C oi8_1 obI1 obI2 (Nat.le_of_ble_eq_true rfl) ⟨Nat.le_of_ble_eq_true rfl, Nat.le_of_ble_eq_true rfl⟩ dX8_init_1 ?_
  refine n_aload_n C 0 dX8_init_4 rfl ?_
  refine n_iconst C (v := (nI 0)) dX8_init_5 (by decide) ?_
  refine n_put C 0 1 rfl rfl inlN8 tyX8 tyX8_ok nmX8 (by decide) kf8_7 rfl (ty := .int) (by decide +kernel) rfl rfl (Nat.le_of_ble_eq_true rfl) dX8_init_6 ((h, .inr (8, [.null, .int (nI 0)])) :: ws0) rfl ?_
  refine n_aload_n C 0 dX8_init_9 rfl ?_
  refine n_iload_n C 1 dX8_init_10 rfl ?_
  refine n_iconst C (v := (nI 0)) dX8_init_11 (by decide) ?_
  refine n_mmax (rest := [.ref h]) C mx8_13 ⟨Nat.le_of_ble_eq_true rfl, Nat.le_of_ble_eq_true rfl⟩ (Nat.le_of_ble_eq_true rfl) dX8_init_12 ?_ ⟨Nat.le_of_ble_eq_true rfl, Nat.le_of_ble_eq_true rfl⟩
  refine n_v (nI 50) rfl ?_
  refine n_newa C rfl arI 50 (by decide) (Nat.le_of_ble_eq_true rfl) (Nat.le_of_ble_eq_true rfl) dX8_init_15 (fun r1 => ?_)
  refine n_putF C hI_ 1 0 rfl rfl inlN8 tyX8 tyX8_ok nmX8 (by decide) kf8_19 rfl rfl (ty := (.array .int)) (by decide +kernel) rfl rfl (Nat.le_of_ble_eq_true rfl) dX8_init_17 ((r1, .inl (cI, 50, .inl (fun _ => nI 0))) :: (h, .inr (8, [.ref r1, .int (nI 0)])) :: ws0) rfl ?_
  refine n_vret C dX8_init_20 ?_
  exact ⟨_, rfl⟩
set_option maxHeartbeats 4000000 in
set_option maxRecDepth 20000 in
theorem h_rowI_20 {O : Ou} {l : Launch} {D : va_G} {cI cG cW : ClassId} (h : Nat) (ws0 : va_W) : Cn O l yX8_init cX8_init 2 2 1 20 D (tyL cI cG cW) [.ref h, .int (nI 20)] ((h, .inr (8, [.null, .int (nI 0)])) :: ws0) (fun ws' => ∃ a, ws' = (a, .inl (cI, 20, .inl (fun _ => nI 0))) :: (h, .inr (8, [.ref a, .int (nI 0)])) :: ws0) := by
  refine Cn.of (by decide) (Nat.le_of_ble_eq_true rfl) ?_
  intro p_ e_ s_ m_ b_ M_ c_ A_ C hO hX hI_
  replace C : Cx _ _ _ _ _ _ _ _ RX8 _ _ _ _ := C
  refine n_L [0, 1] [(0, .ref h), (1, .int (nI 20))] rfl ?_
  refine n_aload_n C 0 dX8_init_0 rfl ?_
  refine n_objI (rest := []) C oi8_1 obI1 obI2 (Nat.le_of_ble_eq_true rfl) ⟨Nat.le_of_ble_eq_true rfl, Nat.le_of_ble_eq_true rfl⟩ dX8_init_1 ?_
  refine n_aload_n C 0 dX8_init_4 rfl ?_
  refine n_iconst C (v := (nI 0)) dX8_init_5 (by decide) ?_
  refine n_put C 0 1 rfl rfl inlN8 tyX8 tyX8_ok nmX8 (by decide) kf8_7 rfl (ty := .int) (by decide +kernel) rfl rfl (Nat.le_of_ble_eq_true rfl) dX8_init_6 ((h, .inr (8, [.null, .int (nI 0)])) :: ws0) rfl ?_
  refine n_aload_n C 0 dX8_init_9 rfl ?_
  refine n_iload_n C 1 dX8_init_10 rfl ?_
  refine n_iconst C (v := (nI 0)) dX8_init_11 (by decide) ?_
  refine n_mmax (rest := [.ref h]) C mx8_13 ⟨Nat.le_of_ble_eq_true rfl, Nat.le_of_ble_eq_true rfl⟩ (Nat.le_of_ble_eq_true rfl) dX8_init_12 ?_ ⟨Nat.le_of_ble_eq_true rfl, Nat.le_of_ble_eq_true rfl⟩
  refine n_v (nI 20) rfl ?_
  refine n_newa C rfl arI 20 (by decide) (Nat.le_of_ble_eq_true rfl) (Nat.le_of_ble_eq_true rfl) dX8_init_15 (fun r2 => ?_)
  refine n_putF C hI_ 1 0 rfl rfl inlN8 tyX8 tyX8_ok nmX8 (by decide) kf8_19 rfl rfl (ty := (.array .int)) (by decide +kernel) rfl rfl (Nat.le_of_ble_eq_true rfl) dX8_init_17 ((r2, .inl (cI, 20, .inl (fun _ => nI 0))) :: (h, .inr (8, [.ref r2, .int (nI 0)])) :: ws0) rfl ?_
  refine n_vret C dX8_init_20 ?_
  exact ⟨_, rfl⟩
set_option maxHeartbeats 4000000 in
set_option maxRecDepth 20000 in
theorem h_rowI_40 {O : Ou} {l : Launch} {D : va_G} {cI cG cW : ClassId} (h : Nat) (ws0 : va_W) : Cn O l yX8_init cX8_init 2 2 1 40 D (tyL cI cG cW) [.ref h, .int (nI 40)] ((h, .inr (8, [.null, .int (nI 0)])) :: ws0) (fun ws' => ∃ a, ws' = (a, .inl (cI, 40, .inl (fun _ => nI 0))) :: (h, .inr (8, [.ref a, .int (nI 0)])) :: ws0) := by
  refine Cn.of (by decide) (Nat.le_of_ble_eq_true rfl) ?_
  intro p_ e_ s_ m_ b_ M_ c_ A_ C hO hX hI_
  replace C : Cx _ _ _ _ _ _ _ _ RX8 _ _ _ _ := C
  refine n_L [0, 1] [(0, .ref h), (1, .int (nI 40))] rfl ?_
  refine n_aload_n C 0 dX8_init_0 rfl ?_
  refine n_objI (rest := []) C oi8_1 obI1 obI2 (Nat.le_of_ble_eq_true rfl) ⟨Nat.le_of_ble_eq_true rfl, Nat.le_of_ble_eq_true rfl⟩ dX8_init_1 ?_
  refine n_aload_n C 0 dX8_init_4 rfl ?_
  refine n_iconst C (v := (nI 0)) dX8_init_5 (by decide) ?_
  refine n_put C 0 1 rfl rfl inlN8 tyX8 tyX8_ok nmX8 (by decide) kf8_7 rfl (ty := .int) (by decide +kernel) rfl rfl (Nat.le_of_ble_eq_true rfl) dX8_init_6 ((h, .inr (8, [.null, .int (nI 0)])) :: ws0) rfl ?_
  refine n_aload_n C 0 dX8_init_9 rfl ?_
  refine n_iload_n C 1 dX8_init_10 rfl ?_
  refine n_iconst C (v := (nI 0)) dX8_init_11 (by decide) ?_
  refine n_mmax (rest := [.ref h]) C mx8_13 ⟨Nat.le_of_ble_eq_true rfl, Nat.le_of_ble_eq_true rfl⟩ (Nat.le_of_ble_eq_true rfl) dX8_init_12 ?_ ⟨Nat.le_of_ble_eq_true rfl, Nat.le_of_ble_eq_true rfl⟩
  refine n_v (nI 40) rfl ?_
  refine n_newa C rfl arI 40 (by decide) (Nat.le_of_ble_eq_true rfl) (Nat.le_of_ble_eq_true rfl) dX8_init_15 (fun r3 => ?_)
  refine n_putF C hI_ 1 0 rfl rfl inlN8 tyX8 tyX8_ok nmX8 (by decide) kf8_19 rfl rfl (ty := (.array .int)) (by decide +kernel) rfl rfl (Nat.le_of_ble_eq_true rfl) dX8_init_17 ((r3, .inl (cI, 40, .inl (fun _ => nI 0))) :: (h, .inr (8, [.ref r3, .int (nI 0)])) :: ws0) rfl ?_
  refine n_vret C dX8_init_20 ?_
  exact ⟨_, rfl⟩
theorem dX2_init_0 : decode cX2_init 0 = .ok (.aload_n 0, 1) := by decide +kernel
theorem dX2_init_1 : decode cX2_init 1 = .ok (.invokespecial 1, 3) := by decide +kernel
theorem dX2_init_4 : decode cX2_init 4 = .ok (.return_, 1) := by decide +kernel
set_option maxHeartbeats 4000000 in
set_option maxRecDepth 20000 in
theorem h_kI_2 {O : Ou} {l : Launch} {D : va_G} {cI cG cW : ClassId} (h : Nat) (ws0 : va_W) : Cn O l yX2_init cX2_init 1 1 0 0 D (tyL cI cG cW) [.ref h] (ws0) (fun ws' => ws' = ws0) := by
  refine Cn.of (by decide) (Nat.le_of_ble_eq_true rfl) ?_
  intro p_ e_ s_ m_ b_ M_ c_ A_ C hO hX hI_
  replace C : Cx _ _ _ _ _ _ _ _ RX2 _ _ _ _ := C
  refine n_L [0] [(0, .ref h)] rfl ?_
  refine n_aload_n C 0 dX2_init_0 rfl ?_
  refine n_objI (rest := []) C oi2_1 obI1 obI2 (Nat.le_of_ble_eq_true rfl) ⟨Nat.le_of_ble_eq_true rfl, Nat.le_of_ble_eq_true rfl⟩ dX2_init_1 ?_
  refine n_vret C dX2_init_4 ?_
  exact rfl
theorem dX10_init_0 : decode cX10_init 0 = .ok (.aload_n 0, 1) := by decide +kernel
theorem dX10_init_1 : decode cX10_init 1 = .ok (.invokespecial 1, 3) := by decide +kernel
theorem dX10_init_4 : decode cX10_init 4 = .ok (.return_, 1) := by decide +kernel
set_option maxHeartbeats 4000000 in
set_option maxRecDepth 20000 in
theorem h_kI_10 {O : Ou} {l : Launch} {D : va_G} {cI cG cW : ClassId} (h : Nat) (ws0 : va_W) : Cn O l yX10_init cX10_init 1 2 0 0 D (tyL cI cG cW) [.ref h] (ws0) (fun ws' => ws' = ws0) := by
  refine Cn.of (by decide) (Nat.le_of_ble_eq_true rfl) ?_
  intro p_ e_ s_ m_ b_ M_ c_ A_ C hO hX hI_
  replace C : Cx _ _ _ _ _ _ _ _ RX10 _ _ _ _ := C
  refine n_L [0] [(0, .ref h)] rfl ?_
  refine n_aload_n C 0 dX10_init_0 rfl ?_
  refine n_callIN (As := []) (rest := []) C hO hX ii10_1 (h_kI_2 (cI := cI) (cG := cG) (cW := cW) h _) rfl (Nat.le_of_ble_eq_true rfl) dX10_init_1 ⟨Nat.le_of_ble_eq_true rfl, Nat.le_of_ble_eq_true rfl⟩ ⟨Nat.le_of_ble_eq_true rfl, Nat.le_of_ble_eq_true rfl⟩ ?_
  rintro _ rfl
  refine n_vret C dX10_init_4 ?_
  exact rfl
theorem dX0_init_0 : decode cX0_init 0 = .ok (.aload_n 0, 1) := by decide +kernel
theorem dX0_init_1 : decode cX0_init 1 = .ok (.invokespecial 1, 3) := by decide +kernel
theorem dX0_init_4 : decode cX0_init 4 = .ok (.return_, 1) := by decide +kernel
set_option maxHeartbeats 4000000 in
set_option maxRecDepth 20000 in
theorem h_kI_0 {O : Ou} {l : Launch} {D : va_G} {cI cG cW : ClassId} (h : Nat) (ws0 : va_W) : Cn O l yX0_init cX0_init 1 2 0 0 D (tyL cI cG cW) [.ref h] (ws0) (fun ws' => ws' = ws0) := by
  refine Cn.of (by decide) (Nat.le_of_ble_eq_true rfl) ?_
  intro p_ e_ s_ m_ b_ M_ c_ A_ C hO hX hI_
  replace C : Cx _ _ _ _ _ _ _ _ RX0 _ _ _ _ := C
  refine n_L [0] [(0, .ref h)] rfl ?_
  refine n_aload_n C 0 dX0_init_0 rfl ?_
  refine n_callIN (As := []) (rest := []) C hO hX ii0_1 (h_kI_2 (cI := cI) (cG := cG) (cW := cW) h _) rfl (Nat.le_of_ble_eq_true rfl) dX0_init_1 ⟨Nat.le_of_ble_eq_true rfl, Nat.le_of_ble_eq_true rfl⟩ ⟨Nat.le_of_ble_eq_true rfl, Nat.le_of_ble_eq_true rfl⟩ ?_
  rintro _ rfl
  refine n_vret C dX0_init_4 ?_
  exact rfl
theorem dX9_init_0 : decode cX9_init 0 = .ok (.aload_n 0, 1) := by decide +kernel
theorem dX9_init_1 : decode cX9_init 1 = .ok (.invokespecial 1, 3) := by decide +kernel
theorem dX9_init_4 : decode cX9_init 4 = .ok (.return_, 1) := by decide +kernel
set_option maxHeartbeats 4000000 in
set_option maxRecDepth 20000 in
theorem h_kI_9 {O : Ou} {l : Launch} {D : va_G} {cI cG cW : ClassId} (h : Nat) (ws0 : va_W) : Cn O l yX9_init cX9_init 1 2 0 0 D (tyL cI cG cW) [.ref h] (ws0) (fun ws' => ws' = ws0) := by
  refine Cn.of (by decide) (Nat.le_of_ble_eq_true rfl) ?_
  intro p_ e_ s_ m_ b_ M_ c_ A_ C hO hX hI_
  replace C : Cx _ _ _ _ _ _ _ _ RX9 _ _ _ _ := C
  refine n_L [0] [(0, .ref h)] rfl ?_
  refine n_aload_n C 0 dX9_init_0 rfl ?_
  refine n_callIN (As := []) (rest := []) C hO hX ii9_1 (h_kI_2 (cI := cI) (cG := cG) (cW := cW) h _) rfl (Nat.le_of_ble_eq_true rfl) dX9_init_1 ⟨Nat.le_of_ble_eq_true rfl, Nat.le_of_ble_eq_true rfl⟩ ⟨Nat.le_of_ble_eq_true rfl, Nat.le_of_ble_eq_true rfl⟩ ?_
  rintro _ rfl
  refine n_vret C dX9_init_4 ?_
  exact rfl
theorem dX5_init_0 : decode cX5_init 0 = .ok (.aload_n 0, 1) := by decide +kernel
theorem dX5_init_1 : decode cX5_init 1 = .ok (.invokespecial 1, 3) := by decide +kernel
theorem dX5_init_4 : decode cX5_init 4 = .ok (.return_, 1) := by decide +kernel
set_option maxHeartbeats 4000000 in
set_option maxRecDepth 20000 in
theorem h_kI_5 {O : Ou} {l : Launch} {D : va_G} {cI cG cW : ClassId} (h : Nat) (ws0 : va_W) : Cn O l yX5_init cX5_init 1 3 0 0 D (tyL cI cG cW) [.ref h] (ws0) (fun ws' => ws' = ws0) := by
  refine Cn.of (by decide) (Nat.le_of_ble_eq_true rfl) ?_
  intro p_ e_ s_ m_ b_ M_ c_ A_ C hO hX hI_
  replace C : Cx _ _ _ _ _ _ _ _ RX5 _ _ _ _ := C
  refine n_L [0] [(0, .ref h)] rfl ?_
  refine n_aload_n C 0 dX5_init_0 rfl ?_
  refine n_callIN (As := []) (rest := []) C hO hX ii5_1 (h_kI_10 (cI := cI) (cG := cG) (cW := cW) h _) rfl (Nat.le_of_ble_eq_true rfl) dX5_init_1 ⟨Nat.le_of_ble_eq_true rfl, Nat.le_of_ble_eq_true rfl⟩ ⟨Nat.le_of_ble_eq_true rfl, Nat.le_of_ble_eq_true rfl⟩ ?_
  rintro _ rfl
  refine n_vret C dX5_init_4 ?_
  exact rfl
theorem dX6_init_0 : decode cX6_init 0 = .ok (.aload_n 0, 1) := by decide +kernel
theorem dX6_init_1 : decode cX6_init 1 = .ok (.invokespecial 1, 3) := by decide +kernel
theorem dX6_init_4 : decode cX6_init 4 = .ok (.return_, 1) := by decide +kernel
set_option maxHeartbeats 4000000 in
set_option maxRecDepth 20000 in
theorem h_kI_6 {O : Ou} {l : Launch} {D : va_G} {cI cG cW : ClassId} (h : Nat) (ws0 : va_W) : Cn O l yX6_init cX6_init 1 3 0 0 D (tyL cI cG cW) [.ref h] (ws0) (fun ws' => ws' = ws0) := by
  refine Cn.of (by decide) (Nat.le_of_ble_eq_true rfl) ?_
  intro p_ e_ s_ m_ b_ M_ c_ A_ C hO hX hI_
  replace C : Cx _ _ _ _ _ _ _ _ RX6 _ _ _ _ := C
  refine n_L [0] [(0, .ref h)] rfl ?_
  refine n_aload_n C 0 dX6_init_0 rfl ?_
  refine n_callIN (As := []) (rest := []) C hO hX ii6_1 (h_kI_0 (cI := cI) (cG := cG) (cW := cW) h _) rfl (Nat.le_of_ble_eq_true rfl) dX6_init_1 ⟨Nat.le_of_ble_eq_true rfl, Nat.le_of_ble_eq_true rfl⟩ ⟨Nat.le_of_ble_eq_true rfl, Nat.le_of_ble_eq_true rfl⟩ ?_
  rintro _ rfl
  refine n_vret C dX6_init_4 ?_
  exact rfl
theorem dX7_init_0 : decode cX7_init 0 = .ok (.aload_n 0, 1) := by decide +kernel
theorem dX7_init_1 : decode cX7_init 1 = .ok (.invokespecial 1, 3) := by decide +kernel
theorem dX7_init_4 : decode cX7_init 4 = .ok (.return_, 1) := by decide +kernel
set_option maxHeartbeats 4000000 in
set_option maxRecDepth 20000 in
theorem h_kI_7 {O : Ou} {l : Launch} {D : va_G} {cI cG cW : ClassId} (h : Nat) (ws0 : va_W) : Cn O l yX7_init cX7_init 1 3 0 0 D (tyL cI cG cW) [.ref h] (ws0) (fun ws' => ws' = ws0) := by
  refine Cn.of (by decide) (Nat.le_of_ble_eq_true rfl) ?_
  intro p_ e_ s_ m_ b_ M_ c_ A_ C hO hX hI_
  replace C : Cx _ _ _ _ _ _ _ _ RX7 _ _ _ _ := C
  refine n_L [0] [(0, .ref h)] rfl ?_
  refine n_aload_n C 0 dX7_init_0 rfl ?_
  refine n_callIN (As := []) (rest := []) C hO hX ii7_1 (h_kI_9 (cI := cI) (cG := cG) (cW := cW) h _) rfl (Nat.le_of_ble_eq_true rfl) dX7_init_1 ⟨Nat.le_of_ble_eq_true rfl, Nat.le_of_ble_eq_true rfl⟩ ⟨Nat.le_of_ble_eq_true rfl, Nat.le_of_ble_eq_true rfl⟩ ?_
  rintro _ rfl
  refine n_vret C dX7_init_4 ?_
  exact rfl
theorem dX4_init_0 : decode cX4_init 0 = .ok (.aload_n 0, 1) := by decide +kernel
theorem dX4_init_1 : decode cX4_init 1 = .ok (.invokespecial 3, 3) := by decide +kernel
theorem dX4_init_4 : decode cX4_init 4 = .ok (.aload_n 0, 1) := by decide +kernel
theorem dX4_init_5 : decode cX4_init 5 = .ok (.new 9, 3) := by decide +kernel
theorem dX4_init_8 : decode cX4_init 8 = .ok (.dup, 1) := by decide +kernel
theorem dX4_init_9 : decode cX4_init 9 = .ok (.bipush 50, 2) := by decide +kernel
theorem dX4_init_11 : decode cX4_init 11 = .ok (.invokespecial 11, 3) := by decide +kernel
theorem dX4_init_14 : decode cX4_init 14 = .ok (.putfield 14, 3) := by decide +kernel
theorem dX4_init_17 : decode cX4_init 17 = .ok (.aload_n 0, 1) := by decide +kernel
theorem dX4_init_18 : decode cX4_init 18 = .ok (.bipush 50, 2) := by decide +kernel
theorem dX4_init_20 : decode cX4_init 20 = .ok (.newarray .int, 2) := by decide +kernel
theorem dX4_init_22 : decode cX4_init 22 = .ok (.putfield 20, 3) := by decide +kernel
theorem dX4_init_25 : decode cX4_init 25 = .ok (.aload_n 0, 1) := by decide +kernel
theorem dX4_init_26 : decode cX4_init 26 = .ok (.aload_n 0, 1) := by decide +kernel
theorem dX4_init_27 : decode cX4_init 27 = .ok (.getfield 14, 3) := by decide +kernel
theorem dX4_init_30 : decode cX4_init 30 = .ok (.putfield 24, 3) := by decide +kernel
theorem dX4_init_33 : decode cX4_init 33 = .ok (.aload_n 0, 1) := by decide +kernel
theorem dX4_init_34 : decode cX4_init 34 = .ok (.ldc 27, 2) := by decide +kernel
theorem dX4_init_36 : decode cX4_init 36 = .ok (.putfield 29, 3) := by decide +kernel
theorem dX4_init_39 : decode cX4_init 39 = .ok (.aload_n 0, 1) := by decide +kernel
theorem dX4_init_40 : decode cX4_init 40 = .ok (.iconst 0, 1) := by decide +kernel
theorem dX4_init_41 : decode cX4_init 41 = .ok (.putfield 33, 3) := by decide +kernel
theorem dX4_init_44 : decode cX4_init 44 = .ok (.aload_n 0, 1) := by decide +kernel
theorem dX4_init_45 : decode cX4_init 45 = .ok (.iload_n 1, 1) := by decide +kernel
theorem dX4_init_46 : decode cX4_init 46 = .ok (.putfield 37, 3) := by decide +kernel
theorem dX4_init_49 : decode cX4_init 49 = .ok (.return_, 1) := by decide +kernel
set_option maxHeartbeats 4000000 in
set_option maxRecDepth 20000 in
theorem h_lawI_0 {O : Ou} {l : Launch} {D : va_G} {cI cG cW : ClassId} (h : Nat) (ws0 : va_W) : Cn O l yX4_init cX4_init 2 4 3 102 D (tyL cI cG cW) [.ref h, .int (nI 0)] ((h, .inr (4, [.int (nI 0), .null, .null, .null, .null, .int (nI 0)])) :: ws0) (fun ws' => ∃ st it r, ws' = (st, .inl (cI, 50, .inl (fun _ => nI 0))) :: (it, .inl (cI, 50, .inl (fun _ => nI 0))) :: (r, .inr (8, [.ref it, .int (nI 0)])) :: (h, .inr (4, [.int (nI 0), .ref r, .ref st, .ref r, .ref (O.2.1 0), .int (nI 0)])) :: ws0) := by
  refine Cn.of (by decide) (Nat.le_of_ble_eq_true rfl) ?_
  intro p_ e_ s_ m_ b_ M_ c_ A_ C hO hX hI_
  replace C : Cx _ _ _ _ _ _ _ _ RX4 _ _ _ _ := C
  refine n_L [0, 1] [(0, .ref h), (1, .int (nI 0))] rfl ?_
  refine n_aload_n C 0 dX4_init_0 rfl ?_
  refine n_objI (rest := []) C oi4_3 obI1 obI2 (Nat.le_of_ble_eq_true rfl) ⟨Nat.le_of_ble_eq_true rfl, Nat.le_of_ble_eq_true rfl⟩ dX4_init_1 ?_
  refine n_aload_n C 0 dX4_init_4 rfl ?_
  refine n_new (ci := 8) C inlN8 tyX8 tyX8_ok cl4_9 is8 it8 rfl [.null, .int (nI 0)] (fun j hj => by rcases (show j = 0 ∨ j = 1 by omega) with rfl | rfl <;> rfl) (Nat.le_of_ble_eq_true rfl) (Nat.le_of_ble_eq_true rfl) dX4_init_5 (fun o4 => ?_)
  refine n_dup C dX4_init_8 rfl ?_
  refine n_bipush C (v := (nI 50)) dX4_init_9 (by decide) ?_
  refine n_callIN (As := [.int (nI 50)]) (rest := [.ref o4, .ref h]) C hO hX ii4_11 (h_rowI_50 (cI := cI) (cG := cG) (cW := cW) o4 _) rfl (Nat.le_of_ble_eq_true rfl) dX4_init_11 ⟨Nat.le_of_ble_eq_true rfl, Nat.le_of_ble_eq_true rfl⟩ ⟨Nat.le_of_ble_eq_true rfl, Nat.le_of_ble_eq_true rfl⟩ ?_
  rintro _ ⟨r5, rfl⟩
  refine n_putF C hI_ 2 1 rfl rfl inlN4 tyX4 tyX4_ok nmX4 (by decide) kf4_14 rfl rfl (ty := (.object "GleanedSorry$Row")) (by decide +kernel) rfl rfl (Nat.le_of_ble_eq_true rfl) dX4_init_14 ((r5, .inl (cI, 50, .inl (fun _ => nI 0))) :: (o4, .inr (8, [.ref r5, .int (nI 0)])) :: (h, .inr (4, [.int (nI 0), .ref o4, .null, .null, .null, .int (nI 0)])) :: ws0) rfl ?_
  refine n_aload_n C 0 dX4_init_17 rfl ?_
  refine n_bipush C (v := (nI 50)) dX4_init_18 (by decide) ?_
  refine n_newa C rfl arI 50 (by decide) (Nat.le_of_ble_eq_true rfl) (Nat.le_of_ble_eq_true rfl) dX4_init_20 (fun r6 => ?_)
  refine n_putF C hI_ 3 2 rfl rfl inlN4 tyX4 tyX4_ok nmX4 (by decide) kf4_20 rfl rfl (ty := (.array .int)) (by decide +kernel) rfl rfl (Nat.le_of_ble_eq_true rfl) dX4_init_22 ((r6, .inl (cI, 50, .inl (fun _ => nI 0))) :: (r5, .inl (cI, 50, .inl (fun _ => nI 0))) :: (o4, .inr (8, [.ref r5, .int (nI 0)])) :: (h, .inr (4, [.int (nI 0), .ref o4, .ref r6, .null, .null, .int (nI 0)])) :: ws0) rfl ?_
  refine n_aload_n C 0 dX4_init_25 rfl ?_
  refine n_aload_n C 0 dX4_init_26 rfl ?_
  refine n_get C (v := .ref o4) 3 1 rfl rfl inlN4 (by decide) kf4_14 rfl dX4_init_27 ?_
  refine n_put C 3 3 rfl rfl inlN4 tyX4 tyX4_ok nmX4 (by decide) kf4_24 rfl (ty := (.object "GleanedSorry$Row")) (by decide +kernel) rfl rfl (Nat.le_of_ble_eq_true rfl) dX4_init_30 ((r6, .inl (cI, 50, .inl (fun _ => nI 0))) :: (r5, .inl (cI, 50, .inl (fun _ => nI 0))) :: (o4, .inr (8, [.ref r5, .int (nI 0)])) :: (h, .inr (4, [.int (nI 0), .ref o4, .ref r6, .ref o4, .null, .int (nI 0)])) :: ws0) rfl ?_
  refine n_aload_n C 0 dX4_init_33 rfl ?_
  refine n_ldcS C hO.2.2.2.1 dX4_init_34 ?_
  refine n_put C 3 4 rfl rfl inlN4 tyX4 tyX4_ok nmX4 (by decide) kf4_29 rfl (ty := (.object "java/lang/String")) (by decide +kernel) rfl rfl (Nat.le_of_ble_eq_true rfl) dX4_init_36 ((r6, .inl (cI, 50, .inl (fun _ => nI 0))) :: (r5, .inl (cI, 50, .inl (fun _ => nI 0))) :: (o4, .inr (8, [.ref r5, .int (nI 0)])) :: (h, .inr (4, [.int (nI 0), .ref o4, .ref r6, .ref o4, .ref (O.2.1 0), .int (nI 0)])) :: ws0) rfl ?_
  refine n_aload_n C 0 dX4_init_39 rfl ?_
  refine n_iconst C (v := (nI 0)) dX4_init_40 (by decide) ?_
  refine n_put C 3 5 rfl rfl inlN4 tyX4 tyX4_ok nmX4 (by decide) kf4_33 rfl (ty := .int) (by decide +kernel) rfl rfl (Nat.le_of_ble_eq_true rfl) dX4_init_41 ((r6, .inl (cI, 50, .inl (fun _ => nI 0))) :: (r5, .inl (cI, 50, .inl (fun _ => nI 0))) :: (o4, .inr (8, [.ref r5, .int (nI 0)])) :: (h, .inr (4, [.int (nI 0), .ref o4, .ref r6, .ref o4, .ref (O.2.1 0), .int (nI 0)])) :: ws0) rfl ?_
  refine n_aload_n C 0 dX4_init_44 rfl ?_
  refine n_iload_n C 1 dX4_init_45 rfl ?_
  refine n_putF C hI_ 3 0 rfl rfl inlN4 tyX4 tyX4_ok nmX4 (by decide) kf4_37 rfl rfl (ty := .int) (by decide +kernel) rfl rfl (Nat.le_of_ble_eq_true rfl) dX4_init_46 ((r6, .inl (cI, 50, .inl (fun _ => nI 0))) :: (r5, .inl (cI, 50, .inl (fun _ => nI 0))) :: (o4, .inr (8, [.ref r5, .int (nI 0)])) :: (h, .inr (4, [.int (nI 0), .ref o4, .ref r6, .ref o4, .ref (O.2.1 0), .int (nI 0)])) :: ws0) rfl ?_
  refine n_vret C dX4_init_49 ?_
  exact ⟨_, _, _, rfl⟩
set_option maxHeartbeats 4000000 in
set_option maxRecDepth 20000 in
theorem h_lawI_1 {O : Ou} {l : Launch} {D : va_G} {cI cG cW : ClassId} (h : Nat) (ws0 : va_W) : Cn O l yX4_init cX4_init 2 4 3 102 D (tyL cI cG cW) [.ref h, .int (nI 1)] ((h, .inr (4, [.int (nI 0), .null, .null, .null, .null, .int (nI 0)])) :: ws0) (fun ws' => ∃ st it r, ws' = (st, .inl (cI, 50, .inl (fun _ => nI 0))) :: (it, .inl (cI, 50, .inl (fun _ => nI 0))) :: (r, .inr (8, [.ref it, .int (nI 0)])) :: (h, .inr (4, [.int (nI 1), .ref r, .ref st, .ref r, .ref (O.2.1 0), .int (nI 0)])) :: ws0) := by
  refine Cn.of (by decide) (Nat.le_of_ble_eq_true rfl) ?_
  intro p_ e_ s_ m_ b_ M_ c_ A_ C hO hX hI_
  replace C : Cx _ _ _ _ _ _ _ _ RX4 _ _ _ _ := C
  refine n_L [0, 1] [(0, .ref h), (1, .int (nI 1))] rfl ?_
  refine n_aload_n C 0 dX4_init_0 rfl ?_
  refine n_objI (rest := []) C oi4_3 obI1 obI2 (Nat.le_of_ble_eq_true rfl) ⟨Nat.le_of_ble_eq_true rfl, Nat.le_of_ble_eq_true rfl⟩ dX4_init_1 ?_
  refine n_aload_n C 0 dX4_init_4 rfl ?_
  refine n_new (ci := 8) C inlN8 tyX8 tyX8_ok cl4_9 is8 it8 rfl [.null, .int (nI 0)] (fun j hj => by rcases (show j = 0 ∨ j = 1 by omega) with rfl | rfl <;> rfl) (Nat.le_of_ble_eq_true rfl) (Nat.le_of_ble_eq_true rfl) dX4_init_5 (fun o7 => ?_)
  refine n_dup C dX4_init_8 rfl ?_
  refine n_bipush C (v := (nI 50)) dX4_init_9 (by decide) ?_
  refine n_callIN (As := [.int (nI 50)]) (rest := [.ref o7, .ref h]) C hO hX ii4_11 (h_rowI_50 (cI := cI) (cG := cG) (cW := cW) o7 _) rfl (Nat.le_of_ble_eq_true rfl) dX4_init_11 ⟨Nat.le_of_ble_eq_true rfl, Nat.le_of_ble_eq_true rfl⟩ ⟨Nat.le_of_ble_eq_true rfl, Nat.le_of_ble_eq_true rfl⟩ ?_
  rintro _ ⟨r8, rfl⟩
  refine n_putF C hI_ 2 1 rfl rfl inlN4 tyX4 tyX4_ok nmX4 (by decide) kf4_14 rfl rfl (ty := (.object "GleanedSorry$Row")) (by decide +kernel) rfl rfl (Nat.le_of_ble_eq_true rfl) dX4_init_14 ((r8, .inl (cI, 50, .inl (fun _ => nI 0))) :: (o7, .inr (8, [.ref r8, .int (nI 0)])) :: (h, .inr (4, [.int (nI 0), .ref o7, .null, .null, .null, .int (nI 0)])) :: ws0) rfl ?_
  refine n_aload_n C 0 dX4_init_17 rfl ?_
  refine n_bipush C (v := (nI 50)) dX4_init_18 (by decide) ?_
  refine n_newa C rfl arI 50 (by decide) (Nat.le_of_ble_eq_true rfl) (Nat.le_of_ble_eq_true rfl) dX4_init_20 (fun r9 => ?_)
  refine n_putF C hI_ 3 2 rfl rfl inlN4 tyX4 tyX4_ok nmX4 (by decide) kf4_20 rfl rfl (ty := (.array .int)) (by decide +kernel) rfl rfl (Nat.le_of_ble_eq_true rfl) dX4_init_22 ((r9, .inl (cI, 50, .inl (fun _ => nI 0))) :: (r8, .inl (cI, 50, .inl (fun _ => nI 0))) :: (o7, .inr (8, [.ref r8, .int (nI 0)])) :: (h, .inr (4, [.int (nI 0), .ref o7, .ref r9, .null, .null, .int (nI 0)])) :: ws0) rfl ?_
  refine n_aload_n C 0 dX4_init_25 rfl ?_
  refine n_aload_n C 0 dX4_init_26 rfl ?_
  refine n_get C (v := .ref o7) 3 1 rfl rfl inlN4 (by decide) kf4_14 rfl dX4_init_27 ?_
  refine n_put C 3 3 rfl rfl inlN4 tyX4 tyX4_ok nmX4 (by decide) kf4_24 rfl (ty := (.object "GleanedSorry$Row")) (by decide +kernel) rfl rfl (Nat.le_of_ble_eq_true rfl) dX4_init_30 ((r9, .inl (cI, 50, .inl (fun _ => nI 0))) :: (r8, .inl (cI, 50, .inl (fun _ => nI 0))) :: (o7, .inr (8, [.ref r8, .int (nI 0)])) :: (h, .inr (4, [.int (nI 0), .ref o7, .ref r9, .ref o7, .null, .int (nI 0)])) :: ws0) rfl ?_
  refine n_aload_n C 0 dX4_init_33 rfl ?_
  refine n_ldcS C hO.2.2.2.1 dX4_init_34 ?_
  refine n_put C 3 4 rfl rfl inlN4 tyX4 tyX4_ok nmX4 (by decide) kf4_29 rfl (ty := (.object "java/lang/String")) (by decide +kernel) rfl rfl (Nat.le_of_ble_eq_true rfl) dX4_init_36 ((r9, .inl (cI, 50, .inl (fun _ => nI 0))) :: (r8, .inl (cI, 50, .inl (fun _ => nI 0))) :: (o7, .inr (8, [.ref r8, .int (nI 0)])) :: (h, .inr (4, [.int (nI 0), .ref o7, .ref r9, .ref o7, .ref (O.2.1 0), .int (nI 0)])) :: ws0) rfl ?_
  refine n_aload_n C 0 dX4_init_39 rfl ?_
  refine n_iconst C (v := (nI 0)) dX4_init_40 (by decide) ?_
  refine n_put C 3 5 rfl rfl inlN4 tyX4 tyX4_ok nmX4 (by decide) kf4_33 rfl (ty := .int) (by decide +kernel) rfl rfl (Nat.le_of_ble_eq_true rfl) dX4_init_41 ((r9, .inl (cI, 50, .inl (fun _ => nI 0))) :: (r8, .inl (cI, 50, .inl (fun _ => nI 0))) :: (o7, .inr (8, [.ref r8, .int (nI 0)])) :: (h, .inr (4, [.int (nI 0), .ref o7, .ref r9, .ref o7, .ref (O.2.1 0), .int (nI 0)])) :: ws0) rfl ?_
  refine n_aload_n C 0 dX4_init_44 rfl ?_
  refine n_iload_n C 1 dX4_init_45 rfl ?_
  refine n_putF C hI_ 3 0 rfl rfl inlN4 tyX4 tyX4_ok nmX4 (by decide) kf4_37 rfl rfl (ty := .int) (by decide +kernel) rfl rfl (Nat.le_of_ble_eq_true rfl) dX4_init_46 ((r9, .inl (cI, 50, .inl (fun _ => nI 0))) :: (r8, .inl (cI, 50, .inl (fun _ => nI 0))) :: (o7, .inr (8, [.ref r8, .int (nI 0)])) :: (h, .inr (4, [.int (nI 1), .ref o7, .ref r9, .ref o7, .ref (O.2.1 0), .int (nI 0)])) :: ws0) rfl ?_
  refine n_vret C dX4_init_49 ?_
  exact ⟨_, _, _, rfl⟩
theorem dX3_init_0 : decode cX3_init 0 = .ok (.aload_n 0, 1) := by decide +kernel
theorem dX3_init_1 : decode cX3_init 1 = .ok (.invokespecial 3, 3) := by decide +kernel
theorem dX3_init_4 : decode cX3_init 4 = .ok (.aload_n 0, 1) := by decide +kernel
theorem dX3_init_5 : decode cX3_init 5 = .ok (.iconst 0, 1) := by decide +kernel
theorem dX3_init_6 : decode cX3_init 6 = .ok (.putfield 9, 3) := by decide +kernel
theorem dX3_init_9 : decode cX3_init 9 = .ok (.aload_n 0, 1) := by decide +kernel
theorem dX3_init_10 : decode cX3_init 10 = .ok (.bipush 8, 2) := by decide +kernel
theorem dX3_init_12 : decode cX3_init 12 = .ok (.newarray .int, 2) := by decide +kernel
theorem dX3_init_14 : decode cX3_init 14 = .ok (.putfield 15, 3) := by decide +kernel
theorem dX3_init_17 : decode cX3_init 17 = .ok (.aload_n 0, 1) := by decide +kernel
theorem dX3_init_18 : decode cX3_init 18 = .ok (.bipush 8, 2) := by decide +kernel
theorem dX3_init_20 : decode cX3_init 20 = .ok (.newarray .int, 2) := by decide +kernel
theorem dX3_init_22 : decode cX3_init 22 = .ok (.putfield 19, 3) := by decide +kernel
theorem dX3_init_25 : decode cX3_init 25 = .ok (.aload_n 0, 1) := by decide +kernel
theorem dX3_init_26 : decode cX3_init 26 = .ok (.bipush 8, 2) := by decide +kernel
theorem dX3_init_28 : decode cX3_init 28 = .ok (.newarray .int, 2) := by decide +kernel
theorem dX3_init_30 : decode cX3_init 30 = .ok (.putfield 22, 3) := by decide +kernel
theorem dX3_init_33 : decode cX3_init 33 = .ok (.aload_n 0, 1) := by decide +kernel
theorem dX3_init_34 : decode cX3_init 34 = .ok (.new 25, 3) := by decide +kernel
theorem dX3_init_37 : decode cX3_init 37 = .ok (.dup, 1) := by decide +kernel
theorem dX3_init_38 : decode cX3_init 38 = .ok (.bipush 50, 2) := by decide +kernel
theorem dX3_init_40 : decode cX3_init 40 = .ok (.invokespecial 27, 3) := by decide +kernel
theorem dX3_init_43 : decode cX3_init 43 = .ok (.putfield 30, 3) := by decide +kernel
theorem dX3_init_46 : decode cX3_init 46 = .ok (.aload_n 0, 1) := by decide +kernel
theorem dX3_init_47 : decode cX3_init 47 = .ok (.new 25, 3) := by decide +kernel
theorem dX3_init_50 : decode cX3_init 50 = .ok (.dup, 1) := by decide +kernel
theorem dX3_init_51 : decode cX3_init 51 = .ok (.bipush 20, 2) := by decide +kernel
theorem dX3_init_53 : decode cX3_init 53 = .ok (.invokespecial 27, 3) := by decide +kernel
theorem dX3_init_56 : decode cX3_init 56 = .ok (.putfield 34, 3) := by decide +kernel
theorem dX3_init_59 : decode cX3_init 59 = .ok (.aload_n 0, 1) := by decide +kernel
theorem dX3_init_60 : decode cX3_init 60 = .ok (.iconst 1, 1) := by decide +kernel
theorem dX3_init_61 : decode cX3_init 61 = .ok (.putfield 37, 3) := by decide +kernel
theorem dX3_init_64 : decode cX3_init 64 = .ok (.aload_n 0, 1) := by decide +kernel
theorem dX3_init_65 : decode cX3_init 65 = .ok (.aload_n 1, 1) := by decide +kernel
theorem dX3_init_66 : decode cX3_init 66 = .ok (.putfield 40, 3) := by decide +kernel
theorem dX3_init_69 : decode cX3_init 69 = .ok (.return_, 1) := by decide +kernel
set_option maxHeartbeats 4000000 in
set_option maxRecDepth 20000 in
theorem h_keptI {O : Ou} {l : Launch} {D : va_G} {cI cG cW : ClassId} (h f : Nat) (ws0 : va_W) : Cn O l yX3_init cX3_init 2 4 7 98 D (tyL cI cG cW) [.ref h, .ref f] ((h, .inr (3, [.null, .int (nI 0), .null, .null, .null, .null, .null, .int (nI 0)])) :: ws0) (fun ws' => ∃ wi w ti t we to by_, ws' = (wi, .inl (cI, 20, .inl (fun _ => nI 0))) :: (w, .inr (8, [.ref wi, .int (nI 0)])) :: (ti, .inl (cI, 50, .inl (fun _ => nI 0))) :: (t, .inr (8, [.ref ti, .int (nI 0)])) :: (we, .inl (cI, 8, .inl (fun _ => nI 0))) :: (to, .inl (cI, 8, .inl (fun _ => nI 0))) :: (by_, .inl (cI, 8, .inl (fun _ => nI 0))) :: (h, .inr (3, [.ref f, .int (nI 0), .ref by_, .ref to, .ref we, .ref t, .ref w, .int (nI 1)])) :: ws0) := by
  refine Cn.of (by decide) (Nat.le_of_ble_eq_true rfl) ?_
  intro p_ e_ s_ m_ b_ M_ c_ A_ C hO hX hI_
  replace C : Cx _ _ _ _ _ _ _ _ RX3 _ _ _ _ := C
  refine n_L [0, 1] [(0, .ref h), (1, .ref f)] rfl ?_
  refine n_aload_n C 0 dX3_init_0 rfl ?_
  refine n_objI (rest := []) C oi3_3 obI1 obI2 (Nat.le_of_ble_eq_true rfl) ⟨Nat.le_of_ble_eq_true rfl, Nat.le_of_ble_eq_true rfl⟩ dX3_init_1 ?_
  refine n_aload_n C 0 dX3_init_4 rfl ?_
  refine n_iconst C (v := (nI 0)) dX3_init_5 (by decide) ?_
  refine n_put C 0 1 rfl rfl inlN3 tyX3 tyX3_ok nmX3 (by decide) kf3_9 rfl (ty := .int) (by decide +kernel) rfl rfl (Nat.le_of_ble_eq_true rfl) dX3_init_6 ((h, .inr (3, [.null, .int (nI 0), .null, .null, .null, .null, .null, .int (nI 0)])) :: ws0) rfl ?_
  refine n_aload_n C 0 dX3_init_9 rfl ?_
  refine n_bipush C (v := (nI 8)) dX3_init_10 (by decide) ?_
  refine n_newa C rfl arI 8 (by decide) (Nat.le_of_ble_eq_true rfl) (Nat.le_of_ble_eq_true rfl) dX3_init_12 (fun r10 => ?_)
  refine n_putF C hI_ 1 2 rfl rfl inlN3 tyX3 tyX3_ok nmX3 (by decide) kf3_15 rfl rfl (ty := (.array .int)) (by decide +kernel) rfl rfl (Nat.le_of_ble_eq_true rfl) dX3_init_14 ((r10, .inl (cI, 8, .inl (fun _ => nI 0))) :: (h, .inr (3, [.null, .int (nI 0), .ref r10, .null, .null, .null, .null, .int (nI 0)])) :: ws0) rfl ?_
  refine n_aload_n C 0 dX3_init_17 rfl ?_
  refine n_bipush C (v := (nI 8)) dX3_init_18 (by decide) ?_
  refine n_newa C rfl arI 8 (by decide) (Nat.le_of_ble_eq_true rfl) (Nat.le_of_ble_eq_true rfl) dX3_init_20 (fun r11 => ?_)
  refine n_putF C hI_ 2 3 rfl rfl inlN3 tyX3 tyX3_ok nmX3 (by decide) kf3_19 rfl rfl (ty := (.array .int)) (by decide +kernel) rfl rfl (Nat.le_of_ble_eq_true rfl) dX3_init_22 ((r11, .inl (cI, 8, .inl (fun _ => nI 0))) :: (r10, .inl (cI, 8, .inl (fun _ => nI 0))) :: (h, .inr (3, [.null, .int (nI 0), .ref r10, .ref r11, .null, .null, .null, .int (nI 0)])) :: ws0) rfl ?_
  refine n_aload_n C 0 dX3_init_25 rfl ?_
  refine n_bipush C (v := (nI 8)) dX3_init_26 (by decide) ?_
  refine n_newa C rfl arI 8 (by decide) (Nat.le_of_ble_eq_true rfl) (Nat.le_of_ble_eq_true rfl) dX3_init_28 (fun r12 => ?_)
  refine n_putF C hI_ 3 4 rfl rfl inlN3 tyX3 tyX3_ok nmX3 (by decide) kf3_22 rfl rfl (ty := (.array .int)) (by decide +kernel) rfl rfl (Nat.le_of_ble_eq_true rfl) dX3_init_30 ((r12, .inl (cI, 8, .inl (fun _ => nI 0))) :: (r11, .inl (cI, 8, .inl (fun _ => nI 0))) :: (r10, .inl (cI, 8, .inl (fun _ => nI 0))) :: (h, .inr (3, [.null, .int (nI 0), .ref r10, .ref r11, .ref r12, .null, .null, .int (nI 0)])) :: ws0) rfl ?_
  refine n_aload_n C 0 dX3_init_33 rfl ?_
  refine n_new (ci := 8) C inlN8 tyX8 tyX8_ok cl3_25 is8 it8 rfl [.null, .int (nI 0)] (fun j hj => by rcases (show j = 0 ∨ j = 1 by omega) with rfl | rfl <;> rfl) (Nat.le_of_ble_eq_true rfl) (Nat.le_of_ble_eq_true rfl) dX3_init_34 (fun o13 => ?_)
  refine n_dup C dX3_init_37 rfl ?_
  refine n_bipush C (v := (nI 50)) dX3_init_38 (by decide) ?_
  refine n_callIN (As := [.int (nI 50)]) (rest := [.ref o13, .ref h]) C hO hX ii3_27 (h_rowI_50 (cI := cI) (cG := cG) (cW := cW) o13 _) rfl (Nat.le_of_ble_eq_true rfl) dX3_init_40 ⟨Nat.le_of_ble_eq_true rfl, Nat.le_of_ble_eq_true rfl⟩ ⟨Nat.le_of_ble_eq_true rfl, Nat.le_of_ble_eq_true rfl⟩ ?_
  rintro _ ⟨r14, rfl⟩
  refine n_putF C hI_ 5 5 rfl rfl inlN3 tyX3 tyX3_ok nmX3 (by decide) kf3_30 rfl rfl (ty := (.object "GleanedSorry$Row")) (by decide +kernel) rfl rfl (Nat.le_of_ble_eq_true rfl) dX3_init_43 ((r14, .inl (cI, 50, .inl (fun _ => nI 0))) :: (o13, .inr (8, [.ref r14, .int (nI 0)])) :: (r12, .inl (cI, 8, .inl (fun _ => nI 0))) :: (r11, .inl (cI, 8, .inl (fun _ => nI 0))) :: (r10, .inl (cI, 8, .inl (fun _ => nI 0))) :: (h, .inr (3, [.null, .int (nI 0), .ref r10, .ref r11, .ref r12, .ref o13, .null, .int (nI 0)])) :: ws0) rfl ?_
  refine n_aload_n C 0 dX3_init_46 rfl ?_
  refine n_new (ci := 8) C inlN8 tyX8 tyX8_ok cl3_25 is8 it8 rfl [.null, .int (nI 0)] (fun j hj => by rcases (show j = 0 ∨ j = 1 by omega) with rfl | rfl <;> rfl) (Nat.le_of_ble_eq_true rfl) (Nat.le_of_ble_eq_true rfl) dX3_init_47 (fun o15 => ?_)
  refine n_dup C dX3_init_50 rfl ?_
  refine n_bipush C (v := (nI 20)) dX3_init_51 (by decide) ?_
  refine n_callIN (As := [.int (nI 20)]) (rest := [.ref o15, .ref h]) C hO hX ii3_27 (h_rowI_20 (cI := cI) (cG := cG) (cW := cW) o15 _) rfl (Nat.le_of_ble_eq_true rfl) dX3_init_53 ⟨Nat.le_of_ble_eq_true rfl, Nat.le_of_ble_eq_true rfl⟩ ⟨Nat.le_of_ble_eq_true rfl, Nat.le_of_ble_eq_true rfl⟩ ?_
  rintro _ ⟨r16, rfl⟩
  refine n_putF C hI_ 7 6 rfl rfl inlN3 tyX3 tyX3_ok nmX3 (by decide) kf3_34 rfl rfl (ty := (.object "GleanedSorry$Row")) (by decide +kernel) rfl rfl (Nat.le_of_ble_eq_true rfl) dX3_init_56 ((r16, .inl (cI, 20, .inl (fun _ => nI 0))) :: (o15, .inr (8, [.ref r16, .int (nI 0)])) :: (r14, .inl (cI, 50, .inl (fun _ => nI 0))) :: (o13, .inr (8, [.ref r14, .int (nI 0)])) :: (r12, .inl (cI, 8, .inl (fun _ => nI 0))) :: (r11, .inl (cI, 8, .inl (fun _ => nI 0))) :: (r10, .inl (cI, 8, .inl (fun _ => nI 0))) :: (h, .inr (3, [.null, .int (nI 0), .ref r10, .ref r11, .ref r12, .ref o13, .ref o15, .int (nI 0)])) :: ws0) rfl ?_
  refine n_aload_n C 0 dX3_init_59 rfl ?_
  refine n_iconst C (v := (nI 1)) dX3_init_60 (by decide) ?_
  refine n_put C 7 7 rfl rfl inlN3 tyX3 tyX3_ok nmX3 (by decide) kf3_37 rfl (ty := .int) (by decide +kernel) rfl rfl (Nat.le_of_ble_eq_true rfl) dX3_init_61 ((r16, .inl (cI, 20, .inl (fun _ => nI 0))) :: (o15, .inr (8, [.ref r16, .int (nI 0)])) :: (r14, .inl (cI, 50, .inl (fun _ => nI 0))) :: (o13, .inr (8, [.ref r14, .int (nI 0)])) :: (r12, .inl (cI, 8, .inl (fun _ => nI 0))) :: (r11, .inl (cI, 8, .inl (fun _ => nI 0))) :: (r10, .inl (cI, 8, .inl (fun _ => nI 0))) :: (h, .inr (3, [.null, .int (nI 0), .ref r10, .ref r11, .ref r12, .ref o13, .ref o15, .int (nI 1)])) :: ws0) rfl ?_
  refine n_aload_n C 0 dX3_init_64 rfl ?_
  refine n_aload_n C 1 dX3_init_65 rfl ?_
  refine n_putF C hI_ 7 0 rfl rfl inlN3 tyX3 tyX3_ok nmX3 (by decide) kf3_40 rfl rfl (ty := (.object "GleanedSorry$Field")) (by decide +kernel) rfl rfl (Nat.le_of_ble_eq_true rfl) dX3_init_66 ((r16, .inl (cI, 20, .inl (fun _ => nI 0))) :: (o15, .inr (8, [.ref r16, .int (nI 0)])) :: (r14, .inl (cI, 50, .inl (fun _ => nI 0))) :: (o13, .inr (8, [.ref r14, .int (nI 0)])) :: (r12, .inl (cI, 8, .inl (fun _ => nI 0))) :: (r11, .inl (cI, 8, .inl (fun _ => nI 0))) :: (r10, .inl (cI, 8, .inl (fun _ => nI 0))) :: (h, .inr (3, [.ref f, .int (nI 0), .ref r10, .ref r11, .ref r12, .ref o13, .ref o15, .int (nI 1)])) :: ws0) rfl ?_
  refine n_vret C dX3_init_69 ?_
  exact ⟨_, _, _, _, _, _, _, rfl⟩
set_option maxHeartbeats 2000000 in
set_option maxRecDepth 20000 in
theorem h_reapN {l : Launch} {D : va_G} {cI cG cW : ClassId} (h K B Pk f0 f1 f2 f3 f4 f5 f6 f7 f8 f9 : Nat) (ws0 : va_W) : Cv l yX1_reap cX1_reap 3 none 1 D (tyL cI cG cW) (fun w : va_W => w) [.ref h, .int (nI 5)] ((f9, .inl (cI, 6, .inl (fun _ => nI 0))) :: (f8, .inl (cI, 6, .inl (fun _ => nI 0))) :: (f7, .inl (cI, 6, .inl (fun _ => nI 0))) :: (f6, .inl (cI, 6, .inl (fun _ => nI 0))) :: (f5, .inl (cI, 6, .inl (fun _ => nI 0))) :: (f4, .inl (cI, 6, .inl (fun _ => nI 0))) :: (f3, .inl (cI, 6, .inl (fun _ => nI 0))) :: (f2, .inl (cI, 6, .inl (fun _ => nI 0))) :: (f1, .inl (cI, 10, .inl (fun _ => nI 0))) :: (f0, .inl (cI, 10, .inl (fun _ => nI 0))) :: (h, .inr (1, [.int (nI 0), .ref f0, .ref f1, .int (nI 0), .int (nI 0), .ref f2, .ref f3, .ref f4, .ref f5, .ref f6, .ref f7, .ref f8, .ref f9, .ref K, .ref B, .ref Pk])) :: ws0) (fun ws' => ws' = ((f9, .inl (cI, 6, .inl (fun _ => nI 0))) :: (f8, .inl (cI, 6, .inl (fun _ => nI 0))) :: (f7, .inl (cI, 6, .inl (fun _ => nI 0))) :: (f6, .inl (cI, 6, .inl (fun _ => nI 0))) :: (f5, .inl (cI, 6, .inl (fun _ => nI 0))) :: (f4, .inl (cI, 6, .inl (fun _ => nI 0))) :: (f3, .inl (cI, 6, .inl (fun _ => nI 0))) :: (f2, .inl (cI, 6, .inl (fun _ => nI 0))) :: (f1, .inl (cI, 10, .inl (filF (fun _ => nI 0) (nI 1) 5))) :: (f0, .inl (cI, 10, .inl (filF (fun _ => nI 0) (nI 20) 5))) :: (h, .inr (1, [.int (nI 5), .ref f0, .ref f1, .int (nI 0), .int (nI 0), .ref f2, .ref f3, .ref f4, .ref f5, .ref f6, .ref f7, .ref f8, .ref f9, .ref K, .ref B, .ref Pk])) :: ws0)) := by
  refine Cv.of (by decide) (Nat.le_of_ble_eq_true rfl) ?_
  intro p_ e_ s_ m_ b_ M_ c_ A_ C
  replace C : Cx _ _ _ _ _ _ _ _ RX1 _ _ _ _ := C
  refine j_L [0, 1] [(0, .ref h), (1, .int (nI 5))] rfl ?_
  refine j_aload_n C 0 dX1_reap_0 rfl ?_
  refine j_iconst C (v := (nI 0)) dX1_reap_1 (by decide) ?_
  refine j_iload_n C 1 dX1_reap_2 rfl ?_
  refine j_bipush C (v := (nI 10)) dX1_reap_3 (by decide) ?_
  refine j_mmin (rest := [.int (nI 0), .ref h]) C mn1_67 (by decide) (Nat.le_of_ble_eq_true rfl) dX1_reap_5 ?_
  refine j_v (nI 5) (by decide) ?_
  refine j_mmax (rest := [.ref h]) C mx1_73 (by decide) (Nat.le_of_ble_eq_true rfl) dX1_reap_8 ?_
  refine j_v (nI 5) (by decide) ?_
  refine j_put C 10 0 rfl rfl inlN1 tyX1 tyX1_ok nmX1 (by decide) kf1_9 rfl (ty := .int) (by decide +kernel) rfl rfl (Nat.le_of_ble_eq_true rfl) dX1_reap_11 ((f9, .inl (cI, 6, .inl (fun _ => nI 0))) :: (f8, .inl (cI, 6, .inl (fun _ => nI 0))) :: (f7, .inl (cI, 6, .inl (fun _ => nI 0))) :: (f6, .inl (cI, 6, .inl (fun _ => nI 0))) :: (f5, .inl (cI, 6, .inl (fun _ => nI 0))) :: (f4, .inl (cI, 6, .inl (fun _ => nI 0))) :: (f3, .inl (cI, 6, .inl (fun _ => nI 0))) :: (f2, .inl (cI, 6, .inl (fun _ => nI 0))) :: (f1, .inl (cI, 10, .inl (fun _ => nI 0))) :: (f0, .inl (cI, 10, .inl (fun _ => nI 0))) :: (h, .inr (1, [.int (nI 5), .ref f0, .ref f1, .int (nI 0), .int (nI 0), .ref f2, .ref f3, .ref f4, .ref f5, .ref f6, .ref f7, .ref f8, .ref f9, .ref K, .ref B, .ref Pk])) :: ws0) rfl ?_
  refine j_iconst C (v := (nI 0)) dX1_reap_14 (by decide) ?_
  refine j_istore_n C [(2, .int (nI 0)), (0, .ref h), (1, .int (nI 5))] dX1_reap_15 (by decide) rfl ?_
  refine j_L [1, 2, 0] [(0, .ref h), (1, .int (nI 5)), (2, .int (nI 0))] rfl ?_
  refine j_loop (X := Nat) (fun (i : Nat) => i ≤ 5) (fun (i : Nat) => 5 - i) (fun (i : Nat) => ((f9, .inl (cI, 6, .inl (fun _ => nI 0))) :: (f8, .inl (cI, 6, .inl (fun _ => nI 0))) :: (f7, .inl (cI, 6, .inl (fun _ => nI 0))) :: (f6, .inl (cI, 6, .inl (fun _ => nI 0))) :: (f5, .inl (cI, 6, .inl (fun _ => nI 0))) :: (f4, .inl (cI, 6, .inl (fun _ => nI 0))) :: (f3, .inl (cI, 6, .inl (fun _ => nI 0))) :: (f2, .inl (cI, 6, .inl (fun _ => nI 0))) :: (f1, .inl (cI, 10, .inl (filF (fun _ => nI 0) (nI 1) i))) :: (f0, .inl (cI, 10, .inl (filF (fun _ => nI 0) (nI 20) i))) :: (h, .inr (1, [.int (nI 5), .ref f0, .ref f1, .int (nI 0), .int (nI 0), .ref f2, .ref f3, .ref f4, .ref f5, .ref f6, .ref f7, .ref f8, .ref f9, .ref K, .ref B, .ref Pk])) :: ws0)) (fun (i : Nat) => [(0, .ref h), (1, .int (nI 5)), (2, .int (nI i))]) (0) (by decide) (by rw [← filF_0, ← filF_0]) rfl ?_
  rintro i hi ih
  try dsimp only at ih ⊢
  refine j_iload_n C 2 dX1_reap_16 rfl ?_
  refine j_aload_n C 0 dX1_reap_17 rfl ?_
  refine j_get C (v := .int (nI 5)) 10 0 rfl rfl inlN1 (by decide) kf1_9 rfl dX1_reap_18 ?_
  refine j_icmp_ge C 45 dX1_reap_21 (by decide) (fun c21 => ?_) (fun c21 => ?_)
  · rw [nI_leI (by omega) (by omega)] at c21
    refine j_vret C dX1_reap_45 ?_
    obtain rfl : i = 5 := by omega
    exact rfl
  · rw [nI_leI (by omega) (by omega)] at c21
    refine j_aload_n C 0 dX1_reap_24 rfl ?_
    refine j_get C (v := .ref f0) 10 1 rfl rfl inlN1 (by decide) kf1_15 rfl dX1_reap_25 ?_
    refine j_iload_n C 2 dX1_reap_28 rfl ?_
    refine j_bipush C (v := (nI 20)) dX1_reap_29 (by decide) ?_
    refine j_iastN C 9 0 rfl rfl i rfl (by omega) (by decide) dX1_reap_31 ((f9, .inl (cI, 6, .inl (fun _ => nI 0))) :: (f8, .inl (cI, 6, .inl (fun _ => nI 0))) :: (f7, .inl (cI, 6, .inl (fun _ => nI 0))) :: (f6, .inl (cI, 6, .inl (fun _ => nI 0))) :: (f5, .inl (cI, 6, .inl (fun _ => nI 0))) :: (f4, .inl (cI, 6, .inl (fun _ => nI 0))) :: (f3, .inl (cI, 6, .inl (fun _ => nI 0))) :: (f2, .inl (cI, 6, .inl (fun _ => nI 0))) :: (f1, .inl (cI, 10, .inl (filF (fun _ => nI 0) (nI 1) i))) :: (f0, .inl (cI, 10, .inl (upd (filF (fun _ => nI 0) (nI 20) i) i (nI 20)))) :: (h, .inr (1, [.int (nI 5), .ref f0, .ref f1, .int (nI 0), .int (nI 0), .ref f2, .ref f3, .ref f4, .ref f5, .ref f6, .ref f7, .ref f8, .ref f9, .ref K, .ref B, .ref Pk])) :: ws0) rfl ?_
    refine j_aload_n C 0 dX1_reap_32 rfl ?_
    refine j_get C (v := .ref f1) 10 2 rfl rfl inlN1 (by decide) kf1_19 rfl dX1_reap_33 ?_
    refine j_iload_n C 2 dX1_reap_36 rfl ?_
    refine j_iconst C (v := (nI 1)) dX1_reap_37 (by decide) ?_
    refine j_iastN C 8 0 rfl rfl i rfl (by omega) (by decide) dX1_reap_38 ((f9, .inl (cI, 6, .inl (fun _ => nI 0))) :: (f8, .inl (cI, 6, .inl (fun _ => nI 0))) :: (f7, .inl (cI, 6, .inl (fun _ => nI 0))) :: (f6, .inl (cI, 6, .inl (fun _ => nI 0))) :: (f5, .inl (cI, 6, .inl (fun _ => nI 0))) :: (f4, .inl (cI, 6, .inl (fun _ => nI 0))) :: (f3, .inl (cI, 6, .inl (fun _ => nI 0))) :: (f2, .inl (cI, 6, .inl (fun _ => nI 0))) :: (f1, .inl (cI, 10, .inl (upd (filF (fun _ => nI 0) (nI 1) i) i (nI 1)))) :: (f0, .inl (cI, 10, .inl (upd (filF (fun _ => nI 0) (nI 20) i) i (nI 20)))) :: (h, .inr (1, [.int (nI 5), .ref f0, .ref f1, .int (nI 0), .int (nI 0), .ref f2, .ref f3, .ref f4, .ref f5, .ref f6, .ref f7, .ref f8, .ref f9, .ref K, .ref B, .ref Pk])) :: ws0) rfl ?_
    refine j_iinc C (v := (nI (i + 1))) 2 [(2, .int (nI (i + 1))), (0, .ref h), (1, .int (nI 5))] dX1_reap_39 rfl (nI_1 _) (by decide) rfl ?_
    refine j_goto C 16 dX1_reap_42 (by decide) ?_
    refine j_L [1, 2, 0] [(0, .ref h), (1, .int (nI 5)), (2, .int (nI (i + 1)))] rfl ?_
    rw [filF_s, filF_s]
    exact ih (i + 1) (by omega) (by omega)
theorem dX1_init_0 : decode cX1_init 0 = .ok (.aload_n 0, 1) := by decide +kernel
theorem dX1_init_1 : decode cX1_init 1 = .ok (.invokespecial 3, 3) := by decide +kernel
theorem dX1_init_4 : decode cX1_init 4 = .ok (.aload_n 0, 1) := by decide +kernel
theorem dX1_init_5 : decode cX1_init 5 = .ok (.iconst 0, 1) := by decide +kernel
theorem dX1_init_6 : decode cX1_init 6 = .ok (.putfield 9, 3) := by decide +kernel
theorem dX1_init_9 : decode cX1_init 9 = .ok (.aload_n 0, 1) := by decide +kernel
theorem dX1_init_10 : decode cX1_init 10 = .ok (.bipush 10, 2) := by decide +kernel
theorem dX1_init_12 : decode cX1_init 12 = .ok (.newarray .int, 2) := by decide +kernel
theorem dX1_init_14 : decode cX1_init 14 = .ok (.putfield 15, 3) := by decide +kernel
theorem dX1_init_17 : decode cX1_init 17 = .ok (.aload_n 0, 1) := by decide +kernel
theorem dX1_init_18 : decode cX1_init 18 = .ok (.bipush 10, 2) := by decide +kernel
theorem dX1_init_20 : decode cX1_init 20 = .ok (.newarray .int, 2) := by decide +kernel
theorem dX1_init_22 : decode cX1_init 22 = .ok (.putfield 19, 3) := by decide +kernel
theorem dX1_init_25 : decode cX1_init 25 = .ok (.aload_n 0, 1) := by decide +kernel
theorem dX1_init_26 : decode cX1_init 26 = .ok (.iconst 0, 1) := by decide +kernel
theorem dX1_init_27 : decode cX1_init 27 = .ok (.putfield 22, 3) := by decide +kernel
theorem dX1_init_30 : decode cX1_init 30 = .ok (.aload_n 0, 1) := by decide +kernel
theorem dX1_init_31 : decode cX1_init 31 = .ok (.iconst 0, 1) := by decide +kernel
theorem dX1_init_32 : decode cX1_init 32 = .ok (.putfield 25, 3) := by decide +kernel
theorem dX1_init_35 : decode cX1_init 35 = .ok (.aload_n 0, 1) := by decide +kernel
theorem dX1_init_36 : decode cX1_init 36 = .ok (.bipush 6, 2) := by decide +kernel
theorem dX1_init_38 : decode cX1_init 38 = .ok (.newarray .int, 2) := by decide +kernel
theorem dX1_init_40 : decode cX1_init 40 = .ok (.putfield 28, 3) := by decide +kernel
theorem dX1_init_43 : decode cX1_init 43 = .ok (.aload_n 0, 1) := by decide +kernel
theorem dX1_init_44 : decode cX1_init 44 = .ok (.bipush 6, 2) := by decide +kernel
theorem dX1_init_46 : decode cX1_init 46 = .ok (.newarray .int, 2) := by decide +kernel
theorem dX1_init_48 : decode cX1_init 48 = .ok (.putfield 31, 3) := by decide +kernel
theorem dX1_init_51 : decode cX1_init 51 = .ok (.aload_n 0, 1) := by decide +kernel
theorem dX1_init_52 : decode cX1_init 52 = .ok (.bipush 6, 2) := by decide +kernel
theorem dX1_init_54 : decode cX1_init 54 = .ok (.newarray .int, 2) := by decide +kernel
theorem dX1_init_56 : decode cX1_init 56 = .ok (.putfield 34, 3) := by decide +kernel
theorem dX1_init_59 : decode cX1_init 59 = .ok (.aload_n 0, 1) := by decide +kernel
theorem dX1_init_60 : decode cX1_init 60 = .ok (.bipush 6, 2) := by decide +kernel
theorem dX1_init_62 : decode cX1_init 62 = .ok (.newarray .int, 2) := by decide +kernel
theorem dX1_init_64 : decode cX1_init 64 = .ok (.putfield 37, 3) := by decide +kernel
theorem dX1_init_67 : decode cX1_init 67 = .ok (.aload_n 0, 1) := by decide +kernel
theorem dX1_init_68 : decode cX1_init 68 = .ok (.bipush 6, 2) := by decide +kernel
theorem dX1_init_70 : decode cX1_init 70 = .ok (.newarray .int, 2) := by decide +kernel
theorem dX1_init_72 : decode cX1_init 72 = .ok (.putfield 40, 3) := by decide +kernel
theorem dX1_init_75 : decode cX1_init 75 = .ok (.aload_n 0, 1) := by decide +kernel
theorem dX1_init_76 : decode cX1_init 76 = .ok (.bipush 6, 2) := by decide +kernel
theorem dX1_init_78 : decode cX1_init 78 = .ok (.newarray .int, 2) := by decide +kernel
theorem dX1_init_80 : decode cX1_init 80 = .ok (.putfield 43, 3) := by decide +kernel
theorem dX1_init_83 : decode cX1_init 83 = .ok (.aload_n 0, 1) := by decide +kernel
theorem dX1_init_84 : decode cX1_init 84 = .ok (.bipush 6, 2) := by decide +kernel
theorem dX1_init_86 : decode cX1_init 86 = .ok (.newarray .int, 2) := by decide +kernel
theorem dX1_init_88 : decode cX1_init 88 = .ok (.putfield 46, 3) := by decide +kernel
theorem dX1_init_91 : decode cX1_init 91 = .ok (.aload_n 0, 1) := by decide +kernel
theorem dX1_init_92 : decode cX1_init 92 = .ok (.bipush 6, 2) := by decide +kernel
theorem dX1_init_94 : decode cX1_init 94 = .ok (.newarray .int, 2) := by decide +kernel
theorem dX1_init_96 : decode cX1_init 96 = .ok (.putfield 49, 3) := by decide +kernel
theorem dX1_init_99 : decode cX1_init 99 = .ok (.aload_n 0, 1) := by decide +kernel
theorem dX1_init_100 : decode cX1_init 100 = .ok (.aload_n 1, 1) := by decide +kernel
theorem dX1_init_101 : decode cX1_init 101 = .ok (.putfield 52, 3) := by decide +kernel
theorem dX1_init_104 : decode cX1_init 104 = .ok (.aload_n 0, 1) := by decide +kernel
theorem dX1_init_105 : decode cX1_init 105 = .ok (.aload_n 2, 1) := by decide +kernel
theorem dX1_init_106 : decode cX1_init 106 = .ok (.putfield 56, 3) := by decide +kernel
theorem dX1_init_109 : decode cX1_init 109 = .ok (.aload_n 0, 1) := by decide +kernel
theorem dX1_init_110 : decode cX1_init 110 = .ok (.aload_n 3, 1) := by decide +kernel
theorem dX1_init_111 : decode cX1_init 111 = .ok (.putfield 60, 3) := by decide +kernel
theorem dX1_init_114 : decode cX1_init 114 = .ok (.aload_n 0, 1) := by decide +kernel
theorem dX1_init_115 : decode cX1_init 115 = .ok (.iconst 5, 1) := by decide +kernel
theorem dX1_init_116 : decode cX1_init 116 = .ok (.invokevirtual 63, 3) := by decide +kernel
theorem dX1_init_119 : decode cX1_init 119 = .ok (.return_, 1) := by decide +kernel
set_option maxHeartbeats 4000000 in
set_option maxRecDepth 20000 in
theorem h_fieldI {O : Ou} {l : Launch} {D : va_G} {cI cG cW : ClassId} (h K B Pk : Nat) (ws0 : va_W) : Cn O l yX1_init cX1_init 4 4 10 68 D (tyL cI cG cW) [.ref h, .ref K, .ref B, .ref Pk] ((h, .inr (1, [.int (nI 0), .null, .null, .int (nI 0), .int (nI 0), .null, .null, .null, .null, .null, .null, .null, .null, .null, .null, .null])) :: ws0) (fun ws' => ∃ f9 f8 f7 f6 f5 f4 f3 f2 f1 f0, ws' = (f9, .inl (cI, 6, .inl (fun _ => nI 0))) :: (f8, .inl (cI, 6, .inl (fun _ => nI 0))) :: (f7, .inl (cI, 6, .inl (fun _ => nI 0))) :: (f6, .inl (cI, 6, .inl (fun _ => nI 0))) :: (f5, .inl (cI, 6, .inl (fun _ => nI 0))) :: (f4, .inl (cI, 6, .inl (fun _ => nI 0))) :: (f3, .inl (cI, 6, .inl (fun _ => nI 0))) :: (f2, .inl (cI, 6, .inl (fun _ => nI 0))) :: (f1, .inl (cI, 10, .inl (filF (fun _ => nI 0) (nI 1) 5))) :: (f0, .inl (cI, 10, .inl (filF (fun _ => nI 0) (nI 20) 5))) :: (h, .inr (1, [.int (nI 5), .ref f0, .ref f1, .int (nI 0), .int (nI 0), .ref f2, .ref f3, .ref f4, .ref f5, .ref f6, .ref f7, .ref f8, .ref f9, .ref K, .ref B, .ref Pk])) :: ws0) := by
  refine Cn.of (by decide) (Nat.le_of_ble_eq_true rfl) ?_
  intro p_ e_ s_ m_ b_ M_ c_ A_ C hO hX hI_
  replace C : Cx _ _ _ _ _ _ _ _ RX1 _ _ _ _ := C
  refine n_L [0, 1, 2, 3] [(0, .ref h), (1, .ref K), (2, .ref B), (3, .ref Pk)] rfl ?_
  refine n_aload_n C 0 dX1_init_0 rfl ?_
  refine n_objI (rest := []) C oi1_3 obI1 obI2 (Nat.le_of_ble_eq_true rfl) ⟨Nat.le_of_ble_eq_true rfl, Nat.le_of_ble_eq_true rfl⟩ dX1_init_1 ?_
  refine n_aload_n C 0 dX1_init_4 rfl ?_
  refine n_iconst C (v := (nI 0)) dX1_init_5 (by decide) ?_
  refine n_put C 0 0 rfl rfl inlN1 tyX1 tyX1_ok nmX1 (by decide) kf1_9 rfl (ty := .int) (by decide +kernel) rfl rfl (Nat.le_of_ble_eq_true rfl) dX1_init_6 ((h, .inr (1, [.int (nI 0), .null, .null, .int (nI 0), .int (nI 0), .null, .null, .null, .null, .null, .null, .null, .null, .null, .null, .null])) :: ws0) rfl ?_
  refine n_aload_n C 0 dX1_init_9 rfl ?_
  refine n_bipush C (v := (nI 10)) dX1_init_10 (by decide) ?_
  refine n_newa C rfl arI 10 (by decide) (Nat.le_of_ble_eq_true rfl) (Nat.le_of_ble_eq_true rfl) dX1_init_12 (fun r17 => ?_)
  refine n_putF C hI_ 1 1 rfl rfl inlN1 tyX1 tyX1_ok nmX1 (by decide) kf1_15 rfl rfl (ty := (.array .int)) (by decide +kernel) rfl rfl (Nat.le_of_ble_eq_true rfl) dX1_init_14 ((r17, .inl (cI, 10, .inl (fun _ => nI 0))) :: (h, .inr (1, [.int (nI 0), .ref r17, .null, .int (nI 0), .int (nI 0), .null, .null, .null, .null, .null, .null, .null, .null, .null, .null, .null])) :: ws0) rfl ?_
  refine n_aload_n C 0 dX1_init_17 rfl ?_
  refine n_bipush C (v := (nI 10)) dX1_init_18 (by decide) ?_
  refine n_newa C rfl arI 10 (by decide) (Nat.le_of_ble_eq_true rfl) (Nat.le_of_ble_eq_true rfl) dX1_init_20 (fun r18 => ?_)
  refine n_putF C hI_ 2 2 rfl rfl inlN1 tyX1 tyX1_ok nmX1 (by decide) kf1_19 rfl rfl (ty := (.array .int)) (by decide +kernel) rfl rfl (Nat.le_of_ble_eq_true rfl) dX1_init_22 ((r18, .inl (cI, 10, .inl (fun _ => nI 0))) :: (r17, .inl (cI, 10, .inl (fun _ => nI 0))) :: (h, .inr (1, [.int (nI 0), .ref r17, .ref r18, .int (nI 0), .int (nI 0), .null, .null, .null, .null, .null, .null, .null, .null, .null, .null, .null])) :: ws0) rfl ?_
  refine n_aload_n C 0 dX1_init_25 rfl ?_
  refine n_iconst C (v := (nI 0)) dX1_init_26 (by decide) ?_
  refine n_put C 2 3 rfl rfl inlN1 tyX1 tyX1_ok nmX1 (by decide) kf1_22 rfl (ty := .int) (by decide +kernel) rfl rfl (Nat.le_of_ble_eq_true rfl) dX1_init_27 ((r18, .inl (cI, 10, .inl (fun _ => nI 0))) :: (r17, .inl (cI, 10, .inl (fun _ => nI 0))) :: (h, .inr (1, [.int (nI 0), .ref r17, .ref r18, .int (nI 0), .int (nI 0), .null, .null, .null, .null, .null, .null, .null, .null, .null, .null, .null])) :: ws0) rfl ?_
  refine n_aload_n C 0 dX1_init_30 rfl ?_
  refine n_iconst C (v := (nI 0)) dX1_init_31 (by decide) ?_
  refine n_put C 2 4 rfl rfl inlN1 tyX1 tyX1_ok nmX1 (by decide) kf1_25 rfl (ty := .int) (by decide +kernel) rfl rfl (Nat.le_of_ble_eq_true rfl) dX1_init_32 ((r18, .inl (cI, 10, .inl (fun _ => nI 0))) :: (r17, .inl (cI, 10, .inl (fun _ => nI 0))) :: (h, .inr (1, [.int (nI 0), .ref r17, .ref r18, .int (nI 0), .int (nI 0), .null, .null, .null, .null, .null, .null, .null, .null, .null, .null, .null])) :: ws0) rfl ?_
  refine n_aload_n C 0 dX1_init_35 rfl ?_
  refine n_bipush C (v := (nI 6)) dX1_init_36 (by decide) ?_
  refine n_newa C rfl arI 6 (by decide) (Nat.le_of_ble_eq_true rfl) (Nat.le_of_ble_eq_true rfl) dX1_init_38 (fun r19 => ?_)
  refine n_putF C hI_ 3 5 rfl rfl inlN1 tyX1 tyX1_ok nmX1 (by decide) kf1_28 rfl rfl (ty := (.array .int)) (by decide +kernel) rfl rfl (Nat.le_of_ble_eq_true rfl) dX1_init_40 ((r19, .inl (cI, 6, .inl (fun _ => nI 0))) :: (r18, .inl (cI, 10, .inl (fun _ => nI 0))) :: (r17, .inl (cI, 10, .inl (fun _ => nI 0))) :: (h, .inr (1, [.int (nI 0), .ref r17, .ref r18, .int (nI 0), .int (nI 0), .ref r19, .null, .null, .null, .null, .null, .null, .null, .null, .null, .null])) :: ws0) rfl ?_
  refine n_aload_n C 0 dX1_init_43 rfl ?_
  refine n_bipush C (v := (nI 6)) dX1_init_44 (by decide) ?_
  refine n_newa C rfl arI 6 (by decide) (Nat.le_of_ble_eq_true rfl) (Nat.le_of_ble_eq_true rfl) dX1_init_46 (fun r20 => ?_)
  refine n_putF C hI_ 4 6 rfl rfl inlN1 tyX1 tyX1_ok nmX1 (by decide) kf1_31 rfl rfl (ty := (.array .int)) (by decide +kernel) rfl rfl (Nat.le_of_ble_eq_true rfl) dX1_init_48 ((r20, .inl (cI, 6, .inl (fun _ => nI 0))) :: (r19, .inl (cI, 6, .inl (fun _ => nI 0))) :: (r18, .inl (cI, 10, .inl (fun _ => nI 0))) :: (r17, .inl (cI, 10, .inl (fun _ => nI 0))) :: (h, .inr (1, [.int (nI 0), .ref r17, .ref r18, .int (nI 0), .int (nI 0), .ref r19, .ref r20, .null, .null, .null, .null, .null, .null, .null, .null, .null])) :: ws0) rfl ?_
  refine n_aload_n C 0 dX1_init_51 rfl ?_
  refine n_bipush C (v := (nI 6)) dX1_init_52 (by decide) ?_
  refine n_newa C rfl arI 6 (by decide) (Nat.le_of_ble_eq_true rfl) (Nat.le_of_ble_eq_true rfl) dX1_init_54 (fun r21 => ?_)
  refine n_putF C hI_ 5 7 rfl rfl inlN1 tyX1 tyX1_ok nmX1 (by decide) kf1_34 rfl rfl (ty := (.array .int)) (by decide +kernel) rfl rfl (Nat.le_of_ble_eq_true rfl) dX1_init_56 ((r21, .inl (cI, 6, .inl (fun _ => nI 0))) :: (r20, .inl (cI, 6, .inl (fun _ => nI 0))) :: (r19, .inl (cI, 6, .inl (fun _ => nI 0))) :: (r18, .inl (cI, 10, .inl (fun _ => nI 0))) :: (r17, .inl (cI, 10, .inl (fun _ => nI 0))) :: (h, .inr (1, [.int (nI 0), .ref r17, .ref r18, .int (nI 0), .int (nI 0), .ref r19, .ref r20, .ref r21, .null, .null, .null, .null, .null, .null, .null, .null])) :: ws0) rfl ?_
  refine n_aload_n C 0 dX1_init_59 rfl ?_
  refine n_bipush C (v := (nI 6)) dX1_init_60 (by decide) ?_
  refine n_newa C rfl arI 6 (by decide) (Nat.le_of_ble_eq_true rfl) (Nat.le_of_ble_eq_true rfl) dX1_init_62 (fun r22 => ?_)
  refine n_putF C hI_ 6 8 rfl rfl inlN1 tyX1 tyX1_ok nmX1 (by decide) kf1_37 rfl rfl (ty := (.array .int)) (by decide +kernel) rfl rfl (Nat.le_of_ble_eq_true rfl) dX1_init_64 ((r22, .inl (cI, 6, .inl (fun _ => nI 0))) :: (r21, .inl (cI, 6, .inl (fun _ => nI 0))) :: (r20, .inl (cI, 6, .inl (fun _ => nI 0))) :: (r19, .inl (cI, 6, .inl (fun _ => nI 0))) :: (r18, .inl (cI, 10, .inl (fun _ => nI 0))) :: (r17, .inl (cI, 10, .inl (fun _ => nI 0))) :: (h, .inr (1, [.int (nI 0), .ref r17, .ref r18, .int (nI 0), .int (nI 0), .ref r19, .ref r20, .ref r21, .ref r22, .null, .null, .null, .null, .null, .null, .null])) :: ws0) rfl ?_
  refine n_aload_n C 0 dX1_init_67 rfl ?_
  refine n_bipush C (v := (nI 6)) dX1_init_68 (by decide) ?_
  refine n_newa C rfl arI 6 (by decide) (Nat.le_of_ble_eq_true rfl) (Nat.le_of_ble_eq_true rfl) dX1_init_70 (fun r23 => ?_)
  refine n_putF C hI_ 7 9 rfl rfl inlN1 tyX1 tyX1_ok nmX1 (by decide) kf1_40 rfl rfl (ty := (.array .int)) (by decide +kernel) rfl rfl (Nat.le_of_ble_eq_true rfl) dX1_init_72 ((r23, .inl (cI, 6, .inl (fun _ => nI 0))) :: (r22, .inl (cI, 6, .inl (fun _ => nI 0))) :: (r21, .inl (cI, 6, .inl (fun _ => nI 0))) :: (r20, .inl (cI, 6, .inl (fun _ => nI 0))) :: (r19, .inl (cI, 6, .inl (fun _ => nI 0))) :: (r18, .inl (cI, 10, .inl (fun _ => nI 0))) :: (r17, .inl (cI, 10, .inl (fun _ => nI 0))) :: (h, .inr (1, [.int (nI 0), .ref r17, .ref r18, .int (nI 0), .int (nI 0), .ref r19, .ref r20, .ref r21, .ref r22, .ref r23, .null, .null, .null, .null, .null, .null])) :: ws0) rfl ?_
  refine n_aload_n C 0 dX1_init_75 rfl ?_
  refine n_bipush C (v := (nI 6)) dX1_init_76 (by decide) ?_
  refine n_newa C rfl arI 6 (by decide) (Nat.le_of_ble_eq_true rfl) (Nat.le_of_ble_eq_true rfl) dX1_init_78 (fun r24 => ?_)
  refine n_putF C hI_ 8 10 rfl rfl inlN1 tyX1 tyX1_ok nmX1 (by decide) kf1_43 rfl rfl (ty := (.array .int)) (by decide +kernel) rfl rfl (Nat.le_of_ble_eq_true rfl) dX1_init_80 ((r24, .inl (cI, 6, .inl (fun _ => nI 0))) :: (r23, .inl (cI, 6, .inl (fun _ => nI 0))) :: (r22, .inl (cI, 6, .inl (fun _ => nI 0))) :: (r21, .inl (cI, 6, .inl (fun _ => nI 0))) :: (r20, .inl (cI, 6, .inl (fun _ => nI 0))) :: (r19, .inl (cI, 6, .inl (fun _ => nI 0))) :: (r18, .inl (cI, 10, .inl (fun _ => nI 0))) :: (r17, .inl (cI, 10, .inl (fun _ => nI 0))) :: (h, .inr (1, [.int (nI 0), .ref r17, .ref r18, .int (nI 0), .int (nI 0), .ref r19, .ref r20, .ref r21, .ref r22, .ref r23, .ref r24, .null, .null, .null, .null, .null])) :: ws0) rfl ?_
  refine n_aload_n C 0 dX1_init_83 rfl ?_
  refine n_bipush C (v := (nI 6)) dX1_init_84 (by decide) ?_
  refine n_newa C rfl arI 6 (by decide) (Nat.le_of_ble_eq_true rfl) (Nat.le_of_ble_eq_true rfl) dX1_init_86 (fun r25 => ?_)
  refine n_putF C hI_ 9 11 rfl rfl inlN1 tyX1 tyX1_ok nmX1 (by decide) kf1_46 rfl rfl (ty := (.array .int)) (by decide +kernel) rfl rfl (Nat.le_of_ble_eq_true rfl) dX1_init_88 ((r25, .inl (cI, 6, .inl (fun _ => nI 0))) :: (r24, .inl (cI, 6, .inl (fun _ => nI 0))) :: (r23, .inl (cI, 6, .inl (fun _ => nI 0))) :: (r22, .inl (cI, 6, .inl (fun _ => nI 0))) :: (r21, .inl (cI, 6, .inl (fun _ => nI 0))) :: (r20, .inl (cI, 6, .inl (fun _ => nI 0))) :: (r19, .inl (cI, 6, .inl (fun _ => nI 0))) :: (r18, .inl (cI, 10, .inl (fun _ => nI 0))) :: (r17, .inl (cI, 10, .inl (fun _ => nI 0))) :: (h, .inr (1, [.int (nI 0), .ref r17, .ref r18, .int (nI 0), .int (nI 0), .ref r19, .ref r20, .ref r21, .ref r22, .ref r23, .ref r24, .ref r25, .null, .null, .null, .null])) :: ws0) rfl ?_
  refine n_aload_n C 0 dX1_init_91 rfl ?_
  refine n_bipush C (v := (nI 6)) dX1_init_92 (by decide) ?_
  refine n_newa C rfl arI 6 (by decide) (Nat.le_of_ble_eq_true rfl) (Nat.le_of_ble_eq_true rfl) dX1_init_94 (fun r26 => ?_)
  refine n_putF C hI_ 10 12 rfl rfl inlN1 tyX1 tyX1_ok nmX1 (by decide) kf1_49 rfl rfl (ty := (.array .int)) (by decide +kernel) rfl rfl (Nat.le_of_ble_eq_true rfl) dX1_init_96 ((r26, .inl (cI, 6, .inl (fun _ => nI 0))) :: (r25, .inl (cI, 6, .inl (fun _ => nI 0))) :: (r24, .inl (cI, 6, .inl (fun _ => nI 0))) :: (r23, .inl (cI, 6, .inl (fun _ => nI 0))) :: (r22, .inl (cI, 6, .inl (fun _ => nI 0))) :: (r21, .inl (cI, 6, .inl (fun _ => nI 0))) :: (r20, .inl (cI, 6, .inl (fun _ => nI 0))) :: (r19, .inl (cI, 6, .inl (fun _ => nI 0))) :: (r18, .inl (cI, 10, .inl (fun _ => nI 0))) :: (r17, .inl (cI, 10, .inl (fun _ => nI 0))) :: (h, .inr (1, [.int (nI 0), .ref r17, .ref r18, .int (nI 0), .int (nI 0), .ref r19, .ref r20, .ref r21, .ref r22, .ref r23, .ref r24, .ref r25, .ref r26, .null, .null, .null])) :: ws0) rfl ?_
  refine n_aload_n C 0 dX1_init_99 rfl ?_
  refine n_aload_n C 1 dX1_init_100 rfl ?_
  refine n_putF C hI_ 10 13 rfl rfl inlN1 tyX1 tyX1_ok nmX1 (by decide) kf1_52 rfl rfl (ty := (.array (.object "GleanedSorry$Gleaner"))) (by decide +kernel) rfl rfl (Nat.le_of_ble_eq_true rfl) dX1_init_101 ((r26, .inl (cI, 6, .inl (fun _ => nI 0))) :: (r25, .inl (cI, 6, .inl (fun _ => nI 0))) :: (r24, .inl (cI, 6, .inl (fun _ => nI 0))) :: (r23, .inl (cI, 6, .inl (fun _ => nI 0))) :: (r22, .inl (cI, 6, .inl (fun _ => nI 0))) :: (r21, .inl (cI, 6, .inl (fun _ => nI 0))) :: (r20, .inl (cI, 6, .inl (fun _ => nI 0))) :: (r19, .inl (cI, 6, .inl (fun _ => nI 0))) :: (r18, .inl (cI, 10, .inl (fun _ => nI 0))) :: (r17, .inl (cI, 10, .inl (fun _ => nI 0))) :: (h, .inr (1, [.int (nI 0), .ref r17, .ref r18, .int (nI 0), .int (nI 0), .ref r19, .ref r20, .ref r21, .ref r22, .ref r23, .ref r24, .ref r25, .ref r26, .ref K, .null, .null])) :: ws0) rfl ?_
  refine n_aload_n C 0 dX1_init_104 rfl ?_
  refine n_aload_n C 2 dX1_init_105 rfl ?_
  refine n_putF C hI_ 10 14 rfl rfl inlN1 tyX1 tyX1_ok nmX1 (by decide) kf1_56 rfl rfl (ty := (.object "GleanedSorry$Law")) (by decide +kernel) rfl rfl (Nat.le_of_ble_eq_true rfl) dX1_init_106 ((r26, .inl (cI, 6, .inl (fun _ => nI 0))) :: (r25, .inl (cI, 6, .inl (fun _ => nI 0))) :: (r24, .inl (cI, 6, .inl (fun _ => nI 0))) :: (r23, .inl (cI, 6, .inl (fun _ => nI 0))) :: (r22, .inl (cI, 6, .inl (fun _ => nI 0))) :: (r21, .inl (cI, 6, .inl (fun _ => nI 0))) :: (r20, .inl (cI, 6, .inl (fun _ => nI 0))) :: (r19, .inl (cI, 6, .inl (fun _ => nI 0))) :: (r18, .inl (cI, 10, .inl (fun _ => nI 0))) :: (r17, .inl (cI, 10, .inl (fun _ => nI 0))) :: (h, .inr (1, [.int (nI 0), .ref r17, .ref r18, .int (nI 0), .int (nI 0), .ref r19, .ref r20, .ref r21, .ref r22, .ref r23, .ref r24, .ref r25, .ref r26, .ref K, .ref B, .null])) :: ws0) rfl ?_
  refine n_aload_n C 0 dX1_init_109 rfl ?_
  refine n_aload_n C 3 dX1_init_110 rfl ?_
  refine n_putF C hI_ 10 15 rfl rfl inlN1 tyX1 tyX1_ok nmX1 (by decide) kf1_60 rfl rfl (ty := (.object "GleanedSorry$Law")) (by decide +kernel) rfl rfl (Nat.le_of_ble_eq_true rfl) dX1_init_111 ((r26, .inl (cI, 6, .inl (fun _ => nI 0))) :: (r25, .inl (cI, 6, .inl (fun _ => nI 0))) :: (r24, .inl (cI, 6, .inl (fun _ => nI 0))) :: (r23, .inl (cI, 6, .inl (fun _ => nI 0))) :: (r22, .inl (cI, 6, .inl (fun _ => nI 0))) :: (r21, .inl (cI, 6, .inl (fun _ => nI 0))) :: (r20, .inl (cI, 6, .inl (fun _ => nI 0))) :: (r19, .inl (cI, 6, .inl (fun _ => nI 0))) :: (r18, .inl (cI, 10, .inl (fun _ => nI 0))) :: (r17, .inl (cI, 10, .inl (fun _ => nI 0))) :: (h, .inr (1, [.int (nI 0), .ref r17, .ref r18, .int (nI 0), .int (nI 0), .ref r19, .ref r20, .ref r21, .ref r22, .ref r23, .ref r24, .ref r25, .ref r26, .ref K, .ref B, .ref Pk])) :: ws0) rfl ?_
  refine n_aload_n C 0 dX1_init_114 rfl ?_
  refine n_iconst C (v := (nI 5)) dX1_init_115 (by decide) ?_
  refine n_callVv (As := [.int (nI 5)]) (rest := []) C vw1_63 (h_reapN h K B Pk r17 r18 r19 r20 r21 r22 r23 r24 r25 r26 ws0) ⟨10, 1, _, _, rfl, rfl, rfl⟩ rfl (Nat.le_of_ble_eq_true rfl) dX1_init_116 ⟨Nat.le_of_ble_eq_true rfl, Nat.le_of_ble_eq_true rfl⟩ ⟨Nat.le_of_ble_eq_true rfl, Nat.le_of_ble_eq_true rfl⟩ ?_
  rintro _ rfl
  refine n_vret C dX1_init_119 ?_
  exact ⟨_, _, _, _, _, _, _, _, _, _, rfl⟩

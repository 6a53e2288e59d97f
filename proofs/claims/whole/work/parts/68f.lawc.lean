/-! The law's cases 25 to 29. -/
theorem dL_law_1063 : decode cL_law 1063 = .ok (.aload_n 1, 1) := by decide +kernel
theorem dL_law_1064 : decode cL_law 1064 = .ok (.aload_n 0, 1) := by decide +kernel
theorem dL_law_1065 : decode cL_law 1065 = .ok (.iload_n 3, 1) := by decide +kernel
theorem dL_law_1066 : decode cL_law 1066 = .ok (.iconst 1, 1) := by decide +kernel
theorem dL_law_1067 : decode cL_law 1067 = .ok (.iadd, 1) := by decide +kernel
theorem dL_law_1068 : decode cL_law 1068 = .ok (.iaload, 1) := by decide +kernel
theorem dL_law_1069 : decode cL_law 1069 = .ok (.aload_n 0, 1) := by decide +kernel
theorem dL_law_1070 : decode cL_law 1070 = .ok (.iload_n 3, 1) := by decide +kernel
theorem dL_law_1071 : decode cL_law 1071 = .ok (.iconst 2, 1) := by decide +kernel
theorem dL_law_1072 : decode cL_law 1072 = .ok (.iadd, 1) := by decide +kernel
theorem dL_law_1073 : decode cL_law 1073 = .ok (.iaload, 1) := by decide +kernel
theorem dL_law_1074 : decode cL_law 1074 = .ok (.aload_n 0, 1) := by decide +kernel
theorem dL_law_1075 : decode cL_law 1075 = .ok (.iload_n 3, 1) := by decide +kernel
theorem dL_law_1076 : decode cL_law 1076 = .ok (.iconst 3, 1) := by decide +kernel
theorem dL_law_1077 : decode cL_law 1077 = .ok (.iadd, 1) := by decide +kernel
theorem dL_law_1078 : decode cL_law 1078 = .ok (.iaload, 1) := by decide +kernel
theorem dL_law_1079 : decode cL_law 1079 = .ok (.invokevirtual 120, 3) := by decide +kernel
theorem dL_law_1082 : decode cL_law 1082 = .ok (.aload_n 2, 1) := by decide +kernel
theorem dL_law_1083 : decode cL_law 1083 = .ok (.aload_n 0, 1) := by decide +kernel
theorem dL_law_1084 : decode cL_law 1084 = .ok (.iload_n 3, 1) := by decide +kernel
theorem dL_law_1085 : decode cL_law 1085 = .ok (.iconst 1, 1) := by decide +kernel
theorem dL_law_1086 : decode cL_law 1086 = .ok (.iadd, 1) := by decide +kernel
theorem dL_law_1087 : decode cL_law 1087 = .ok (.iaload, 1) := by decide +kernel
theorem dL_law_1088 : decode cL_law 1088 = .ok (.aload_n 0, 1) := by decide +kernel
theorem dL_law_1089 : decode cL_law 1089 = .ok (.iload_n 3, 1) := by decide +kernel
theorem dL_law_1090 : decode cL_law 1090 = .ok (.iconst 2, 1) := by decide +kernel
theorem dL_law_1091 : decode cL_law 1091 = .ok (.iadd, 1) := by decide +kernel
theorem dL_law_1092 : decode cL_law 1092 = .ok (.iaload, 1) := by decide +kernel
theorem dL_law_1093 : decode cL_law 1093 = .ok (.aload_n 0, 1) := by decide +kernel
theorem dL_law_1094 : decode cL_law 1094 = .ok (.iload_n 3, 1) := by decide +kernel
theorem dL_law_1095 : decode cL_law 1095 = .ok (.iconst 3, 1) := by decide +kernel
theorem dL_law_1096 : decode cL_law 1096 = .ok (.iadd, 1) := by decide +kernel
theorem dL_law_1097 : decode cL_law 1097 = .ok (.iaload, 1) := by decide +kernel
theorem dL_law_1098 : decode cL_law 1098 = .ok (.invokevirtual 123, 3) := by decide +kernel
theorem dL_law_1101 : decode cL_law 1101 = .ok (.if_icmp .eq 397, 3) := by decide +kernel
theorem dL_law_1104 : decode cL_law 1104 = .ok (.iconst 0, 1) := by decide +kernel
theorem dL_law_1105 : decode cL_law 1105 = .ok (.ireturn, 1) := by decide +kernel
theorem vl_120 : VW R_law 120 yX11_odds cX11_odds 6 (some .int) 3 := ⟨gw 811 (by decide +kernel) rfl, gw 808 (by decide +kernel) rfl, gw 809 (by decide +kernel) rfl, gw 810 (by decide +kernel) rfl, gw 83 (by decide +kernel) rfl, by decide +kernel, by decide⟩
theorem vl_123 : VW R_law 123 yX12_odds cX12_odds 7 (some .int) 3 := ⟨gw 1337 (by decide +kernel) rfl, gw 1334 (by decide +kernel) rfl, gw 1335 (by decide +kernel) rfl, gw 1336 (by decide +kernel) rfl, gw 96 (by decide +kernel) rfl, by decide +kernel, by decide⟩
set_option maxHeartbeats 2000000 in
set_option maxRecDepth 20000 in
theorem lc_odds {p : Program} {l : Launch} {e : Env} {s : State} {m : MethodId} {below : List Frame} {meth : Method} {c : Code} {Q : State → Prop} {D : va_G} {A : Nat → Prop} {cI cG cW : ClassId} {o : Nat} {qR q : Nat → Nat} {O : Ou} {b Ln : Nat} {xs : Nat → Int32} (C : Cx p s m #[Value.ref b] meth c code 4 R_law ret D (tyL cI cG cW) A) (hO : OUT O A s s.heap) (hX : va_X b Ln xs s s.heap) (hbl : b < s.heap.size) (hbA : ¬ A b) (hL : Ln ≤ 3072) {i M : Nat} (hi : i + 6 ≤ Ln) {V row kept tried bf fd pk bo so sh mv tr : Nat → Int32} {S : Nat → Int32} {X : Nat → Nat → Int32} {P : Nat → Nat} (hI : RI M (sR V row kept tried bf fd pk bo so sh mv tr)) (hC : CR (S, X, P) (sR V row kept tried bf fd pk bo so sh mv tr)) (hM : M < 3000) (kk : ∀ (σ' : RS) (κ' : CS), RI (M + 1) σ' → CR κ' σ' → JN p l e room_1 s m #[Value.ref b] below meth c Q 4 D A 103 2575 (Wl cI cG cW o qR q) (σ', κ') 1498 [(0, .ref b), (1, .ref (q 0)), (2, .ref o), (3, .int (nI i))] []) : JN p l e room_1 s m #[Value.ref b] below meth c Q 4 D A 103 2575 (Wl cI cG cW o qR q) (sR V row kept tried bf fd pk bo so sh mv tr, (S, X, P)) 1063 [(0, .ref b), (1, .ref (q 0)), (2, .ref o), (3, .int (nI i))] [] := by
  obtain ⟨⟨nc, np, nw, d, nt, nq, hR⟩, ⟨im, him1, eV5, eV4, hMk⟩, ⟨hV15, hV16, hV18⟩, hSh, ⟨tn, h26, e26⟩⟩ := id hI
  have him3 : im ≤ 3000 := by omega
  refine n_aload_n C 1 dL_law_1063 rfl ?_
  refine n_aload_n C 0 dL_law_1064 rfl ?_
  refine n_iload_n C 3 dL_law_1065 rfl ?_
  refine n_iconst C (v := (nI 1)) dL_law_1066 (by decide) ?_
  refine n_iaddN C dL_law_1067 ?_
  refine l_sld C hX hbl hbA (i + 1) (by omega) (by omega) dL_law_1068 ?_
  refine n_aload_n C 0 dL_law_1069 rfl ?_
  refine n_iload_n C 3 dL_law_1070 rfl ?_
  refine n_iconst C (v := (nI 2)) dL_law_1071 (by decide) ?_
  refine n_iaddN C dL_law_1072 ?_
  refine l_sld C hX hbl hbA (i + 2) (by omega) (by omega) dL_law_1073 ?_
  refine n_aload_n C 0 dL_law_1074 rfl ?_
  refine n_iload_n C 3 dL_law_1075 rfl ?_
  refine n_iconst C (v := (nI 3)) dL_law_1076 (by decide) ?_
  refine n_iaddN C dL_law_1077 ?_
  refine l_sld C hX hbl hbA (i + 3) (by omega) (by omega) dL_law_1078 ?_
  refine l_callC (As := [.int (xs (i + 1)), .int (xs (i + 2)), .int (xs (i + 3))]) (rest := []) C hO vl_120 ((k_odds hR hC hV15 hV16 hV18).o) ⟨0, 11, _, _, rfl, rfl, rfl⟩ rfl (Nat.le_of_ble_eq_true rfl) dL_law_1079 ⟨Nat.le_of_ble_eq_true rfl, Nat.le_of_ble_eq_true rfl⟩ ⟨Nat.le_of_ble_eq_true rfl, Nat.le_of_ble_eq_true rfl⟩ ?_
  rintro r1 κ1 ⟨e1, hC1⟩
  refine n_aload_n C 2 dL_law_1082 rfl ?_
  refine n_aload_n C 0 dL_law_1083 rfl ?_
  refine n_iload_n C 3 dL_law_1084 rfl ?_
  refine n_iconst C (v := (nI 1)) dL_law_1085 (by decide) ?_
  refine n_iaddN C dL_law_1086 ?_
  refine l_sld C hX hbl hbA (i + 1) (by omega) (by omega) dL_law_1087 ?_
  refine n_aload_n C 0 dL_law_1088 rfl ?_
  refine n_iload_n C 3 dL_law_1089 rfl ?_
  refine n_iconst C (v := (nI 2)) dL_law_1090 (by decide) ?_
  refine n_iaddN C dL_law_1091 ?_
  refine l_sld C hX hbl hbA (i + 2) (by omega) (by omega) dL_law_1092 ?_
  refine n_aload_n C 0 dL_law_1093 rfl ?_
  refine n_iload_n C 3 dL_law_1094 rfl ?_
  refine n_iconst C (v := (nI 3)) dL_law_1095 (by decide) ?_
  refine n_iaddN C dL_law_1096 ?_
  refine l_sld C hX hbl hbA (i + 3) (by omega) (by omega) dL_law_1097 ?_
  refine l_callM (As := [.int (xs (i + 1)), .int (xs (i + 2)), .int (xs (i + 3))]) (rest := [.int r1]) C vl_123 (c_odds hR hV15 hV16 hV18) rRcv rfl (Nat.le_of_ble_eq_true rfl) dL_law_1098 ⟨Nat.le_of_ble_eq_true rfl, Nat.le_of_ble_eq_true rfl⟩ ⟨Nat.le_of_ble_eq_true rfl, Nat.le_of_ble_eq_true rfl⟩ ?_
  rintro r2 σ1 ⟨e2, hE⟩
  refine n_icmp_eq C 1498 dL_law_1101 (by decide) (fun c_ => ?_) (fun c_ => ?_)
  · exact kk σ1 κ1 ((ri_odds hI).eq hE) (hC1.eq hE)
  · exact absurd (e1.trans e2.symm) c_
theorem dL_law_1106 : decode cL_law 1106 = .ok (.aload_n 1, 1) := by decide +kernel
theorem dL_law_1107 : decode cL_law 1107 = .ok (.aload_n 0, 1) := by decide +kernel
theorem dL_law_1108 : decode cL_law 1108 = .ok (.iload_n 3, 1) := by decide +kernel
theorem dL_law_1109 : decode cL_law 1109 = .ok (.iconst 1, 1) := by decide +kernel
theorem dL_law_1110 : decode cL_law 1110 = .ok (.iadd, 1) := by decide +kernel
theorem dL_law_1111 : decode cL_law 1111 = .ok (.iaload, 1) := by decide +kernel
theorem dL_law_1112 : decode cL_law 1112 = .ok (.invokevirtual 124, 3) := by decide +kernel
theorem dL_law_1115 : decode cL_law 1115 = .ok (.aload_n 2, 1) := by decide +kernel
theorem dL_law_1116 : decode cL_law 1116 = .ok (.aload_n 0, 1) := by decide +kernel
theorem dL_law_1117 : decode cL_law 1117 = .ok (.iload_n 3, 1) := by decide +kernel
theorem dL_law_1118 : decode cL_law 1118 = .ok (.iconst 1, 1) := by decide +kernel
theorem dL_law_1119 : decode cL_law 1119 = .ok (.iadd, 1) := by decide +kernel
theorem dL_law_1120 : decode cL_law 1120 = .ok (.iaload, 1) := by decide +kernel
theorem dL_law_1121 : decode cL_law 1121 = .ok (.invokevirtual 127, 3) := by decide +kernel
theorem dL_law_1124 : decode cL_law 1124 = .ok (.if_icmp .eq 374, 3) := by decide +kernel
theorem dL_law_1127 : decode cL_law 1127 = .ok (.iconst 0, 1) := by decide +kernel
theorem dL_law_1128 : decode cL_law 1128 = .ok (.ireturn, 1) := by decide +kernel
theorem vl_124 : VW R_law 124 yX11_seed cX11_seed 3 (some .int) 1 := ⟨gw 818 (by decide +kernel) rfl, gw 815 (by decide +kernel) rfl, gw 816 (by decide +kernel) rfl, gw 817 (by decide +kernel) rfl, gw 83 (by decide +kernel) rfl, by decide +kernel, by decide⟩
theorem vl_127 : VW R_law 127 yX12_seed cX12_seed 3 (some .int) 1 := ⟨gw 1344 (by decide +kernel) rfl, gw 1341 (by decide +kernel) rfl, gw 1342 (by decide +kernel) rfl, gw 1343 (by decide +kernel) rfl, gw 96 (by decide +kernel) rfl, by decide +kernel, by decide⟩
set_option maxHeartbeats 2000000 in
set_option maxRecDepth 20000 in
theorem lc_seed {p : Program} {l : Launch} {e : Env} {s : State} {m : MethodId} {below : List Frame} {meth : Method} {c : Code} {Q : State → Prop} {D : va_G} {A : Nat → Prop} {cI cG cW : ClassId} {o : Nat} {qR q : Nat → Nat} {O : Ou} {b Ln : Nat} {xs : Nat → Int32} (C : Cx p s m #[Value.ref b] meth c code 4 R_law ret D (tyL cI cG cW) A) (hO : OUT O A s s.heap) (hX : va_X b Ln xs s s.heap) (hbl : b < s.heap.size) (hbA : ¬ A b) (hL : Ln ≤ 3072) {i M : Nat} (hi : i + 6 ≤ Ln) {V row kept tried bf fd pk bo so sh mv tr : Nat → Int32} {S : Nat → Int32} {X : Nat → Nat → Int32} {P : Nat → Nat} (hI : RI M (sR V row kept tried bf fd pk bo so sh mv tr)) (hC : CR (S, X, P) (sR V row kept tried bf fd pk bo so sh mv tr)) (hM : M < 3000) (kk : ∀ (σ' : RS) (κ' : CS), RI (M + 1) σ' → CR κ' σ' → JN p l e room_1 s m #[Value.ref b] below meth c Q 4 D A 103 2575 (Wl cI cG cW o qR q) (σ', κ') 1498 [(0, .ref b), (1, .ref (q 0)), (2, .ref o), (3, .int (nI i))] []) : JN p l e room_1 s m #[Value.ref b] below meth c Q 4 D A 103 2575 (Wl cI cG cW o qR q) (sR V row kept tried bf fd pk bo so sh mv tr, (S, X, P)) 1106 [(0, .ref b), (1, .ref (q 0)), (2, .ref o), (3, .int (nI i))] [] := by
  obtain ⟨⟨nc, np, nw, d, nt, nq, hR⟩, ⟨im, him1, eV5, eV4, hMk⟩, ⟨hV15, hV16, hV18⟩, hSh, ⟨tn, h26, e26⟩⟩ := id hI
  have him3 : im ≤ 3000 := by omega
  refine n_aload_n C 1 dL_law_1106 rfl ?_
  refine n_aload_n C 0 dL_law_1107 rfl ?_
  refine n_iload_n C 3 dL_law_1108 rfl ?_
  refine n_iconst C (v := (nI 1)) dL_law_1109 (by decide) ?_
  refine n_iaddN C dL_law_1110 ?_
  refine l_sld C hX hbl hbA (i + 1) (by omega) (by omega) dL_law_1111 ?_
  refine l_callC (As := [.int (xs (i + 1))]) (rest := []) C hO vl_124 ((k_seed hR hC).o) ⟨0, 11, _, _, rfl, rfl, rfl⟩ rfl (Nat.le_of_ble_eq_true rfl) dL_law_1112 ⟨Nat.le_of_ble_eq_true rfl, Nat.le_of_ble_eq_true rfl⟩ ⟨Nat.le_of_ble_eq_true rfl, Nat.le_of_ble_eq_true rfl⟩ ?_
  rintro r1 κ1 ⟨e1, hC1⟩
  refine n_aload_n C 2 dL_law_1115 rfl ?_
  refine n_aload_n C 0 dL_law_1116 rfl ?_
  refine n_iload_n C 3 dL_law_1117 rfl ?_
  refine n_iconst C (v := (nI 1)) dL_law_1118 (by decide) ?_
  refine n_iaddN C dL_law_1119 ?_
  refine l_sld C hX hbl hbA (i + 1) (by omega) (by omega) dL_law_1120 ?_
  refine l_callM (As := [.int (xs (i + 1))]) (rest := [.int r1]) C vl_127 (c_seed hR) rRcv rfl (Nat.le_of_ble_eq_true rfl) dL_law_1121 ⟨Nat.le_of_ble_eq_true rfl, Nat.le_of_ble_eq_true rfl⟩ ⟨Nat.le_of_ble_eq_true rfl, Nat.le_of_ble_eq_true rfl⟩ ?_
  rintro r2 σ1 ⟨e2, hE⟩
  refine n_icmp_eq C 1498 dL_law_1124 (by decide) (fun c_ => ?_) (fun c_ => ?_)
  · exact kk σ1 κ1 ((ri_seed hI).eq hE) (hC1.eq hE)
  · exact absurd (e1.trans e2.symm) c_
theorem dL_law_1129 : decode cL_law 1129 = .ok (.aload_n 1, 1) := by decide +kernel
theorem dL_law_1130 : decode cL_law 1130 = .ok (.aload_n 0, 1) := by decide +kernel
theorem dL_law_1131 : decode cL_law 1131 = .ok (.iload_n 3, 1) := by decide +kernel
theorem dL_law_1132 : decode cL_law 1132 = .ok (.iconst 1, 1) := by decide +kernel
theorem dL_law_1133 : decode cL_law 1133 = .ok (.iadd, 1) := by decide +kernel
theorem dL_law_1134 : decode cL_law 1134 = .ok (.iaload, 1) := by decide +kernel
theorem dL_law_1135 : decode cL_law 1135 = .ok (.aload_n 0, 1) := by decide +kernel
theorem dL_law_1136 : decode cL_law 1136 = .ok (.iload_n 3, 1) := by decide +kernel
theorem dL_law_1137 : decode cL_law 1137 = .ok (.iconst 2, 1) := by decide +kernel
theorem dL_law_1138 : decode cL_law 1138 = .ok (.iadd, 1) := by decide +kernel
theorem dL_law_1139 : decode cL_law 1139 = .ok (.iaload, 1) := by decide +kernel
theorem dL_law_1140 : decode cL_law 1140 = .ok (.aload_n 0, 1) := by decide +kernel
theorem dL_law_1141 : decode cL_law 1141 = .ok (.iload_n 3, 1) := by decide +kernel
theorem dL_law_1142 : decode cL_law 1142 = .ok (.iconst 3, 1) := by decide +kernel
theorem dL_law_1143 : decode cL_law 1143 = .ok (.iadd, 1) := by decide +kernel
theorem dL_law_1144 : decode cL_law 1144 = .ok (.iaload, 1) := by decide +kernel
theorem dL_law_1145 : decode cL_law 1145 = .ok (.invokevirtual 128, 3) := by decide +kernel
theorem dL_law_1148 : decode cL_law 1148 = .ok (.aload_n 2, 1) := by decide +kernel
theorem dL_law_1149 : decode cL_law 1149 = .ok (.aload_n 0, 1) := by decide +kernel
theorem dL_law_1150 : decode cL_law 1150 = .ok (.iload_n 3, 1) := by decide +kernel
theorem dL_law_1151 : decode cL_law 1151 = .ok (.iconst 1, 1) := by decide +kernel
theorem dL_law_1152 : decode cL_law 1152 = .ok (.iadd, 1) := by decide +kernel
theorem dL_law_1153 : decode cL_law 1153 = .ok (.iaload, 1) := by decide +kernel
theorem dL_law_1154 : decode cL_law 1154 = .ok (.aload_n 0, 1) := by decide +kernel
theorem dL_law_1155 : decode cL_law 1155 = .ok (.iload_n 3, 1) := by decide +kernel
theorem dL_law_1156 : decode cL_law 1156 = .ok (.iconst 2, 1) := by decide +kernel
theorem dL_law_1157 : decode cL_law 1157 = .ok (.iadd, 1) := by decide +kernel
theorem dL_law_1158 : decode cL_law 1158 = .ok (.iaload, 1) := by decide +kernel
theorem dL_law_1159 : decode cL_law 1159 = .ok (.aload_n 0, 1) := by decide +kernel
theorem dL_law_1160 : decode cL_law 1160 = .ok (.iload_n 3, 1) := by decide +kernel
theorem dL_law_1161 : decode cL_law 1161 = .ok (.iconst 3, 1) := by decide +kernel
theorem dL_law_1162 : decode cL_law 1162 = .ok (.iadd, 1) := by decide +kernel
theorem dL_law_1163 : decode cL_law 1163 = .ok (.iaload, 1) := by decide +kernel
theorem dL_law_1164 : decode cL_law 1164 = .ok (.invokevirtual 131, 3) := by decide +kernel
theorem dL_law_1167 : decode cL_law 1167 = .ok (.if_icmp .eq 331, 3) := by decide +kernel
theorem dL_law_1170 : decode cL_law 1170 = .ok (.iconst 0, 1) := by decide +kernel
theorem dL_law_1171 : decode cL_law 1171 = .ok (.ireturn, 1) := by decide +kernel
theorem vl_128 : VW R_law 128 yX11_voice cX11_voice 6 (some .int) 3 := ⟨gw 822 (by decide +kernel) rfl, gw 819 (by decide +kernel) rfl, gw 820 (by decide +kernel) rfl, gw 821 (by decide +kernel) rfl, gw 83 (by decide +kernel) rfl, by decide +kernel, by decide⟩
theorem vl_131 : VW R_law 131 yX12_voice cX12_voice 4 (some .int) 3 := ⟨gw 1348 (by decide +kernel) rfl, gw 1345 (by decide +kernel) rfl, gw 1346 (by decide +kernel) rfl, gw 1347 (by decide +kernel) rfl, gw 96 (by decide +kernel) rfl, by decide +kernel, by decide⟩
set_option maxHeartbeats 2000000 in
set_option maxRecDepth 20000 in
theorem lc_voice {p : Program} {l : Launch} {e : Env} {s : State} {m : MethodId} {below : List Frame} {meth : Method} {c : Code} {Q : State → Prop} {D : va_G} {A : Nat → Prop} {cI cG cW : ClassId} {o : Nat} {qR q : Nat → Nat} {O : Ou} {b Ln : Nat} {xs : Nat → Int32} (C : Cx p s m #[Value.ref b] meth c code 4 R_law ret D (tyL cI cG cW) A) (hO : OUT O A s s.heap) (hX : va_X b Ln xs s s.heap) (hbl : b < s.heap.size) (hbA : ¬ A b) (hL : Ln ≤ 3072) {i M : Nat} (hi : i + 6 ≤ Ln) {V row kept tried bf fd pk bo so sh mv tr : Nat → Int32} {S : Nat → Int32} {X : Nat → Nat → Int32} {P : Nat → Nat} (hI : RI M (sR V row kept tried bf fd pk bo so sh mv tr)) (hC : CR (S, X, P) (sR V row kept tried bf fd pk bo so sh mv tr)) (hM : M < 3000) (kk : ∀ (σ' : RS) (κ' : CS), RI (M + 1) σ' → CR κ' σ' → JN p l e room_1 s m #[Value.ref b] below meth c Q 4 D A 103 2575 (Wl cI cG cW o qR q) (σ', κ') 1498 [(0, .ref b), (1, .ref (q 0)), (2, .ref o), (3, .int (nI i))] []) : JN p l e room_1 s m #[Value.ref b] below meth c Q 4 D A 103 2575 (Wl cI cG cW o qR q) (sR V row kept tried bf fd pk bo so sh mv tr, (S, X, P)) 1129 [(0, .ref b), (1, .ref (q 0)), (2, .ref o), (3, .int (nI i))] [] := by
  obtain ⟨⟨nc, np, nw, d, nt, nq, hR⟩, ⟨im, him1, eV5, eV4, hMk⟩, ⟨hV15, hV16, hV18⟩, hSh, ⟨tn, h26, e26⟩⟩ := id hI
  have him3 : im ≤ 3000 := by omega
  refine n_aload_n C 1 dL_law_1129 rfl ?_
  refine n_aload_n C 0 dL_law_1130 rfl ?_
  refine n_iload_n C 3 dL_law_1131 rfl ?_
  refine n_iconst C (v := (nI 1)) dL_law_1132 (by decide) ?_
  refine n_iaddN C dL_law_1133 ?_
  refine l_sld C hX hbl hbA (i + 1) (by omega) (by omega) dL_law_1134 ?_
  refine n_aload_n C 0 dL_law_1135 rfl ?_
  refine n_iload_n C 3 dL_law_1136 rfl ?_
  refine n_iconst C (v := (nI 2)) dL_law_1137 (by decide) ?_
  refine n_iaddN C dL_law_1138 ?_
  refine l_sld C hX hbl hbA (i + 2) (by omega) (by omega) dL_law_1139 ?_
  refine n_aload_n C 0 dL_law_1140 rfl ?_
  refine n_iload_n C 3 dL_law_1141 rfl ?_
  refine n_iconst C (v := (nI 3)) dL_law_1142 (by decide) ?_
  refine n_iaddN C dL_law_1143 ?_
  refine l_sld C hX hbl hbA (i + 3) (by omega) (by omega) dL_law_1144 ?_
  refine l_callC (As := [.int (xs (i + 1)), .int (xs (i + 2)), .int (xs (i + 3))]) (rest := []) C hO vl_128 ((k_voice hR hC).o) ⟨0, 11, _, _, rfl, rfl, rfl⟩ rfl (Nat.le_of_ble_eq_true rfl) dL_law_1145 ⟨Nat.le_of_ble_eq_true rfl, Nat.le_of_ble_eq_true rfl⟩ ⟨Nat.le_of_ble_eq_true rfl, Nat.le_of_ble_eq_true rfl⟩ ?_
  rintro r1 κ1 ⟨e1, hC1⟩
  refine n_aload_n C 2 dL_law_1148 rfl ?_
  refine n_aload_n C 0 dL_law_1149 rfl ?_
  refine n_iload_n C 3 dL_law_1150 rfl ?_
  refine n_iconst C (v := (nI 1)) dL_law_1151 (by decide) ?_
  refine n_iaddN C dL_law_1152 ?_
  refine l_sld C hX hbl hbA (i + 1) (by omega) (by omega) dL_law_1153 ?_
  refine n_aload_n C 0 dL_law_1154 rfl ?_
  refine n_iload_n C 3 dL_law_1155 rfl ?_
  refine n_iconst C (v := (nI 2)) dL_law_1156 (by decide) ?_
  refine n_iaddN C dL_law_1157 ?_
  refine l_sld C hX hbl hbA (i + 2) (by omega) (by omega) dL_law_1158 ?_
  refine n_aload_n C 0 dL_law_1159 rfl ?_
  refine n_iload_n C 3 dL_law_1160 rfl ?_
  refine n_iconst C (v := (nI 3)) dL_law_1161 (by decide) ?_
  refine n_iaddN C dL_law_1162 ?_
  refine l_sld C hX hbl hbA (i + 3) (by omega) (by omega) dL_law_1163 ?_
  refine l_callM (As := [.int (xs (i + 1)), .int (xs (i + 2)), .int (xs (i + 3))]) (rest := [.int r1]) C vl_131 (c_voice hR) rRcv rfl (Nat.le_of_ble_eq_true rfl) dL_law_1164 ⟨Nat.le_of_ble_eq_true rfl, Nat.le_of_ble_eq_true rfl⟩ ⟨Nat.le_of_ble_eq_true rfl, Nat.le_of_ble_eq_true rfl⟩ ?_
  rintro r2 σ1 ⟨e2, hE⟩
  refine n_icmp_eq C 1498 dL_law_1167 (by decide) (fun c_ => ?_) (fun c_ => ?_)
  · exact kk σ1 κ1 ((ri_voice hI).eq hE) (hC1.eq hE)
  · exact absurd (e1.trans e2.symm) c_
theorem dL_law_1172 : decode cL_law 1172 = .ok (.aload_n 1, 1) := by decide +kernel
theorem dL_law_1173 : decode cL_law 1173 = .ok (.aload_n 0, 1) := by decide +kernel
theorem dL_law_1174 : decode cL_law 1174 = .ok (.iload_n 3, 1) := by decide +kernel
theorem dL_law_1175 : decode cL_law 1175 = .ok (.iconst 1, 1) := by decide +kernel
theorem dL_law_1176 : decode cL_law 1176 = .ok (.iadd, 1) := by decide +kernel
theorem dL_law_1177 : decode cL_law 1177 = .ok (.iaload, 1) := by decide +kernel
theorem dL_law_1178 : decode cL_law 1178 = .ok (.invokevirtual 132, 3) := by decide +kernel
theorem dL_law_1181 : decode cL_law 1181 = .ok (.aload_n 2, 1) := by decide +kernel
theorem dL_law_1182 : decode cL_law 1182 = .ok (.aload_n 0, 1) := by decide +kernel
theorem dL_law_1183 : decode cL_law 1183 = .ok (.iload_n 3, 1) := by decide +kernel
theorem dL_law_1184 : decode cL_law 1184 = .ok (.iconst 1, 1) := by decide +kernel
theorem dL_law_1185 : decode cL_law 1185 = .ok (.iadd, 1) := by decide +kernel
theorem dL_law_1186 : decode cL_law 1186 = .ok (.iaload, 1) := by decide +kernel
theorem dL_law_1187 : decode cL_law 1187 = .ok (.invokevirtual 135, 3) := by decide +kernel
theorem dL_law_1190 : decode cL_law 1190 = .ok (.if_icmp .eq 308, 3) := by decide +kernel
theorem dL_law_1193 : decode cL_law 1193 = .ok (.iconst 0, 1) := by decide +kernel
theorem dL_law_1194 : decode cL_law 1194 = .ok (.ireturn, 1) := by decide +kernel
theorem vl_132 : VW R_law 132 yX11_trace cX11_trace 2 (some .int) 1 := ⟨gw 909 (by decide +kernel) rfl, gw 906 (by decide +kernel) rfl, gw 907 (by decide +kernel) rfl, gw 908 (by decide +kernel) rfl, gw 83 (by decide +kernel) rfl, by decide +kernel, by decide⟩
theorem vl_135 : VW R_law 135 yX12_trace cX12_trace 2 (some .int) 1 := ⟨gw 1372 (by decide +kernel) rfl, gw 1369 (by decide +kernel) rfl, gw 1370 (by decide +kernel) rfl, gw 1371 (by decide +kernel) rfl, gw 96 (by decide +kernel) rfl, by decide +kernel, by decide⟩
set_option maxHeartbeats 2000000 in
set_option maxRecDepth 20000 in
theorem lc_trace {p : Program} {l : Launch} {e : Env} {s : State} {m : MethodId} {below : List Frame} {meth : Method} {c : Code} {Q : State → Prop} {D : va_G} {A : Nat → Prop} {cI cG cW : ClassId} {o : Nat} {qR q : Nat → Nat} {O : Ou} {b Ln : Nat} {xs : Nat → Int32} (C : Cx p s m #[Value.ref b] meth c code 4 R_law ret D (tyL cI cG cW) A) (hO : OUT O A s s.heap) (hX : va_X b Ln xs s s.heap) (hbl : b < s.heap.size) (hbA : ¬ A b) (hL : Ln ≤ 3072) {i M : Nat} (hi : i + 6 ≤ Ln) {V row kept tried bf fd pk bo so sh mv tr : Nat → Int32} {S : Nat → Int32} {X : Nat → Nat → Int32} {P : Nat → Nat} (hI : RI M (sR V row kept tried bf fd pk bo so sh mv tr)) (hC : CR (S, X, P) (sR V row kept tried bf fd pk bo so sh mv tr)) (hM : M < 3000) (kk : ∀ (σ' : RS) (κ' : CS), RI (M + 1) σ' → CR κ' σ' → JN p l e room_1 s m #[Value.ref b] below meth c Q 4 D A 103 2575 (Wl cI cG cW o qR q) (σ', κ') 1498 [(0, .ref b), (1, .ref (q 0)), (2, .ref o), (3, .int (nI i))] []) : JN p l e room_1 s m #[Value.ref b] below meth c Q 4 D A 103 2575 (Wl cI cG cW o qR q) (sR V row kept tried bf fd pk bo so sh mv tr, (S, X, P)) 1172 [(0, .ref b), (1, .ref (q 0)), (2, .ref o), (3, .int (nI i))] [] := by
  obtain ⟨⟨nc, np, nw, d, nt, nq, hR⟩, ⟨im, him1, eV5, eV4, hMk⟩, ⟨hV15, hV16, hV18⟩, hSh, ⟨tn, h26, e26⟩⟩ := id hI
  have him3 : im ≤ 3000 := by omega
  refine n_aload_n C 1 dL_law_1172 rfl ?_
  refine n_aload_n C 0 dL_law_1173 rfl ?_
  refine n_iload_n C 3 dL_law_1174 rfl ?_
  refine n_iconst C (v := (nI 1)) dL_law_1175 (by decide) ?_
  refine n_iaddN C dL_law_1176 ?_
  refine l_sld C hX hbl hbA (i + 1) (by omega) (by omega) dL_law_1177 ?_
  refine l_callC (As := [.int (xs (i + 1))]) (rest := []) C hO vl_132 ((k_trace hR hC e26 h26).o) ⟨0, 11, _, _, rfl, rfl, rfl⟩ rfl (Nat.le_of_ble_eq_true rfl) dL_law_1178 ⟨Nat.le_of_ble_eq_true rfl, Nat.le_of_ble_eq_true rfl⟩ ⟨Nat.le_of_ble_eq_true rfl, Nat.le_of_ble_eq_true rfl⟩ ?_
  rintro r1 κ1 ⟨e1, hC1⟩
  refine n_aload_n C 2 dL_law_1181 rfl ?_
  refine n_aload_n C 0 dL_law_1182 rfl ?_
  refine n_iload_n C 3 dL_law_1183 rfl ?_
  refine n_iconst C (v := (nI 1)) dL_law_1184 (by decide) ?_
  refine n_iaddN C dL_law_1185 ?_
  refine l_sld C hX hbl hbA (i + 1) (by omega) (by omega) dL_law_1186 ?_
  refine l_callM (As := [.int (xs (i + 1))]) (rest := [.int r1]) C vl_135 (c_trace hR e26 h26) rRcv rfl (Nat.le_of_ble_eq_true rfl) dL_law_1187 ⟨Nat.le_of_ble_eq_true rfl, Nat.le_of_ble_eq_true rfl⟩ ⟨Nat.le_of_ble_eq_true rfl, Nat.le_of_ble_eq_true rfl⟩ ?_
  rintro r2 σ1 ⟨e2, hE⟩
  refine n_icmp_eq C 1498 dL_law_1190 (by decide) (fun c_ => ?_) (fun c_ => ?_)
  · exact kk σ1 κ1 ((ri_trace hI).eq hE) (hC1.eq hE)
  · exact absurd (e1.trans e2.symm) c_
theorem dL_law_1195 : decode cL_law 1195 = .ok (.aload_n 1, 1) := by decide +kernel
theorem dL_law_1196 : decode cL_law 1196 = .ok (.aload_n 0, 1) := by decide +kernel
theorem dL_law_1197 : decode cL_law 1197 = .ok (.iload_n 3, 1) := by decide +kernel
theorem dL_law_1198 : decode cL_law 1198 = .ok (.iconst 1, 1) := by decide +kernel
theorem dL_law_1199 : decode cL_law 1199 = .ok (.iadd, 1) := by decide +kernel
theorem dL_law_1200 : decode cL_law 1200 = .ok (.iaload, 1) := by decide +kernel
theorem dL_law_1201 : decode cL_law 1201 = .ok (.aload_n 0, 1) := by decide +kernel
theorem dL_law_1202 : decode cL_law 1202 = .ok (.iload_n 3, 1) := by decide +kernel
theorem dL_law_1203 : decode cL_law 1203 = .ok (.iconst 2, 1) := by decide +kernel
theorem dL_law_1204 : decode cL_law 1204 = .ok (.iadd, 1) := by decide +kernel
theorem dL_law_1205 : decode cL_law 1205 = .ok (.iaload, 1) := by decide +kernel
theorem dL_law_1206 : decode cL_law 1206 = .ok (.aload_n 0, 1) := by decide +kernel
theorem dL_law_1207 : decode cL_law 1207 = .ok (.iload_n 3, 1) := by decide +kernel
theorem dL_law_1208 : decode cL_law 1208 = .ok (.iconst 3, 1) := by decide +kernel
theorem dL_law_1209 : decode cL_law 1209 = .ok (.iadd, 1) := by decide +kernel
theorem dL_law_1210 : decode cL_law 1210 = .ok (.iaload, 1) := by decide +kernel
theorem dL_law_1211 : decode cL_law 1211 = .ok (.invokevirtual 136, 3) := by decide +kernel
theorem dL_law_1214 : decode cL_law 1214 = .ok (.aload_n 2, 1) := by decide +kernel
theorem dL_law_1215 : decode cL_law 1215 = .ok (.aload_n 0, 1) := by decide +kernel
theorem dL_law_1216 : decode cL_law 1216 = .ok (.iload_n 3, 1) := by decide +kernel
theorem dL_law_1217 : decode cL_law 1217 = .ok (.iconst 1, 1) := by decide +kernel
theorem dL_law_1218 : decode cL_law 1218 = .ok (.iadd, 1) := by decide +kernel
theorem dL_law_1219 : decode cL_law 1219 = .ok (.iaload, 1) := by decide +kernel
theorem dL_law_1220 : decode cL_law 1220 = .ok (.aload_n 0, 1) := by decide +kernel
theorem dL_law_1221 : decode cL_law 1221 = .ok (.iload_n 3, 1) := by decide +kernel
theorem dL_law_1222 : decode cL_law 1222 = .ok (.iconst 2, 1) := by decide +kernel
theorem dL_law_1223 : decode cL_law 1223 = .ok (.iadd, 1) := by decide +kernel
theorem dL_law_1224 : decode cL_law 1224 = .ok (.iaload, 1) := by decide +kernel
theorem dL_law_1225 : decode cL_law 1225 = .ok (.aload_n 0, 1) := by decide +kernel
theorem dL_law_1226 : decode cL_law 1226 = .ok (.iload_n 3, 1) := by decide +kernel
theorem dL_law_1227 : decode cL_law 1227 = .ok (.iconst 3, 1) := by decide +kernel
theorem dL_law_1228 : decode cL_law 1228 = .ok (.iadd, 1) := by decide +kernel
theorem dL_law_1229 : decode cL_law 1229 = .ok (.iaload, 1) := by decide +kernel
theorem dL_law_1230 : decode cL_law 1230 = .ok (.invokevirtual 139, 3) := by decide +kernel
theorem dL_law_1233 : decode cL_law 1233 = .ok (.if_icmp .eq 265, 3) := by decide +kernel
theorem dL_law_1236 : decode cL_law 1236 = .ok (.iconst 0, 1) := by decide +kernel
theorem dL_law_1237 : decode cL_law 1237 = .ok (.ireturn, 1) := by decide +kernel
theorem vl_136 : VW R_law 136 yX11_sheet cX11_sheet 4 (some .int) 3 := ⟨gw 914 (by decide +kernel) rfl, gw 911 (by decide +kernel) rfl, gw 912 (by decide +kernel) rfl, gw 913 (by decide +kernel) rfl, gw 83 (by decide +kernel) rfl, by decide +kernel, by decide⟩
theorem vl_139 : VW R_law 139 yX12_sheet cX12_sheet 5 (some .int) 3 := ⟨gw 1376 (by decide +kernel) rfl, gw 1373 (by decide +kernel) rfl, gw 1374 (by decide +kernel) rfl, gw 1375 (by decide +kernel) rfl, gw 96 (by decide +kernel) rfl, by decide +kernel, by decide⟩
set_option maxHeartbeats 2000000 in
set_option maxRecDepth 20000 in
theorem lc_sheet {p : Program} {l : Launch} {e : Env} {s : State} {m : MethodId} {below : List Frame} {meth : Method} {c : Code} {Q : State → Prop} {D : va_G} {A : Nat → Prop} {cI cG cW : ClassId} {o : Nat} {qR q : Nat → Nat} {O : Ou} {b Ln : Nat} {xs : Nat → Int32} (C : Cx p s m #[Value.ref b] meth c code 4 R_law ret D (tyL cI cG cW) A) (hO : OUT O A s s.heap) (hX : va_X b Ln xs s s.heap) (hbl : b < s.heap.size) (hbA : ¬ A b) (hL : Ln ≤ 3072) {i M : Nat} (hi : i + 6 ≤ Ln) {V row kept tried bf fd pk bo so sh mv tr : Nat → Int32} {S : Nat → Int32} {X : Nat → Nat → Int32} {P : Nat → Nat} (hI : RI M (sR V row kept tried bf fd pk bo so sh mv tr)) (hC : CR (S, X, P) (sR V row kept tried bf fd pk bo so sh mv tr)) (hM : M < 3000) (kk : ∀ (σ' : RS) (κ' : CS), RI (M + 1) σ' → CR κ' σ' → JN p l e room_1 s m #[Value.ref b] below meth c Q 4 D A 103 2575 (Wl cI cG cW o qR q) (σ', κ') 1498 [(0, .ref b), (1, .ref (q 0)), (2, .ref o), (3, .int (nI i))] []) : JN p l e room_1 s m #[Value.ref b] below meth c Q 4 D A 103 2575 (Wl cI cG cW o qR q) (sR V row kept tried bf fd pk bo so sh mv tr, (S, X, P)) 1195 [(0, .ref b), (1, .ref (q 0)), (2, .ref o), (3, .int (nI i))] [] := by
  obtain ⟨⟨nc, np, nw, d, nt, nq, hR⟩, ⟨im, him1, eV5, eV4, hMk⟩, ⟨hV15, hV16, hV18⟩, hSh, ⟨tn, h26, e26⟩⟩ := id hI
  have him3 : im ≤ 3000 := by omega
  refine n_aload_n C 1 dL_law_1195 rfl ?_
  refine n_aload_n C 0 dL_law_1196 rfl ?_
  refine n_iload_n C 3 dL_law_1197 rfl ?_
  refine n_iconst C (v := (nI 1)) dL_law_1198 (by decide) ?_
  refine n_iaddN C dL_law_1199 ?_
  refine l_sld C hX hbl hbA (i + 1) (by omega) (by omega) dL_law_1200 ?_
  refine n_aload_n C 0 dL_law_1201 rfl ?_
  refine n_iload_n C 3 dL_law_1202 rfl ?_
  refine n_iconst C (v := (nI 2)) dL_law_1203 (by decide) ?_
  refine n_iaddN C dL_law_1204 ?_
  refine l_sld C hX hbl hbA (i + 2) (by omega) (by omega) dL_law_1205 ?_
  refine n_aload_n C 0 dL_law_1206 rfl ?_
  refine n_iload_n C 3 dL_law_1207 rfl ?_
  refine n_iconst C (v := (nI 3)) dL_law_1208 (by decide) ?_
  refine n_iaddN C dL_law_1209 ?_
  refine l_sld C hX hbl hbA (i + 3) (by omega) (by omega) dL_law_1210 ?_
  refine l_callC (As := [.int (xs (i + 1)), .int (xs (i + 2)), .int (xs (i + 3))]) (rest := []) C hO vl_136 ((k_sheet hR hC hSh).o) ⟨0, 11, _, _, rfl, rfl, rfl⟩ rfl (Nat.le_of_ble_eq_true rfl) dL_law_1211 ⟨Nat.le_of_ble_eq_true rfl, Nat.le_of_ble_eq_true rfl⟩ ⟨Nat.le_of_ble_eq_true rfl, Nat.le_of_ble_eq_true rfl⟩ ?_
  rintro r1 κ1 ⟨e1, hC1⟩
  refine n_aload_n C 2 dL_law_1214 rfl ?_
  refine n_aload_n C 0 dL_law_1215 rfl ?_
  refine n_iload_n C 3 dL_law_1216 rfl ?_
  refine n_iconst C (v := (nI 1)) dL_law_1217 (by decide) ?_
  refine n_iaddN C dL_law_1218 ?_
  refine l_sld C hX hbl hbA (i + 1) (by omega) (by omega) dL_law_1219 ?_
  refine n_aload_n C 0 dL_law_1220 rfl ?_
  refine n_iload_n C 3 dL_law_1221 rfl ?_
  refine n_iconst C (v := (nI 2)) dL_law_1222 (by decide) ?_
  refine n_iaddN C dL_law_1223 ?_
  refine l_sld C hX hbl hbA (i + 2) (by omega) (by omega) dL_law_1224 ?_
  refine n_aload_n C 0 dL_law_1225 rfl ?_
  refine n_iload_n C 3 dL_law_1226 rfl ?_
  refine n_iconst C (v := (nI 3)) dL_law_1227 (by decide) ?_
  refine n_iaddN C dL_law_1228 ?_
  refine l_sld C hX hbl hbA (i + 3) (by omega) (by omega) dL_law_1229 ?_
  refine l_callM (As := [.int (xs (i + 1)), .int (xs (i + 2)), .int (xs (i + 3))]) (rest := [.int r1]) C vl_139 (c_sheet hR) rRcv rfl (Nat.le_of_ble_eq_true rfl) dL_law_1230 ⟨Nat.le_of_ble_eq_true rfl, Nat.le_of_ble_eq_true rfl⟩ ⟨Nat.le_of_ble_eq_true rfl, Nat.le_of_ble_eq_true rfl⟩ ?_
  rintro r2 σ1 ⟨e2, hE⟩
  refine n_icmp_eq C 1498 dL_law_1233 (by decide) (fun c_ => ?_) (fun c_ => ?_)
  · exact kk σ1 κ1 ((ri_sheet hI).eq hE) (hC1.eq hE)
  · exact absurd (e1.trans e2.symm) c_

/-! the law's cases -/
section LAWC
variable {p : Program} {l : Launch} {e : Env} {R : Room} {s : State} {m : MethodId} {args : Array Value} {below : List Frame} {meth : Method} {c : Code} {Q : State → Prop}
variable {E : tx_En} {cells slots b L od x m9 w i : Nat} {xs : Nat → Int32}
theorem law_c18 (C : Cx E 10 cL_law 10 p s m args meth c) (hT : TX E s) (hEA : ∀ q, q ∈ E.2.2.2.2 → s.heap.size ≤ q) (hfl : l.stackTraces = false) (hR : 19 ≤ R.frames ∧ 1400 ≤ R.locals) (hcs : cells + 1 ≤ R.cells ∧ slots + 6 ≤ R.slots) (hi : i + 5 ≤ L) (hLL : L ≤ 2560) (hk : Lh p l e R s m args below meth c Q E b L xs x m9 w od (i + 5) (cells + 1) (slots + 6)) : Lp p l e R s m args below meth c Q E b L xs x m9 w od 1053 i cells slots := by
  intro I J P H locs ls y6 y7 y8 y9 hW hv hL
  have hE := C.2.2.2.2.2.2.2
  have hb := hv.2.2.1
  obtain ⟨hx8, hm9, hwb, hSo, hNo⟩ := hv.sh
  obtain ⟨k, I1, J1, P1, v, I2, J2, hw, hb1, hc, h8, hr, hv2⟩ := op_tax hE hfl hv (xs (i + 1))
  have hb2 := hv2.2.2.1
  refine segB_ok (M := ML_law) C hW hb ?_ hL
  simp only [g_L_law_1053, g_L_law_1054, g_L_law_1055, g_L_law_1057, g_L_law_1058, g_L_law_1059, g_L_law_1060, nIp, nIa2, nIa3, nIa4, nI_clamp (show i + 1 < 2 ^ 31 by omega), nI_clamp (show i + 2 < 2 ^ 31 by omega), nI_clamp (show i + 3 < 2 ^ 31 by omega), nI_clamp (show i + 4 < 2 ^ 31 by omega), vpn (show i + 1 < L by omega) (show L < 2 ^ 31 by omega), vpn (show i + 2 < L by omega) (show L < 2 ^ 31 by omega), vpn (show i + 3 < L by omega) (show L < 2 ^ 31 by omega), vpn (show i + 4 < L by omega) (show L < 2 ^ 31 by omega), S2_b, N2_b, hb, true_and, and_true, rf_s, not_true_eq_false, not_false_eq_true, true_implies, false_implies, kl_i, kl_n, kl_l, kl_r, Option.toList, List.cons_append, List.nil_append, if_true, if_false, u2s, lt00, lt01, lt02, lt03, le10, le20, le30, ne10, ne20, ne30, eq00]
  refine gs_L_law_1061 ?_
  rintro - ls1 hL1
  refine sg_cWL (M := ML_tax) (As := [.ref x, .int (xs (i + 1)), .ref w]) (pc2 := 1064) rfl C hT hEA hL1 hR hcs dL_law_1061 lk_tax ML_tax_ok rfl rfl hw hW (fun H1 locs1 hW1 => ?_)
  refine segB_ok (M := ML_law) C hW1 hb1 ?_ hL1
  simp only [g_L_law_1064, g_L_law_1066, g_L_law_1067, g_L_law_1068, g_L_law_1070, g_L_law_1071, g_L_law_1072, nIp, nIa2, nIa3, nIa4, nI_clamp (show i + 1 < 2 ^ 31 by omega), nI_clamp (show i + 2 < 2 ^ 31 by omega), nI_clamp (show i + 3 < 2 ^ 31 by omega), nI_clamp (show i + 4 < 2 ^ 31 by omega), vpn (show i + 1 < L by omega) (show L < 2 ^ 31 by omega), vpn (show i + 2 < L by omega) (show L < 2 ^ 31 by omega), vpn (show i + 3 < L by omega) (show L < 2 ^ 31 by omega), vpn (show i + 4 < L by omega) (show L < 2 ^ 31 by omega), S2_b, N2_b, hb1, true_and, and_true, rf_s, not_true_eq_false, not_false_eq_true, true_implies, false_implies, kl_i, kl_n, kl_l, kl_r, Option.toList, List.cons_append, List.nil_append, if_true, if_false, u2s, lt00, lt01, lt02, lt03, le10, le20, le30, ne10, ne20, ne30, eq00]
  refine gs_L_law_1073 ?_
  rintro - ls2 hL2
  refine sg_cL (M := MX9_tax) (As := [.int (xs (i + 1))]) (b' := m9) (pc2 := 1076) rfl (some (.long v)) C hL2 (d := 11) ⟨by omega, by omega⟩ ⟨by omega, by omega⟩ dL_law_1073 rfl rfl rfl hm9 (by rw [hm9]; decide) (Nat.zero_le _) rfl hc hW1 (fun H2 locs2 hW2 => ?_)
  refine segB_ok (M := ML_law) C hW2 hb2 ?_ hL2
  simp only [g_L_law_1076, g_L_law_1078, S2_b, true_and, and_true, rf_s, not_true_eq_false, not_false_eq_true, true_implies, false_implies, kl_i, kl_n, kl_l, kl_r, Option.toList, List.cons_append, List.nil_append, if_true, if_false, u2s, lt00, lt01, lt02, lt03, le10, le20, le30, ne10, ne20, ne30, eq00]
  refine gs_L_law_1079 ?_
  rintro - ls3 hL3
  refine sg_cL (M := MX9_thrown) (As := []) (b' := m9) (pc2 := 1082) rfl (some (.int k)) C hL3 (d := 0) ⟨by omega, by omega⟩ ⟨by omega, by omega⟩ dL_law_1079 rfl rfl rfl hm9 (by rw [hm9]; decide) (Nat.zero_le _) rfl (hv2.thr h8) hW2 (fun H3 locs3 hW3 => ?_)
  have ek : (k = k) = True := eq_self _
  refine segB_ok (M := ML_law) C hW3 hb2 ?_ hL3
  by_cases hk0 : k = 0
  · have hout : J2 w 0 = v := hr hk0
    have ev : (v = v) = True := eq_self _
    simp only [g_L_law_1082, g_L_law_1084, g_L_law_1087, g_L_law_1089, g_L_law_1091, g_L_law_1094, g_L_law_1095, g_L_law_1096, g_L_law_1097, g_L_law_1099, g_L_law_1100, g_L_law_1103, g_L_law_1105, g_L_law_2226, ek, hk0, S2_o hwb, N2_o hwb, hSo, hNo, eq_true vi01, cl_0, hout, lc_eq, ev, eq_self, true_and, and_true, rf_s, not_true_eq_false, not_false_eq_true, true_implies, false_implies, kl_i, kl_n, kl_l, kl_r, Option.toList, List.cons_append, List.nil_append, if_true, if_false, u2s, lt00, lt01, lt02, lt03, le10, le20, le30, ne10, ne20, ne30, eq00]
    refine g_L_law_2229.mpr ?_
    simp only [g_L_law_28, g_L_law_30, nIa5, true_and, and_true, rf_s, not_true_eq_false, not_false_eq_true, true_implies, false_implies, kl_i, kl_n, kl_l, kl_r, Option.toList, List.cons_append, List.nil_append, if_true, if_false, u2s, lt00, lt01, lt02, lt03, le10, le20, le30, ne10, ne20, ne30, eq00]
    refine gs_L_law_31 ?_
    rintro - ls4 hL4
    exact hk _ _ _ _ _ _ _ _ _ _ hW3 hv2 hL4
  · simp only [g_L_law_1082, g_L_law_1084, g_L_law_1087, g_L_law_1089, g_L_law_1091, g_L_law_1094, g_L_law_1095, g_L_law_1096, g_L_law_1097, g_L_law_1099, g_L_law_1100, g_L_law_1103, g_L_law_1105, g_L_law_2226, ek, hk0, true_and, and_true, rf_s, not_true_eq_false, not_false_eq_true, true_implies, false_implies, kl_i, kl_n, kl_l, kl_r, Option.toList, List.cons_append, List.nil_append, if_true, if_false, u2s, lt00, lt01, lt02, lt03, le10, le20, le30, ne10, ne20, ne30, eq00]
    refine g_L_law_2229.mpr ?_
    simp only [g_L_law_28, g_L_law_30, nIa5, true_and, and_true, rf_s, not_true_eq_false, not_false_eq_true, true_implies, false_implies, kl_i, kl_n, kl_l, kl_r, Option.toList, List.cons_append, List.nil_append, if_true, if_false, u2s, lt00, lt01, lt02, lt03, le10, le20, le30, ne10, ne20, ne30, eq00]
    refine gs_L_law_31 ?_
    rintro - ls4 hL4
    exact hk _ _ _ _ _ _ _ _ _ _ hW3 hv2 hL4
theorem law_c19 (C : Cx E 10 cL_law 10 p s m args meth c) (hT : TX E s) (hEA : ∀ q, q ∈ E.2.2.2.2 → s.heap.size ≤ q) (hfl : l.stackTraces = false) (hR : 19 ≤ R.frames ∧ 1400 ≤ R.locals) (hcs : cells + 1 ≤ R.cells ∧ slots + 6 ≤ R.slots) (hi : i + 5 ≤ L) (hLL : L ≤ 2560) (hk : Lh p l e R s m args below meth c Q E b L xs x m9 w od (i + 5) (cells + 1) (slots + 6)) : Lp p l e R s m args below meth c Q E b L xs x m9 w od 1108 i cells slots := by
  intro I J P H locs ls y6 y7 y8 y9 hW hv hL
  have hE := C.2.2.2.2.2.2.2
  have hb := hv.2.2.1
  obtain ⟨hx8, hm9, hwb, hSo, hNo⟩ := hv.sh
  obtain ⟨k, I1, J1, P1, v, I2, J2, hw, hb1, hc, h8, hr, hv2⟩ := op_taxPart hE hfl hv (xs (i + 1)) (xs (i + 2))
  have hb2 := hv2.2.2.1
  refine segB_ok (M := ML_law) C hW hb ?_ hL
  simp only [g_L_law_1108, g_L_law_1109, g_L_law_1110, g_L_law_1112, g_L_law_1113, g_L_law_1114, g_L_law_1115, g_L_law_1116, g_L_law_1118, g_L_law_1119, g_L_law_1120, g_L_law_1121, nIp, nIa2, nIa3, nIa4, nI_clamp (show i + 1 < 2 ^ 31 by omega), nI_clamp (show i + 2 < 2 ^ 31 by omega), nI_clamp (show i + 3 < 2 ^ 31 by omega), nI_clamp (show i + 4 < 2 ^ 31 by omega), vpn (show i + 1 < L by omega) (show L < 2 ^ 31 by omega), vpn (show i + 2 < L by omega) (show L < 2 ^ 31 by omega), vpn (show i + 3 < L by omega) (show L < 2 ^ 31 by omega), vpn (show i + 4 < L by omega) (show L < 2 ^ 31 by omega), S2_b, N2_b, hb, true_and, and_true, rf_s, not_true_eq_false, not_false_eq_true, true_implies, false_implies, kl_i, kl_n, kl_l, kl_r, Option.toList, List.cons_append, List.nil_append, if_true, if_false, u2s, lt00, lt01, lt02, lt03, le10, le20, le30, ne10, ne20, ne30, eq00]
  refine gs_L_law_1122 ?_
  rintro - ls1 hL1
  refine sg_cWL (M := ML_taxPart) (As := [.ref x, .int (xs (i + 1)), .int (xs (i + 2)), .ref w]) (pc2 := 1125) rfl C hT hEA hL1 hR hcs dL_law_1122 lk_taxPart ML_taxPart_ok rfl rfl hw hW (fun H1 locs1 hW1 => ?_)
  refine segB_ok (M := ML_law) C hW1 hb1 ?_ hL1
  simp only [g_L_law_1125, g_L_law_1127, g_L_law_1128, g_L_law_1129, g_L_law_1131, g_L_law_1132, g_L_law_1133, g_L_law_1134, g_L_law_1135, g_L_law_1137, g_L_law_1138, g_L_law_1139, nIp, nIa2, nIa3, nIa4, nI_clamp (show i + 1 < 2 ^ 31 by omega), nI_clamp (show i + 2 < 2 ^ 31 by omega), nI_clamp (show i + 3 < 2 ^ 31 by omega), nI_clamp (show i + 4 < 2 ^ 31 by omega), vpn (show i + 1 < L by omega) (show L < 2 ^ 31 by omega), vpn (show i + 2 < L by omega) (show L < 2 ^ 31 by omega), vpn (show i + 3 < L by omega) (show L < 2 ^ 31 by omega), vpn (show i + 4 < L by omega) (show L < 2 ^ 31 by omega), S2_b, N2_b, hb1, true_and, and_true, rf_s, not_true_eq_false, not_false_eq_true, true_implies, false_implies, kl_i, kl_n, kl_l, kl_r, Option.toList, List.cons_append, List.nil_append, if_true, if_false, u2s, lt00, lt01, lt02, lt03, le10, le20, le30, ne10, ne20, ne30, eq00]
  refine gs_L_law_1140 ?_
  rintro - ls2 hL2
  refine sg_cL (M := MX9_taxPart) (As := [.int (xs (i + 1)), .int (xs (i + 2))]) (b' := m9) (pc2 := 1143) rfl (some (.long v)) C hL2 (d := 11) ⟨by omega, by omega⟩ ⟨by omega, by omega⟩ dL_law_1140 rfl rfl rfl hm9 (by rw [hm9]; decide) (Nat.zero_le _) rfl hc hW1 (fun H2 locs2 hW2 => ?_)
  refine segB_ok (M := ML_law) C hW2 hb2 ?_ hL2
  simp only [g_L_law_1143, g_L_law_1145, S2_b, true_and, and_true, rf_s, not_true_eq_false, not_false_eq_true, true_implies, false_implies, kl_i, kl_n, kl_l, kl_r, Option.toList, List.cons_append, List.nil_append, if_true, if_false, u2s, lt00, lt01, lt02, lt03, le10, le20, le30, ne10, ne20, ne30, eq00]
  refine gs_L_law_1146 ?_
  rintro - ls3 hL3
  refine sg_cL (M := MX9_thrown) (As := []) (b' := m9) (pc2 := 1149) rfl (some (.int k)) C hL3 (d := 0) ⟨by omega, by omega⟩ ⟨by omega, by omega⟩ dL_law_1146 rfl rfl rfl hm9 (by rw [hm9]; decide) (Nat.zero_le _) rfl (hv2.thr h8) hW2 (fun H3 locs3 hW3 => ?_)
  have ek : (k = k) = True := eq_self _
  refine segB_ok (M := ML_law) C hW3 hb2 ?_ hL3
  by_cases hk0 : k = 0
  · have hout : J2 w 0 = v := hr hk0
    have ev : (v = v) = True := eq_self _
    simp only [g_L_law_1149, g_L_law_1151, g_L_law_1154, g_L_law_1156, g_L_law_1158, g_L_law_1161, g_L_law_1162, g_L_law_1163, g_L_law_1164, g_L_law_1166, g_L_law_1167, g_L_law_1170, g_L_law_1172, g_L_law_2226, ek, hk0, S2_o hwb, N2_o hwb, hSo, hNo, eq_true vi01, cl_0, hout, lc_eq, ev, eq_self, true_and, and_true, rf_s, not_true_eq_false, not_false_eq_true, true_implies, false_implies, kl_i, kl_n, kl_l, kl_r, Option.toList, List.cons_append, List.nil_append, if_true, if_false, u2s, lt00, lt01, lt02, lt03, le10, le20, le30, ne10, ne20, ne30, eq00]
    refine g_L_law_2229.mpr ?_
    simp only [g_L_law_28, g_L_law_30, nIa5, true_and, and_true, rf_s, not_true_eq_false, not_false_eq_true, true_implies, false_implies, kl_i, kl_n, kl_l, kl_r, Option.toList, List.cons_append, List.nil_append, if_true, if_false, u2s, lt00, lt01, lt02, lt03, le10, le20, le30, ne10, ne20, ne30, eq00]
    refine gs_L_law_31 ?_
    rintro - ls4 hL4
    exact hk _ _ _ _ _ _ _ _ _ _ hW3 hv2 hL4
  · simp only [g_L_law_1149, g_L_law_1151, g_L_law_1154, g_L_law_1156, g_L_law_1158, g_L_law_1161, g_L_law_1162, g_L_law_1163, g_L_law_1164, g_L_law_1166, g_L_law_1167, g_L_law_1170, g_L_law_1172, g_L_law_2226, ek, hk0, true_and, and_true, rf_s, not_true_eq_false, not_false_eq_true, true_implies, false_implies, kl_i, kl_n, kl_l, kl_r, Option.toList, List.cons_append, List.nil_append, if_true, if_false, u2s, lt00, lt01, lt02, lt03, le10, le20, le30, ne10, ne20, ne30, eq00]
    refine g_L_law_2229.mpr ?_
    simp only [g_L_law_28, g_L_law_30, nIa5, true_and, and_true, rf_s, not_true_eq_false, not_false_eq_true, true_implies, false_implies, kl_i, kl_n, kl_l, kl_r, Option.toList, List.cons_append, List.nil_append, if_true, if_false, u2s, lt00, lt01, lt02, lt03, le10, le20, le30, ne10, ne20, ne30, eq00]
    refine gs_L_law_31 ?_
    rintro - ls4 hL4
    exact hk _ _ _ _ _ _ _ _ _ _ hW3 hv2 hL4
theorem law_c20 (C : Cx E 10 cL_law 10 p s m args meth c) (hT : TX E s) (hEA : ∀ q, q ∈ E.2.2.2.2 → s.heap.size ≤ q) (hfl : l.stackTraces = false) (hR : 19 ≤ R.frames ∧ 1400 ≤ R.locals) (hcs : cells + 1 ≤ R.cells ∧ slots + 6 ≤ R.slots) (hi : i + 5 ≤ L) (hLL : L ≤ 2560) (hk : Lh p l e R s m args below meth c Q E b L xs x m9 w od (i + 5) (cells + 1) (slots + 6)) : Lp p l e R s m args below meth c Q E b L xs x m9 w od 1175 i cells slots := by
  intro I J P H locs ls y6 y7 y8 y9 hW hv hL
  have hE := C.2.2.2.2.2.2.2
  have hb := hv.2.2.1
  obtain ⟨hx8, hm9, hwb, hSo, hNo⟩ := hv.sh
  obtain ⟨k, I1, J1, P1, v, I2, J2, hw, hb1, hc, h8, hr, hv2⟩ := op_creditPart hE hfl hv (xs (i + 1)) (xs (i + 2)) (xs (i + 3))
  have hb2 := hv2.2.2.1
  refine segB_ok (M := ML_law) C hW hb ?_ hL
  simp only [g_L_law_1175, g_L_law_1176, g_L_law_1177, g_L_law_1179, g_L_law_1180, g_L_law_1181, g_L_law_1182, g_L_law_1183, g_L_law_1185, g_L_law_1186, g_L_law_1187, g_L_law_1188, g_L_law_1189, g_L_law_1191, g_L_law_1192, g_L_law_1193, g_L_law_1194, nIp, nIa2, nIa3, nIa4, nI_clamp (show i + 1 < 2 ^ 31 by omega), nI_clamp (show i + 2 < 2 ^ 31 by omega), nI_clamp (show i + 3 < 2 ^ 31 by omega), nI_clamp (show i + 4 < 2 ^ 31 by omega), vpn (show i + 1 < L by omega) (show L < 2 ^ 31 by omega), vpn (show i + 2 < L by omega) (show L < 2 ^ 31 by omega), vpn (show i + 3 < L by omega) (show L < 2 ^ 31 by omega), vpn (show i + 4 < L by omega) (show L < 2 ^ 31 by omega), S2_b, N2_b, hb, true_and, and_true, rf_s, not_true_eq_false, not_false_eq_true, true_implies, false_implies, kl_i, kl_n, kl_l, kl_r, Option.toList, List.cons_append, List.nil_append, if_true, if_false, u2s, lt00, lt01, lt02, lt03, le10, le20, le30, ne10, ne20, ne30, eq00]
  refine gs_L_law_1195 ?_
  rintro - ls1 hL1
  refine sg_cWL (M := ML_creditPart) (As := [.ref x, .int (xs (i + 1)), .int (xs (i + 2)), .int (xs (i + 3)), .ref w]) (pc2 := 1198) rfl C hT hEA hL1 hR hcs dL_law_1195 lk_creditPart ML_creditPart_ok rfl rfl hw hW (fun H1 locs1 hW1 => ?_)
  refine segB_ok (M := ML_law) C hW1 hb1 ?_ hL1
  simp only [g_L_law_1198, g_L_law_1200, g_L_law_1201, g_L_law_1202, g_L_law_1204, g_L_law_1205, g_L_law_1206, g_L_law_1207, g_L_law_1208, g_L_law_1210, g_L_law_1211, g_L_law_1212, g_L_law_1213, g_L_law_1214, g_L_law_1216, g_L_law_1217, g_L_law_1218, nIp, nIa2, nIa3, nIa4, nI_clamp (show i + 1 < 2 ^ 31 by omega), nI_clamp (show i + 2 < 2 ^ 31 by omega), nI_clamp (show i + 3 < 2 ^ 31 by omega), nI_clamp (show i + 4 < 2 ^ 31 by omega), vpn (show i + 1 < L by omega) (show L < 2 ^ 31 by omega), vpn (show i + 2 < L by omega) (show L < 2 ^ 31 by omega), vpn (show i + 3 < L by omega) (show L < 2 ^ 31 by omega), vpn (show i + 4 < L by omega) (show L < 2 ^ 31 by omega), S2_b, N2_b, hb1, true_and, and_true, rf_s, not_true_eq_false, not_false_eq_true, true_implies, false_implies, kl_i, kl_n, kl_l, kl_r, Option.toList, List.cons_append, List.nil_append, if_true, if_false, u2s, lt00, lt01, lt02, lt03, le10, le20, le30, ne10, ne20, ne30, eq00]
  refine gs_L_law_1219 ?_
  rintro - ls2 hL2
  refine sg_cL (M := MX9_creditPart) (As := [.int (xs (i + 1)), .int (xs (i + 2)), .int (xs (i + 3))]) (b' := m9) (pc2 := 1222) rfl (some (.long v)) C hL2 (d := 11) ⟨by omega, by omega⟩ ⟨by omega, by omega⟩ dL_law_1219 rfl rfl rfl hm9 (by rw [hm9]; decide) (Nat.zero_le _) rfl hc hW1 (fun H2 locs2 hW2 => ?_)
  refine segB_ok (M := ML_law) C hW2 hb2 ?_ hL2
  simp only [g_L_law_1222, g_L_law_1224, S2_b, true_and, and_true, rf_s, not_true_eq_false, not_false_eq_true, true_implies, false_implies, kl_i, kl_n, kl_l, kl_r, Option.toList, List.cons_append, List.nil_append, if_true, if_false, u2s, lt00, lt01, lt02, lt03, le10, le20, le30, ne10, ne20, ne30, eq00]
  refine gs_L_law_1225 ?_
  rintro - ls3 hL3
  refine sg_cL (M := MX9_thrown) (As := []) (b' := m9) (pc2 := 1228) rfl (some (.int k)) C hL3 (d := 0) ⟨by omega, by omega⟩ ⟨by omega, by omega⟩ dL_law_1225 rfl rfl rfl hm9 (by rw [hm9]; decide) (Nat.zero_le _) rfl (hv2.thr h8) hW2 (fun H3 locs3 hW3 => ?_)
  have ek : (k = k) = True := eq_self _
  refine segB_ok (M := ML_law) C hW3 hb2 ?_ hL3
  by_cases hk0 : k = 0
  · have hout : J2 w 0 = v := hr hk0
    have ev : (v = v) = True := eq_self _
    simp only [g_L_law_1228, g_L_law_1230, g_L_law_1233, g_L_law_1235, g_L_law_1237, g_L_law_1240, g_L_law_1241, g_L_law_1242, g_L_law_1243, g_L_law_1245, g_L_law_1246, g_L_law_1249, g_L_law_1251, g_L_law_2226, ek, hk0, S2_o hwb, N2_o hwb, hSo, hNo, eq_true vi01, cl_0, hout, lc_eq, ev, eq_self, true_and, and_true, rf_s, not_true_eq_false, not_false_eq_true, true_implies, false_implies, kl_i, kl_n, kl_l, kl_r, Option.toList, List.cons_append, List.nil_append, if_true, if_false, u2s, lt00, lt01, lt02, lt03, le10, le20, le30, ne10, ne20, ne30, eq00]
    refine g_L_law_2229.mpr ?_
    simp only [g_L_law_28, g_L_law_30, nIa5, true_and, and_true, rf_s, not_true_eq_false, not_false_eq_true, true_implies, false_implies, kl_i, kl_n, kl_l, kl_r, Option.toList, List.cons_append, List.nil_append, if_true, if_false, u2s, lt00, lt01, lt02, lt03, le10, le20, le30, ne10, ne20, ne30, eq00]
    refine gs_L_law_31 ?_
    rintro - ls4 hL4
    exact hk _ _ _ _ _ _ _ _ _ _ hW3 hv2 hL4
  · simp only [g_L_law_1228, g_L_law_1230, g_L_law_1233, g_L_law_1235, g_L_law_1237, g_L_law_1240, g_L_law_1241, g_L_law_1242, g_L_law_1243, g_L_law_1245, g_L_law_1246, g_L_law_1249, g_L_law_1251, g_L_law_2226, ek, hk0, true_and, and_true, rf_s, not_true_eq_false, not_false_eq_true, true_implies, false_implies, kl_i, kl_n, kl_l, kl_r, Option.toList, List.cons_append, List.nil_append, if_true, if_false, u2s, lt00, lt01, lt02, lt03, le10, le20, le30, ne10, ne20, ne30, eq00]
    refine g_L_law_2229.mpr ?_
    simp only [g_L_law_28, g_L_law_30, nIa5, true_and, and_true, rf_s, not_true_eq_false, not_false_eq_true, true_implies, false_implies, kl_i, kl_n, kl_l, kl_r, Option.toList, List.cons_append, List.nil_append, if_true, if_false, u2s, lt00, lt01, lt02, lt03, le10, le20, le30, ne10, ne20, ne30, eq00]
    refine gs_L_law_31 ?_
    rintro - ls4 hL4
    exact hk _ _ _ _ _ _ _ _ _ _ hW3 hv2 hL4
theorem law_c21 (C : Cx E 10 cL_law 10 p s m args meth c) (hT : TX E s) (hEA : ∀ q, q ∈ E.2.2.2.2 → s.heap.size ≤ q) (hfl : l.stackTraces = false) (hR : 19 ≤ R.frames ∧ 1400 ≤ R.locals) (hcs : cells + 1 ≤ R.cells ∧ slots + 6 ≤ R.slots) (hi : i + 5 ≤ L) (hLL : L ≤ 2560) (hk : Lh p l e R s m args below meth c Q E b L xs x m9 w od (i + 5) (cells + 1) (slots + 6)) : Lp p l e R s m args below meth c Q E b L xs x m9 w od 1254 i cells slots := by
  intro I J P H locs ls y6 y7 y8 y9 hW hv hL
  have hE := C.2.2.2.2.2.2.2
  have hb := hv.2.2.1
  obtain ⟨hx8, hm9, hwb, hSo, hNo⟩ := hv.sh
  obtain ⟨k, I1, J1, P1, v, I2, J2, hw, hb1, hc, h8, hr, hv2⟩ := op_carried hE hfl hv (xs (i + 1)) (xs (i + 2))
  have hb2 := hv2.2.2.1
  refine segB_ok (M := ML_law) C hW hb ?_ hL
  simp only [g_L_law_1254, g_L_law_1255, g_L_law_1256, g_L_law_1258, g_L_law_1259, g_L_law_1260, g_L_law_1261, g_L_law_1262, g_L_law_1264, g_L_law_1265, g_L_law_1266, g_L_law_1267, nIp, nIa2, nIa3, nIa4, nI_clamp (show i + 1 < 2 ^ 31 by omega), nI_clamp (show i + 2 < 2 ^ 31 by omega), nI_clamp (show i + 3 < 2 ^ 31 by omega), nI_clamp (show i + 4 < 2 ^ 31 by omega), vpn (show i + 1 < L by omega) (show L < 2 ^ 31 by omega), vpn (show i + 2 < L by omega) (show L < 2 ^ 31 by omega), vpn (show i + 3 < L by omega) (show L < 2 ^ 31 by omega), vpn (show i + 4 < L by omega) (show L < 2 ^ 31 by omega), S2_b, N2_b, hb, true_and, and_true, rf_s, not_true_eq_false, not_false_eq_true, true_implies, false_implies, kl_i, kl_n, kl_l, kl_r, Option.toList, List.cons_append, List.nil_append, if_true, if_false, u2s, lt00, lt01, lt02, lt03, le10, le20, le30, ne10, ne20, ne30, eq00]
  refine gs_L_law_1268 ?_
  rintro - ls1 hL1
  refine sg_cWL (M := ML_carried) (As := [.ref x, .int (xs (i + 1)), .int (xs (i + 2)), .ref w]) (pc2 := 1271) rfl C hT hEA hL1 hR hcs dL_law_1268 lk_carried ML_carried_ok rfl rfl hw hW (fun H1 locs1 hW1 => ?_)
  refine segB_ok (M := ML_law) C hW1 hb1 ?_ hL1
  simp only [g_L_law_1271, g_L_law_1273, g_L_law_1274, g_L_law_1275, g_L_law_1277, g_L_law_1278, g_L_law_1279, g_L_law_1280, g_L_law_1281, g_L_law_1283, g_L_law_1284, g_L_law_1285, nIp, nIa2, nIa3, nIa4, nI_clamp (show i + 1 < 2 ^ 31 by omega), nI_clamp (show i + 2 < 2 ^ 31 by omega), nI_clamp (show i + 3 < 2 ^ 31 by omega), nI_clamp (show i + 4 < 2 ^ 31 by omega), vpn (show i + 1 < L by omega) (show L < 2 ^ 31 by omega), vpn (show i + 2 < L by omega) (show L < 2 ^ 31 by omega), vpn (show i + 3 < L by omega) (show L < 2 ^ 31 by omega), vpn (show i + 4 < L by omega) (show L < 2 ^ 31 by omega), S2_b, N2_b, hb1, true_and, and_true, rf_s, not_true_eq_false, not_false_eq_true, true_implies, false_implies, kl_i, kl_n, kl_l, kl_r, Option.toList, List.cons_append, List.nil_append, if_true, if_false, u2s, lt00, lt01, lt02, lt03, le10, le20, le30, ne10, ne20, ne30, eq00]
  refine gs_L_law_1286 ?_
  rintro - ls2 hL2
  refine sg_cL (M := MX9_carried) (As := [.int (xs (i + 1)), .int (xs (i + 2))]) (b' := m9) (pc2 := 1289) rfl (some (.long v)) C hL2 (d := 11) ⟨by omega, by omega⟩ ⟨by omega, by omega⟩ dL_law_1286 rfl rfl rfl hm9 (by rw [hm9]; decide) (Nat.zero_le _) rfl hc hW1 (fun H2 locs2 hW2 => ?_)
  refine segB_ok (M := ML_law) C hW2 hb2 ?_ hL2
  simp only [g_L_law_1289, g_L_law_1291, S2_b, true_and, and_true, rf_s, not_true_eq_false, not_false_eq_true, true_implies, false_implies, kl_i, kl_n, kl_l, kl_r, Option.toList, List.cons_append, List.nil_append, if_true, if_false, u2s, lt00, lt01, lt02, lt03, le10, le20, le30, ne10, ne20, ne30, eq00]
  refine gs_L_law_1292 ?_
  rintro - ls3 hL3
  refine sg_cL (M := MX9_thrown) (As := []) (b' := m9) (pc2 := 1295) rfl (some (.int k)) C hL3 (d := 0) ⟨by omega, by omega⟩ ⟨by omega, by omega⟩ dL_law_1292 rfl rfl rfl hm9 (by rw [hm9]; decide) (Nat.zero_le _) rfl (hv2.thr h8) hW2 (fun H3 locs3 hW3 => ?_)
  have ek : (k = k) = True := eq_self _
  refine segB_ok (M := ML_law) C hW3 hb2 ?_ hL3
  by_cases hk0 : k = 0
  · have hout : J2 w 0 = v := hr hk0
    have ev : (v = v) = True := eq_self _
    simp only [g_L_law_1295, g_L_law_1297, g_L_law_1300, g_L_law_1302, g_L_law_1304, g_L_law_1307, g_L_law_1308, g_L_law_1309, g_L_law_1310, g_L_law_1312, g_L_law_1313, g_L_law_1316, g_L_law_1318, g_L_law_2226, ek, hk0, S2_o hwb, N2_o hwb, hSo, hNo, eq_true vi01, cl_0, hout, lc_eq, ev, eq_self, true_and, and_true, rf_s, not_true_eq_false, not_false_eq_true, true_implies, false_implies, kl_i, kl_n, kl_l, kl_r, Option.toList, List.cons_append, List.nil_append, if_true, if_false, u2s, lt00, lt01, lt02, lt03, le10, le20, le30, ne10, ne20, ne30, eq00]
    refine g_L_law_2229.mpr ?_
    simp only [g_L_law_28, g_L_law_30, nIa5, true_and, and_true, rf_s, not_true_eq_false, not_false_eq_true, true_implies, false_implies, kl_i, kl_n, kl_l, kl_r, Option.toList, List.cons_append, List.nil_append, if_true, if_false, u2s, lt00, lt01, lt02, lt03, le10, le20, le30, ne10, ne20, ne30, eq00]
    refine gs_L_law_31 ?_
    rintro - ls4 hL4
    exact hk _ _ _ _ _ _ _ _ _ _ hW3 hv2 hL4
  · simp only [g_L_law_1295, g_L_law_1297, g_L_law_1300, g_L_law_1302, g_L_law_1304, g_L_law_1307, g_L_law_1308, g_L_law_1309, g_L_law_1310, g_L_law_1312, g_L_law_1313, g_L_law_1316, g_L_law_1318, g_L_law_2226, ek, hk0, true_and, and_true, rf_s, not_true_eq_false, not_false_eq_true, true_implies, false_implies, kl_i, kl_n, kl_l, kl_r, Option.toList, List.cons_append, List.nil_append, if_true, if_false, u2s, lt00, lt01, lt02, lt03, le10, le20, le30, ne10, ne20, ne30, eq00]
    refine g_L_law_2229.mpr ?_
    simp only [g_L_law_28, g_L_law_30, nIa5, true_and, and_true, rf_s, not_true_eq_false, not_false_eq_true, true_implies, false_implies, kl_i, kl_n, kl_l, kl_r, Option.toList, List.cons_append, List.nil_append, if_true, if_false, u2s, lt00, lt01, lt02, lt03, le10, le20, le30, ne10, ne20, ne30, eq00]
    refine gs_L_law_31 ?_
    rintro - ls4 hL4
    exact hk _ _ _ _ _ _ _ _ _ _ hW3 hv2 hL4
theorem law_c22 (C : Cx E 10 cL_law 10 p s m args meth c) (hT : TX E s) (hEA : ∀ q, q ∈ E.2.2.2.2 → s.heap.size ≤ q) (hfl : l.stackTraces = false) (hR : 19 ≤ R.frames ∧ 1400 ≤ R.locals) (hcs : cells + 1 ≤ R.cells ∧ slots + 6 ≤ R.slots) (hi : i + 5 ≤ L) (hLL : L ≤ 2560) (hk : Lh p l e R s m args below meth c Q E b L xs x m9 w od (i + 5) (cells + 1) (slots + 6)) : Lp p l e R s m args below meth c Q E b L xs x m9 w od 1321 i cells slots := by
  intro I J P H locs ls y6 y7 y8 y9 hW hv hL
  have hE := C.2.2.2.2.2.2.2
  have hb := hv.2.2.1
  obtain ⟨hx8, hm9, hwb, hSo, hNo⟩ := hv.sh
  obtain ⟨k, I1, J1, P1, v, I2, J2, hw, hb1, hc, h8, hr, hv2⟩ := op_jointTax hE hfl hv (xs (i + 1))
  have hb2 := hv2.2.2.1
  refine segB_ok (M := ML_law) C hW hb ?_ hL
  simp only [g_L_law_1321, g_L_law_1322, g_L_law_1323, g_L_law_1325, g_L_law_1326, g_L_law_1327, g_L_law_1328, nIp, nIa2, nIa3, nIa4, nI_clamp (show i + 1 < 2 ^ 31 by omega), nI_clamp (show i + 2 < 2 ^ 31 by omega), nI_clamp (show i + 3 < 2 ^ 31 by omega), nI_clamp (show i + 4 < 2 ^ 31 by omega), vpn (show i + 1 < L by omega) (show L < 2 ^ 31 by omega), vpn (show i + 2 < L by omega) (show L < 2 ^ 31 by omega), vpn (show i + 3 < L by omega) (show L < 2 ^ 31 by omega), vpn (show i + 4 < L by omega) (show L < 2 ^ 31 by omega), S2_b, N2_b, hb, true_and, and_true, rf_s, not_true_eq_false, not_false_eq_true, true_implies, false_implies, kl_i, kl_n, kl_l, kl_r, Option.toList, List.cons_append, List.nil_append, if_true, if_false, u2s, lt00, lt01, lt02, lt03, le10, le20, le30, ne10, ne20, ne30, eq00]
  refine gs_L_law_1329 ?_
  rintro - ls1 hL1
  refine sg_cWL (M := ML_jointTax) (As := [.ref x, .int (xs (i + 1)), .ref w]) (pc2 := 1332) rfl C hT hEA hL1 hR hcs dL_law_1329 lk_jointTax ML_jointTax_ok rfl rfl hw hW (fun H1 locs1 hW1 => ?_)
  refine segB_ok (M := ML_law) C hW1 hb1 ?_ hL1
  simp only [g_L_law_1332, g_L_law_1334, g_L_law_1335, g_L_law_1336, g_L_law_1338, g_L_law_1339, g_L_law_1340, nIp, nIa2, nIa3, nIa4, nI_clamp (show i + 1 < 2 ^ 31 by omega), nI_clamp (show i + 2 < 2 ^ 31 by omega), nI_clamp (show i + 3 < 2 ^ 31 by omega), nI_clamp (show i + 4 < 2 ^ 31 by omega), vpn (show i + 1 < L by omega) (show L < 2 ^ 31 by omega), vpn (show i + 2 < L by omega) (show L < 2 ^ 31 by omega), vpn (show i + 3 < L by omega) (show L < 2 ^ 31 by omega), vpn (show i + 4 < L by omega) (show L < 2 ^ 31 by omega), S2_b, N2_b, hb1, true_and, and_true, rf_s, not_true_eq_false, not_false_eq_true, true_implies, false_implies, kl_i, kl_n, kl_l, kl_r, Option.toList, List.cons_append, List.nil_append, if_true, if_false, u2s, lt00, lt01, lt02, lt03, le10, le20, le30, ne10, ne20, ne30, eq00]
  refine gs_L_law_1341 ?_
  rintro - ls2 hL2
  refine sg_cL (M := MX9_jointTax) (As := [.int (xs (i + 1))]) (b' := m9) (pc2 := 1344) rfl (some (.long v)) C hL2 (d := 11) ⟨by omega, by omega⟩ ⟨by omega, by omega⟩ dL_law_1341 rfl rfl rfl hm9 (by rw [hm9]; decide) (Nat.zero_le _) rfl hc hW1 (fun H2 locs2 hW2 => ?_)
  refine segB_ok (M := ML_law) C hW2 hb2 ?_ hL2
  simp only [g_L_law_1344, g_L_law_1346, S2_b, true_and, and_true, rf_s, not_true_eq_false, not_false_eq_true, true_implies, false_implies, kl_i, kl_n, kl_l, kl_r, Option.toList, List.cons_append, List.nil_append, if_true, if_false, u2s, lt00, lt01, lt02, lt03, le10, le20, le30, ne10, ne20, ne30, eq00]
  refine gs_L_law_1347 ?_
  rintro - ls3 hL3
  refine sg_cL (M := MX9_thrown) (As := []) (b' := m9) (pc2 := 1350) rfl (some (.int k)) C hL3 (d := 0) ⟨by omega, by omega⟩ ⟨by omega, by omega⟩ dL_law_1347 rfl rfl rfl hm9 (by rw [hm9]; decide) (Nat.zero_le _) rfl (hv2.thr h8) hW2 (fun H3 locs3 hW3 => ?_)
  have ek : (k = k) = True := eq_self _
  refine segB_ok (M := ML_law) C hW3 hb2 ?_ hL3
  by_cases hk0 : k = 0
  · have hout : J2 w 0 = v := hr hk0
    have ev : (v = v) = True := eq_self _
    simp only [g_L_law_1350, g_L_law_1352, g_L_law_1355, g_L_law_1357, g_L_law_1359, g_L_law_1362, g_L_law_1363, g_L_law_1364, g_L_law_1365, g_L_law_1367, g_L_law_1368, g_L_law_1371, g_L_law_1373, g_L_law_2226, ek, hk0, S2_o hwb, N2_o hwb, hSo, hNo, eq_true vi01, cl_0, hout, lc_eq, ev, eq_self, true_and, and_true, rf_s, not_true_eq_false, not_false_eq_true, true_implies, false_implies, kl_i, kl_n, kl_l, kl_r, Option.toList, List.cons_append, List.nil_append, if_true, if_false, u2s, lt00, lt01, lt02, lt03, le10, le20, le30, ne10, ne20, ne30, eq00]
    refine g_L_law_2229.mpr ?_
    simp only [g_L_law_28, g_L_law_30, nIa5, true_and, and_true, rf_s, not_true_eq_false, not_false_eq_true, true_implies, false_implies, kl_i, kl_n, kl_l, kl_r, Option.toList, List.cons_append, List.nil_append, if_true, if_false, u2s, lt00, lt01, lt02, lt03, le10, le20, le30, ne10, ne20, ne30, eq00]
    refine gs_L_law_31 ?_
    rintro - ls4 hL4
    exact hk _ _ _ _ _ _ _ _ _ _ hW3 hv2 hL4
  · simp only [g_L_law_1350, g_L_law_1352, g_L_law_1355, g_L_law_1357, g_L_law_1359, g_L_law_1362, g_L_law_1363, g_L_law_1364, g_L_law_1365, g_L_law_1367, g_L_law_1368, g_L_law_1371, g_L_law_1373, g_L_law_2226, ek, hk0, true_and, and_true, rf_s, not_true_eq_false, not_false_eq_true, true_implies, false_implies, kl_i, kl_n, kl_l, kl_r, Option.toList, List.cons_append, List.nil_append, if_true, if_false, u2s, lt00, lt01, lt02, lt03, le10, le20, le30, ne10, ne20, ne30, eq00]
    refine g_L_law_2229.mpr ?_
    simp only [g_L_law_28, g_L_law_30, nIa5, true_and, and_true, rf_s, not_true_eq_false, not_false_eq_true, true_implies, false_implies, kl_i, kl_n, kl_l, kl_r, Option.toList, List.cons_append, List.nil_append, if_true, if_false, u2s, lt00, lt01, lt02, lt03, le10, le20, le30, ne10, ne20, ne30, eq00]
    refine gs_L_law_31 ?_
    rintro - ls4 hL4
    exact hk _ _ _ _ _ _ _ _ _ _ hW3 hv2 hL4
theorem law_c23 (C : Cx E 10 cL_law 10 p s m args meth c) (hT : TX E s) (hEA : ∀ q, q ∈ E.2.2.2.2 → s.heap.size ≤ q) (hfl : l.stackTraces = false) (hR : 19 ≤ R.frames ∧ 1400 ≤ R.locals) (hcs : cells + 1 ≤ R.cells ∧ slots + 6 ≤ R.slots) (hi : i + 5 ≤ L) (hLL : L ≤ 2560) (hk : Lh p l e R s m args below meth c Q E b L xs x m9 w od (i + 5) (cells + 1) (slots + 6)) : Lp p l e R s m args below meth c Q E b L xs x m9 w od 1376 i cells slots := by
  intro I J P H locs ls y6 y7 y8 y9 hW hv hL
  have hE := C.2.2.2.2.2.2.2
  have hb := hv.2.2.1
  obtain ⟨hx8, hm9, hwb, hSo, hNo⟩ := hv.sh
  obtain ⟨k, I1, J1, P1, v, I2, J2, hw, hb1, hc, h8, hr, hv2⟩ := op_separateTax hE hfl hv (xs (i + 1))
  have hb2 := hv2.2.2.1
  refine segB_ok (M := ML_law) C hW hb ?_ hL
  simp only [g_L_law_1376, g_L_law_1377, g_L_law_1378, g_L_law_1380, g_L_law_1381, g_L_law_1382, g_L_law_1383, nIp, nIa2, nIa3, nIa4, nI_clamp (show i + 1 < 2 ^ 31 by omega), nI_clamp (show i + 2 < 2 ^ 31 by omega), nI_clamp (show i + 3 < 2 ^ 31 by omega), nI_clamp (show i + 4 < 2 ^ 31 by omega), vpn (show i + 1 < L by omega) (show L < 2 ^ 31 by omega), vpn (show i + 2 < L by omega) (show L < 2 ^ 31 by omega), vpn (show i + 3 < L by omega) (show L < 2 ^ 31 by omega), vpn (show i + 4 < L by omega) (show L < 2 ^ 31 by omega), S2_b, N2_b, hb, true_and, and_true, rf_s, not_true_eq_false, not_false_eq_true, true_implies, false_implies, kl_i, kl_n, kl_l, kl_r, Option.toList, List.cons_append, List.nil_append, if_true, if_false, u2s, lt00, lt01, lt02, lt03, le10, le20, le30, ne10, ne20, ne30, eq00]
  refine gs_L_law_1384 ?_
  rintro - ls1 hL1
  refine sg_cWL (M := ML_separateTax) (As := [.ref x, .int (xs (i + 1)), .ref w]) (pc2 := 1387) rfl C hT hEA hL1 hR hcs dL_law_1384 lk_separateTax ML_separateTax_ok rfl rfl hw hW (fun H1 locs1 hW1 => ?_)
  refine segB_ok (M := ML_law) C hW1 hb1 ?_ hL1
  simp only [g_L_law_1387, g_L_law_1389, g_L_law_1390, g_L_law_1391, g_L_law_1393, g_L_law_1394, g_L_law_1395, nIp, nIa2, nIa3, nIa4, nI_clamp (show i + 1 < 2 ^ 31 by omega), nI_clamp (show i + 2 < 2 ^ 31 by omega), nI_clamp (show i + 3 < 2 ^ 31 by omega), nI_clamp (show i + 4 < 2 ^ 31 by omega), vpn (show i + 1 < L by omega) (show L < 2 ^ 31 by omega), vpn (show i + 2 < L by omega) (show L < 2 ^ 31 by omega), vpn (show i + 3 < L by omega) (show L < 2 ^ 31 by omega), vpn (show i + 4 < L by omega) (show L < 2 ^ 31 by omega), S2_b, N2_b, hb1, true_and, and_true, rf_s, not_true_eq_false, not_false_eq_true, true_implies, false_implies, kl_i, kl_n, kl_l, kl_r, Option.toList, List.cons_append, List.nil_append, if_true, if_false, u2s, lt00, lt01, lt02, lt03, le10, le20, le30, ne10, ne20, ne30, eq00]
  refine gs_L_law_1396 ?_
  rintro - ls2 hL2
  refine sg_cL (M := MX9_separateTax) (As := [.int (xs (i + 1))]) (b' := m9) (pc2 := 1399) rfl (some (.long v)) C hL2 (d := 11) ⟨by omega, by omega⟩ ⟨by omega, by omega⟩ dL_law_1396 rfl rfl rfl hm9 (by rw [hm9]; decide) (Nat.zero_le _) rfl hc hW1 (fun H2 locs2 hW2 => ?_)
  refine segB_ok (M := ML_law) C hW2 hb2 ?_ hL2
  simp only [g_L_law_1399, g_L_law_1401, S2_b, true_and, and_true, rf_s, not_true_eq_false, not_false_eq_true, true_implies, false_implies, kl_i, kl_n, kl_l, kl_r, Option.toList, List.cons_append, List.nil_append, if_true, if_false, u2s, lt00, lt01, lt02, lt03, le10, le20, le30, ne10, ne20, ne30, eq00]
  refine gs_L_law_1402 ?_
  rintro - ls3 hL3
  refine sg_cL (M := MX9_thrown) (As := []) (b' := m9) (pc2 := 1405) rfl (some (.int k)) C hL3 (d := 0) ⟨by omega, by omega⟩ ⟨by omega, by omega⟩ dL_law_1402 rfl rfl rfl hm9 (by rw [hm9]; decide) (Nat.zero_le _) rfl (hv2.thr h8) hW2 (fun H3 locs3 hW3 => ?_)
  have ek : (k = k) = True := eq_self _
  refine segB_ok (M := ML_law) C hW3 hb2 ?_ hL3
  by_cases hk0 : k = 0
  · have hout : J2 w 0 = v := hr hk0
    have ev : (v = v) = True := eq_self _
    simp only [g_L_law_1405, g_L_law_1407, g_L_law_1410, g_L_law_1412, g_L_law_1414, g_L_law_1417, g_L_law_1418, g_L_law_1419, g_L_law_1420, g_L_law_1422, g_L_law_1423, g_L_law_1426, g_L_law_1428, g_L_law_2226, ek, hk0, S2_o hwb, N2_o hwb, hSo, hNo, eq_true vi01, cl_0, hout, lc_eq, ev, eq_self, true_and, and_true, rf_s, not_true_eq_false, not_false_eq_true, true_implies, false_implies, kl_i, kl_n, kl_l, kl_r, Option.toList, List.cons_append, List.nil_append, if_true, if_false, u2s, lt00, lt01, lt02, lt03, le10, le20, le30, ne10, ne20, ne30, eq00]
    refine g_L_law_2229.mpr ?_
    simp only [g_L_law_28, g_L_law_30, nIa5, true_and, and_true, rf_s, not_true_eq_false, not_false_eq_true, true_implies, false_implies, kl_i, kl_n, kl_l, kl_r, Option.toList, List.cons_append, List.nil_append, if_true, if_false, u2s, lt00, lt01, lt02, lt03, le10, le20, le30, ne10, ne20, ne30, eq00]
    refine gs_L_law_31 ?_
    rintro - ls4 hL4
    exact hk _ _ _ _ _ _ _ _ _ _ hW3 hv2 hL4
  · simp only [g_L_law_1405, g_L_law_1407, g_L_law_1410, g_L_law_1412, g_L_law_1414, g_L_law_1417, g_L_law_1418, g_L_law_1419, g_L_law_1420, g_L_law_1422, g_L_law_1423, g_L_law_1426, g_L_law_1428, g_L_law_2226, ek, hk0, true_and, and_true, rf_s, not_true_eq_false, not_false_eq_true, true_implies, false_implies, kl_i, kl_n, kl_l, kl_r, Option.toList, List.cons_append, List.nil_append, if_true, if_false, u2s, lt00, lt01, lt02, lt03, le10, le20, le30, ne10, ne20, ne30, eq00]
    refine g_L_law_2229.mpr ?_
    simp only [g_L_law_28, g_L_law_30, nIa5, true_and, and_true, rf_s, not_true_eq_false, not_false_eq_true, true_implies, false_implies, kl_i, kl_n, kl_l, kl_r, Option.toList, List.cons_append, List.nil_append, if_true, if_false, u2s, lt00, lt01, lt02, lt03, le10, le20, le30, ne10, ne20, ne30, eq00]
    refine gs_L_law_31 ?_
    rintro - ls4 hL4
    exact hk _ _ _ _ _ _ _ _ _ _ hW3 hv2 hL4
theorem law_c24 (C : Cx E 10 cL_law 10 p s m args meth c) (hT : TX E s) (hEA : ∀ q, q ∈ E.2.2.2.2 → s.heap.size ≤ q) (hfl : l.stackTraces = false) (hR : 19 ≤ R.frames ∧ 1400 ≤ R.locals) (hcs : cells + 1 ≤ R.cells ∧ slots + 6 ≤ R.slots) (hi : i + 5 ≤ L) (hLL : L ≤ 2560) (hk : Lh p l e R s m args below meth c Q E b L xs x m9 w od (i + 5) (cells + 1) (slots + 6)) : Lp p l e R s m args below meth c Q E b L xs x m9 w od 1431 i cells slots := by
  intro I J P H locs ls y6 y7 y8 y9 hW hv hL
  have hE := C.2.2.2.2.2.2.2
  have hb := hv.2.2.1
  obtain ⟨hx8, hm9, hwb, hSo, hNo⟩ := hv.sh
  obtain ⟨k, I1, J1, P1, rb, I2, J2, hw, hb1, hc, h8, hr, hv2⟩ := op_division hE hfl hv (xs (i + 1))
  obtain ⟨v, rfl⟩ := cw_int hc (Or.inl rfl)
  have hb2 := hv2.2.2.1
  refine segB_ok (M := ML_law) C hW hb ?_ hL
  simp only [g_L_law_1431, g_L_law_1432, g_L_law_1433, g_L_law_1435, g_L_law_1436, g_L_law_1437, g_L_law_1438, nIp, nIa2, nIa3, nIa4, nI_clamp (show i + 1 < 2 ^ 31 by omega), nI_clamp (show i + 2 < 2 ^ 31 by omega), nI_clamp (show i + 3 < 2 ^ 31 by omega), nI_clamp (show i + 4 < 2 ^ 31 by omega), vpn (show i + 1 < L by omega) (show L < 2 ^ 31 by omega), vpn (show i + 2 < L by omega) (show L < 2 ^ 31 by omega), vpn (show i + 3 < L by omega) (show L < 2 ^ 31 by omega), vpn (show i + 4 < L by omega) (show L < 2 ^ 31 by omega), S2_b, N2_b, hb, true_and, and_true, rf_s, not_true_eq_false, not_false_eq_true, true_implies, false_implies, kl_i, kl_n, kl_l, kl_r, Option.toList, List.cons_append, List.nil_append, if_true, if_false, u2s, lt00, lt01, lt02, lt03, le10, le20, le30, ne10, ne20, ne30, eq00]
  refine gs_L_law_1439 ?_
  rintro - ls1 hL1
  refine sg_cWL (M := ML_division) (As := [.ref x, .int (xs (i + 1)), .ref w]) (pc2 := 1442) rfl C hT hEA hL1 hR hcs dL_law_1439 lk_division ML_division_ok rfl rfl hw hW (fun H1 locs1 hW1 => ?_)
  refine segB_ok (M := ML_law) C hW1 hb1 ?_ hL1
  simp only [g_L_law_1442, g_L_law_1444, g_L_law_1445, g_L_law_1446, g_L_law_1448, g_L_law_1449, g_L_law_1450, nIp, nIa2, nIa3, nIa4, nI_clamp (show i + 1 < 2 ^ 31 by omega), nI_clamp (show i + 2 < 2 ^ 31 by omega), nI_clamp (show i + 3 < 2 ^ 31 by omega), nI_clamp (show i + 4 < 2 ^ 31 by omega), vpn (show i + 1 < L by omega) (show L < 2 ^ 31 by omega), vpn (show i + 2 < L by omega) (show L < 2 ^ 31 by omega), vpn (show i + 3 < L by omega) (show L < 2 ^ 31 by omega), vpn (show i + 4 < L by omega) (show L < 2 ^ 31 by omega), S2_b, N2_b, hb1, true_and, and_true, rf_s, not_true_eq_false, not_false_eq_true, true_implies, false_implies, kl_i, kl_n, kl_l, kl_r, Option.toList, List.cons_append, List.nil_append, if_true, if_false, u2s, lt00, lt01, lt02, lt03, le10, le20, le30, ne10, ne20, ne30, eq00]
  refine gs_L_law_1451 ?_
  rintro - ls2 hL2
  refine sg_cL (M := MX9_division) (As := [.int (xs (i + 1))]) (b' := m9) (pc2 := 1454) rfl (some (.int v)) C hL2 (d := 11) ⟨by omega, by omega⟩ ⟨by omega, by omega⟩ dL_law_1451 rfl rfl rfl hm9 (by rw [hm9]; decide) (Nat.zero_le _) rfl hc hW1 (fun H2 locs2 hW2 => ?_)
  refine segB_ok (M := ML_law) C hW2 hb2 ?_ hL2
  simp only [g_L_law_1454, g_L_law_1456, S2_b, true_and, and_true, rf_s, not_true_eq_false, not_false_eq_true, true_implies, false_implies, kl_i, kl_n, kl_l, kl_r, Option.toList, List.cons_append, List.nil_append, if_true, if_false, u2s, lt00, lt01, lt02, lt03, le10, le20, le30, ne10, ne20, ne30, eq00]
  refine gs_L_law_1457 ?_
  rintro - ls3 hL3
  refine sg_cL (M := MX9_thrown) (As := []) (b' := m9) (pc2 := 1460) rfl (some (.int k)) C hL3 (d := 0) ⟨by omega, by omega⟩ ⟨by omega, by omega⟩ dL_law_1457 rfl rfl rfl hm9 (by rw [hm9]; decide) (Nat.zero_le _) rfl (hv2.thr h8) hW2 (fun H3 locs3 hW3 => ?_)
  have ek : (k = k) = True := eq_self _
  refine segB_ok (M := ML_law) C hW3 hb2 ?_ hL3
  by_cases hk0 : k = 0
  · have hout : J2 w 0 = v.toInt64 := hr hk0 _ rfl
    have ev : (v.toInt64 = v.toInt64) = True := eq_self _
    simp only [g_L_law_1460, g_L_law_1462, g_L_law_1465, g_L_law_1467, g_L_law_1469, g_L_law_1472, g_L_law_1473, g_L_law_1474, g_L_law_1475, g_L_law_1477, g_L_law_1478, g_L_law_1479, g_L_law_1482, g_L_law_1484, g_L_law_2226, ek, hk0, S2_o hwb, N2_o hwb, hSo, hNo, eq_true vi01, cl_0, hout, lc_eq, ev, eq_self, true_and, and_true, rf_s, not_true_eq_false, not_false_eq_true, true_implies, false_implies, kl_i, kl_n, kl_l, kl_r, Option.toList, List.cons_append, List.nil_append, if_true, if_false, u2s, lt00, lt01, lt02, lt03, le10, le20, le30, ne10, ne20, ne30, eq00]
    refine g_L_law_2229.mpr ?_
    simp only [g_L_law_28, g_L_law_30, nIa5, true_and, and_true, rf_s, not_true_eq_false, not_false_eq_true, true_implies, false_implies, kl_i, kl_n, kl_l, kl_r, Option.toList, List.cons_append, List.nil_append, if_true, if_false, u2s, lt00, lt01, lt02, lt03, le10, le20, le30, ne10, ne20, ne30, eq00]
    refine gs_L_law_31 ?_
    rintro - ls4 hL4
    exact hk _ _ _ _ _ _ _ _ _ _ hW3 hv2 hL4
  · simp only [g_L_law_1460, g_L_law_1462, g_L_law_1465, g_L_law_1467, g_L_law_1469, g_L_law_1472, g_L_law_1473, g_L_law_1474, g_L_law_1475, g_L_law_1477, g_L_law_1478, g_L_law_1479, g_L_law_1482, g_L_law_1484, g_L_law_2226, ek, hk0, true_and, and_true, rf_s, not_true_eq_false, not_false_eq_true, true_implies, false_implies, kl_i, kl_n, kl_l, kl_r, Option.toList, List.cons_append, List.nil_append, if_true, if_false, u2s, lt00, lt01, lt02, lt03, le10, le20, le30, ne10, ne20, ne30, eq00]
    refine g_L_law_2229.mpr ?_
    simp only [g_L_law_28, g_L_law_30, nIa5, true_and, and_true, rf_s, not_true_eq_false, not_false_eq_true, true_implies, false_implies, kl_i, kl_n, kl_l, kl_r, Option.toList, List.cons_append, List.nil_append, if_true, if_false, u2s, lt00, lt01, lt02, lt03, le10, le20, le30, ne10, ne20, ne30, eq00]
    refine gs_L_law_31 ?_
    rintro - ls4 hL4
    exact hk _ _ _ _ _ _ _ _ _ _ hW3 hv2 hL4
theorem law_c25 (C : Cx E 10 cL_law 10 p s m args meth c) (hT : TX E s) (hEA : ∀ q, q ∈ E.2.2.2.2 → s.heap.size ≤ q) (hfl : l.stackTraces = false) (hR : 19 ≤ R.frames ∧ 1400 ≤ R.locals) (hcs : cells + 1 ≤ R.cells ∧ slots + 6 ≤ R.slots) (hi : i + 5 ≤ L) (hLL : L ≤ 2560) (hk : Lh p l e R s m args below meth c Q E b L xs x m9 w od (i + 5) (cells + 1) (slots + 6)) : Lp p l e R s m args below meth c Q E b L xs x m9 w od 1487 i cells slots := by
  intro I J P H locs ls y6 y7 y8 y9 hW hv hL
  have hE := C.2.2.2.2.2.2.2
  have hb := hv.2.2.1
  obtain ⟨hx8, hm9, hwb, hSo, hNo⟩ := hv.sh
  obtain ⟨k, I1, J1, P1, rb, I2, J2, hw, hb1, hc, h8, hr, hv2⟩ := op_choosesJoint hE hfl hv (xs (i + 1))
  obtain ⟨v, rfl, hv01⟩ := cw_bool hc rfl
  have hb2 := hv2.2.2.1
  refine segB_ok (M := ML_law) C hW hb ?_ hL
  simp only [g_L_law_1487, g_L_law_1488, g_L_law_1489, g_L_law_1491, g_L_law_1492, g_L_law_1493, g_L_law_1494, nIp, nIa2, nIa3, nIa4, nI_clamp (show i + 1 < 2 ^ 31 by omega), nI_clamp (show i + 2 < 2 ^ 31 by omega), nI_clamp (show i + 3 < 2 ^ 31 by omega), nI_clamp (show i + 4 < 2 ^ 31 by omega), vpn (show i + 1 < L by omega) (show L < 2 ^ 31 by omega), vpn (show i + 2 < L by omega) (show L < 2 ^ 31 by omega), vpn (show i + 3 < L by omega) (show L < 2 ^ 31 by omega), vpn (show i + 4 < L by omega) (show L < 2 ^ 31 by omega), S2_b, N2_b, hb, true_and, and_true, rf_s, not_true_eq_false, not_false_eq_true, true_implies, false_implies, kl_i, kl_n, kl_l, kl_r, Option.toList, List.cons_append, List.nil_append, if_true, if_false, u2s, lt00, lt01, lt02, lt03, le10, le20, le30, ne10, ne20, ne30, eq00]
  refine gs_L_law_1495 ?_
  rintro - ls1 hL1
  refine sg_cWL (M := ML_choosesJoint) (As := [.ref x, .int (xs (i + 1)), .ref w]) (pc2 := 1498) rfl C hT hEA hL1 hR hcs dL_law_1495 lk_choosesJoint ML_choosesJoint_ok rfl rfl hw hW (fun H1 locs1 hW1 => ?_)
  refine segB_ok (M := ML_law) C hW1 hb1 ?_ hL1
  simp only [g_L_law_1498, g_L_law_1500, g_L_law_1501, g_L_law_1502, g_L_law_1504, g_L_law_1505, g_L_law_1506, nIp, nIa2, nIa3, nIa4, nI_clamp (show i + 1 < 2 ^ 31 by omega), nI_clamp (show i + 2 < 2 ^ 31 by omega), nI_clamp (show i + 3 < 2 ^ 31 by omega), nI_clamp (show i + 4 < 2 ^ 31 by omega), vpn (show i + 1 < L by omega) (show L < 2 ^ 31 by omega), vpn (show i + 2 < L by omega) (show L < 2 ^ 31 by omega), vpn (show i + 3 < L by omega) (show L < 2 ^ 31 by omega), vpn (show i + 4 < L by omega) (show L < 2 ^ 31 by omega), S2_b, N2_b, hb1, true_and, and_true, rf_s, not_true_eq_false, not_false_eq_true, true_implies, false_implies, kl_i, kl_n, kl_l, kl_r, Option.toList, List.cons_append, List.nil_append, if_true, if_false, u2s, lt00, lt01, lt02, lt03, le10, le20, le30, ne10, ne20, ne30, eq00]
  refine gs_L_law_1507 ?_
  rintro - ls2 hL2
  refine sg_cL (M := MX9_choosesJoint) (As := [.int (xs (i + 1))]) (b' := m9) (pc2 := 1510) rfl (some (.int v)) C hL2 (d := 11) ⟨by omega, by omega⟩ ⟨by omega, by omega⟩ dL_law_1507 rfl rfl rfl hm9 (by rw [hm9]; decide) (Nat.zero_le _) rfl hc hW1 (fun H2 locs2 hW2 => ?_)
  refine segB_ok (M := ML_law) C hW2 hb2 ?_ hL2
  simp only [g_L_law_1510, g_L_law_1512, S2_b, true_and, and_true, rf_s, not_true_eq_false, not_false_eq_true, true_implies, false_implies, kl_i, kl_n, kl_l, kl_r, Option.toList, List.cons_append, List.nil_append, if_true, if_false, u2s, lt00, lt01, lt02, lt03, le10, le20, le30, ne10, ne20, ne30, eq00]
  refine gs_L_law_1513 ?_
  rintro - ls3 hL3
  refine sg_cL (M := MX9_thrown) (As := []) (b' := m9) (pc2 := 1516) rfl (some (.int k)) C hL3 (d := 0) ⟨by omega, by omega⟩ ⟨by omega, by omega⟩ dL_law_1513 rfl rfl rfl hm9 (by rw [hm9]; decide) (Nat.zero_le _) rfl (hv2.thr h8) hW2 (fun H3 locs3 hW3 => ?_)
  have ek : (k = k) = True := eq_self _
  refine segB_ok (M := ML_law) C hW3 hb2 ?_ hL3
  by_cases hk0 : k = 0
  · have hout : J2 w 0 = v.toInt64 := hr hk0 _ rfl
    have ev : (v.toInt64 = v.toInt64) = True := eq_self _
    rcases hv01 with rfl | rfl
    · have e9 : ((0 : Int32).toInt64 = 0) = True := eq_true rfl
      simp only [g_L_law_1516, g_L_law_1518, g_L_law_1521, g_L_law_1523, g_L_law_1525, g_L_law_1528, g_L_law_1529, g_L_law_1530, g_L_law_1531, g_L_law_1533, g_L_law_1536, g_L_law_1537, g_L_law_1540, g_L_law_1541, g_L_law_1542, g_L_law_1545, g_L_law_1547, g_L_law_2226, ek, hk0, S2_o hwb, N2_o hwb, hSo, hNo, eq_true vi01, cl_0, hout, lc_eq, ev, eq_self, e9, true_and, and_true, rf_s, not_true_eq_false, not_false_eq_true, true_implies, false_implies, kl_i, kl_n, kl_l, kl_r, Option.toList, List.cons_append, List.nil_append, if_true, if_false, u2s, lt00, lt01, lt02, lt03, le10, le20, le30, ne10, ne20, ne30, eq00]
      refine g_L_law_2229.mpr ?_
      simp only [g_L_law_28, g_L_law_30, nIa5, true_and, and_true, rf_s, not_true_eq_false, not_false_eq_true, true_implies, false_implies, kl_i, kl_n, kl_l, kl_r, Option.toList, List.cons_append, List.nil_append, if_true, if_false, u2s, lt00, lt01, lt02, lt03, le10, le20, le30, ne10, ne20, ne30, eq00]
      refine gs_L_law_31 ?_
      rintro - ls4 hL4
      exact hk _ _ _ _ _ _ _ _ _ _ hW3 hv2 hL4
    · have e9 : ((1 : Int32).toInt64 = 1) = True := eq_true rfl
      simp only [g_L_law_1516, g_L_law_1518, g_L_law_1521, g_L_law_1523, g_L_law_1525, g_L_law_1528, g_L_law_1529, g_L_law_1530, g_L_law_1531, g_L_law_1533, g_L_law_1536, g_L_law_1537, g_L_law_1540, g_L_law_1541, g_L_law_1542, g_L_law_1545, g_L_law_1547, g_L_law_2226, ek, hk0, S2_o hwb, N2_o hwb, hSo, hNo, eq_true vi01, cl_0, hout, lc_eq, ev, eq_self, e9, true_and, and_true, rf_s, not_true_eq_false, not_false_eq_true, true_implies, false_implies, kl_i, kl_n, kl_l, kl_r, Option.toList, List.cons_append, List.nil_append, if_true, if_false, u2s, lt00, lt01, lt02, lt03, le10, le20, le30, ne10, ne20, ne30, eq00]
      refine g_L_law_2229.mpr ?_
      simp only [g_L_law_28, g_L_law_30, nIa5, true_and, and_true, rf_s, not_true_eq_false, not_false_eq_true, true_implies, false_implies, kl_i, kl_n, kl_l, kl_r, Option.toList, List.cons_append, List.nil_append, if_true, if_false, u2s, lt00, lt01, lt02, lt03, le10, le20, le30, ne10, ne20, ne30, eq00]
      refine gs_L_law_31 ?_
      rintro - ls4 hL4
      exact hk _ _ _ _ _ _ _ _ _ _ hW3 hv2 hL4
  · simp only [g_L_law_1516, g_L_law_1518, g_L_law_1521, g_L_law_1523, g_L_law_1525, g_L_law_1528, g_L_law_1529, g_L_law_1530, g_L_law_1531, g_L_law_1533, g_L_law_1536, g_L_law_1537, g_L_law_1540, g_L_law_1541, g_L_law_1542, g_L_law_1545, g_L_law_1547, g_L_law_2226, ek, hk0, true_and, and_true, rf_s, not_true_eq_false, not_false_eq_true, true_implies, false_implies, kl_i, kl_n, kl_l, kl_r, Option.toList, List.cons_append, List.nil_append, if_true, if_false, u2s, lt00, lt01, lt02, lt03, le10, le20, le30, ne10, ne20, ne30, eq00]
    refine g_L_law_2229.mpr ?_
    simp only [g_L_law_28, g_L_law_30, nIa5, true_and, and_true, rf_s, not_true_eq_false, not_false_eq_true, true_implies, false_implies, kl_i, kl_n, kl_l, kl_r, Option.toList, List.cons_append, List.nil_append, if_true, if_false, u2s, lt00, lt01, lt02, lt03, le10, le20, le30, ne10, ne20, ne30, eq00]
    refine gs_L_law_31 ?_
    rintro - ls4 hL4
    exact hk _ _ _ _ _ _ _ _ _ _ hW3 hv2 hL4
end LAWC

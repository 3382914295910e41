/-! the law's cases -/
section LAWC
variable {p : Program} {l : Launch} {e : Env} {R : Room} {s : State} {m : MethodId} {args : Array Value} {below : List Frame} {meth : Method} {c : Code} {Q : State → Prop}
variable {E : tx_En} {cells slots b L od x m9 w i : Nat} {xs : Nat → Int32}
theorem law_c11 (C : Cx E 10 cL_law 10 p s m args meth c) (hT : TX E s) (hEA : ∀ q, q ∈ E.2.2.2.2 → s.heap.size ≤ q) (hfl : l.stackTraces = false) (hR : 19 ≤ R.frames ∧ 1400 ≤ R.locals) (hcs : cells + 1 ≤ R.cells ∧ slots + 6 ≤ R.slots) (hi : i + 5 ≤ L) (hLL : L ≤ 2560) (hk : Lh p l e R s m args below meth c Q E b L xs x m9 w od (i + 5) (cells + 1) (slots + 6)) : Lp p l e R s m args below meth c Q E b L xs x m9 w od 649 i cells slots := by
  intro I J P H locs ls y6 y7 y8 y9 hW hv hL
  have hE := C.2.2.2.2.2.2.2
  have hb := hv.2.2.1
  obtain ⟨hx8, hm9, hwb, hSo, hNo⟩ := hv.sh
  obtain ⟨k, I1, J1, P1, rb, I2, J2, hw, hb1, hc, h8, hr, hv2⟩ := op_removeCredit hE hfl hv (xs (i + 1))
  obtain ⟨v, rfl⟩ := cw_int hc (Or.inl rfl)
  have hb2 := hv2.2.2.1
  refine segB_ok (M := ML_law) C hW hb ?_ hL
  simp only [g_L_law_649, g_L_law_650, g_L_law_651, g_L_law_653, g_L_law_654, g_L_law_655, g_L_law_656, nIp, nIa2, nIa3, nIa4, nI_clamp (show i + 1 < 2 ^ 31 by omega), nI_clamp (show i + 2 < 2 ^ 31 by omega), nI_clamp (show i + 3 < 2 ^ 31 by omega), nI_clamp (show i + 4 < 2 ^ 31 by omega), vpn (show i + 1 < L by omega) (show L < 2 ^ 31 by omega), vpn (show i + 2 < L by omega) (show L < 2 ^ 31 by omega), vpn (show i + 3 < L by omega) (show L < 2 ^ 31 by omega), vpn (show i + 4 < L by omega) (show L < 2 ^ 31 by omega), S2_b, N2_b, hb, true_and, and_true, rf_s, not_true_eq_false, not_false_eq_true, true_implies, false_implies, kl_i, kl_n, kl_l, kl_r, Option.toList, List.cons_append, List.nil_append, if_true, if_false, u2s, lt00, lt01, lt02, lt03, le10, le20, le30, ne10, ne20, ne30, eq00]
  refine gs_L_law_657 ?_
  rintro - ls1 hL1
  refine sg_cWL (M := ML_removeCredit) (As := [.ref x, .int (xs (i + 1)), .ref w]) (pc2 := 660) rfl C hT hEA hL1 hR hcs dL_law_657 lk_removeCredit ML_removeCredit_ok rfl rfl hw hW (fun H1 locs1 hW1 => ?_)
  refine segB_ok (M := ML_law) C hW1 hb1 ?_ hL1
  simp only [g_L_law_660, g_L_law_662, g_L_law_663, g_L_law_664, g_L_law_666, g_L_law_667, g_L_law_668, nIp, nIa2, nIa3, nIa4, nI_clamp (show i + 1 < 2 ^ 31 by omega), nI_clamp (show i + 2 < 2 ^ 31 by omega), nI_clamp (show i + 3 < 2 ^ 31 by omega), nI_clamp (show i + 4 < 2 ^ 31 by omega), vpn (show i + 1 < L by omega) (show L < 2 ^ 31 by omega), vpn (show i + 2 < L by omega) (show L < 2 ^ 31 by omega), vpn (show i + 3 < L by omega) (show L < 2 ^ 31 by omega), vpn (show i + 4 < L by omega) (show L < 2 ^ 31 by omega), S2_b, N2_b, hb1, true_and, and_true, rf_s, not_true_eq_false, not_false_eq_true, true_implies, false_implies, kl_i, kl_n, kl_l, kl_r, Option.toList, List.cons_append, List.nil_append, if_true, if_false, u2s, lt00, lt01, lt02, lt03, le10, le20, le30, ne10, ne20, ne30, eq00]
  refine gs_L_law_669 ?_
  rintro - ls2 hL2
  refine sg_cL (M := MX9_removeCredit) (As := [.int (xs (i + 1))]) (b' := m9) (pc2 := 672) rfl (some (.int v)) C hL2 (d := 11) ⟨by omega, by omega⟩ ⟨by omega, by omega⟩ dL_law_669 rfl rfl rfl hm9 (by rw [hm9]; decide) (Nat.zero_le _) rfl hc hW1 (fun H2 locs2 hW2 => ?_)
  refine segB_ok (M := ML_law) C hW2 hb2 ?_ hL2
  simp only [g_L_law_672, g_L_law_674, S2_b, true_and, and_true, rf_s, not_true_eq_false, not_false_eq_true, true_implies, false_implies, kl_i, kl_n, kl_l, kl_r, Option.toList, List.cons_append, List.nil_append, if_true, if_false, u2s, lt00, lt01, lt02, lt03, le10, le20, le30, ne10, ne20, ne30, eq00]
  refine gs_L_law_675 ?_
  rintro - ls3 hL3
  refine sg_cL (M := MX9_thrown) (As := []) (b' := m9) (pc2 := 678) rfl (some (.int k)) C hL3 (d := 0) ⟨by omega, by omega⟩ ⟨by omega, by omega⟩ dL_law_675 rfl rfl rfl hm9 (by rw [hm9]; decide) (Nat.zero_le _) rfl (hv2.thr h8) hW2 (fun H3 locs3 hW3 => ?_)
  have ek : (k = k) = True := eq_self _
  refine segB_ok (M := ML_law) C hW3 hb2 ?_ hL3
  by_cases hk0 : k = 0
  · have hout : J2 w 0 = v.toInt64 := hr hk0 _ rfl
    have ev : (v.toInt64 = v.toInt64) = True := eq_self _
    simp only [g_L_law_678, g_L_law_680, g_L_law_683, g_L_law_685, g_L_law_687, g_L_law_690, g_L_law_691, g_L_law_692, g_L_law_693, g_L_law_695, g_L_law_696, g_L_law_697, g_L_law_700, g_L_law_702, g_L_law_2226, ek, hk0, S2_o hwb, N2_o hwb, hSo, hNo, eq_true vi01, cl_0, hout, lc_eq, ev, eq_self, true_and, and_true, rf_s, not_true_eq_false, not_false_eq_true, true_implies, false_implies, kl_i, kl_n, kl_l, kl_r, Option.toList, List.cons_append, List.nil_append, if_true, if_false, u2s, lt00, lt01, lt02, lt03, le10, le20, le30, ne10, ne20, ne30, eq00]
    refine g_L_law_2229.mpr ?_
    simp only [g_L_law_28, g_L_law_30, nIa5, true_and, and_true, rf_s, not_true_eq_false, not_false_eq_true, true_implies, false_implies, kl_i, kl_n, kl_l, kl_r, Option.toList, List.cons_append, List.nil_append, if_true, if_false, u2s, lt00, lt01, lt02, lt03, le10, le20, le30, ne10, ne20, ne30, eq00]
    refine gs_L_law_31 ?_
    rintro - ls4 hL4
    exact hk _ _ _ _ _ _ _ _ _ _ hW3 hv2 hL4
  · simp only [g_L_law_678, g_L_law_680, g_L_law_683, g_L_law_685, g_L_law_687, g_L_law_690, g_L_law_691, g_L_law_692, g_L_law_693, g_L_law_695, g_L_law_696, g_L_law_697, g_L_law_700, g_L_law_702, g_L_law_2226, ek, hk0, true_and, and_true, rf_s, not_true_eq_false, not_false_eq_true, true_implies, false_implies, kl_i, kl_n, kl_l, kl_r, Option.toList, List.cons_append, List.nil_append, if_true, if_false, u2s, lt00, lt01, lt02, lt03, le10, le20, le30, ne10, ne20, ne30, eq00]
    refine g_L_law_2229.mpr ?_
    simp only [g_L_law_28, g_L_law_30, nIa5, true_and, and_true, rf_s, not_true_eq_false, not_false_eq_true, true_implies, false_implies, kl_i, kl_n, kl_l, kl_r, Option.toList, List.cons_append, List.nil_append, if_true, if_false, u2s, lt00, lt01, lt02, lt03, le10, le20, le30, ne10, ne20, ne30, eq00]
    refine gs_L_law_31 ?_
    rintro - ls4 hL4
    exact hk _ _ _ _ _ _ _ _ _ _ hW3 hv2 hL4
theorem law_c12 (C : Cx E 10 cL_law 10 p s m args meth c) (hT : TX E s) (hEA : ∀ q, q ∈ E.2.2.2.2 → s.heap.size ≤ q) (hfl : l.stackTraces = false) (hR : 19 ≤ R.frames ∧ 1400 ≤ R.locals) (hcs : cells + 1 ≤ R.cells ∧ slots + 6 ≤ R.slots) (hi : i + 5 ≤ L) (hLL : L ≤ 2560) (hk : Lh p l e R s m args below meth c Q E b L xs x m9 w od (i + 5) (cells + 1) (slots + 6)) : Lp p l e R s m args below meth c Q E b L xs x m9 w od 705 i cells slots := by
  intro I J P H locs ls y6 y7 y8 y9 hW hv hL
  have hE := C.2.2.2.2.2.2.2
  have hb := hv.2.2.1
  obtain ⟨hx8, hm9, hwb, hSo, hNo⟩ := hv.sh
  obtain ⟨k, I1, J1, P1, rb, I2, J2, hw, hb1, hc, h8, hr, hv2⟩ := op_moveCredit hE hfl hv (xs (i + 1)) (xs (i + 2))
  obtain rfl := cw_none hc rfl
  have hb2 := hv2.2.2.1
  refine segB_ok (M := ML_law) C hW hb ?_ hL
  simp only [g_L_law_705, g_L_law_706, g_L_law_707, g_L_law_709, g_L_law_710, g_L_law_711, g_L_law_712, g_L_law_713, g_L_law_715, g_L_law_716, g_L_law_717, nIp, nIa2, nIa3, nIa4, nI_clamp (show i + 1 < 2 ^ 31 by omega), nI_clamp (show i + 2 < 2 ^ 31 by omega), nI_clamp (show i + 3 < 2 ^ 31 by omega), nI_clamp (show i + 4 < 2 ^ 31 by omega), vpn (show i + 1 < L by omega) (show L < 2 ^ 31 by omega), vpn (show i + 2 < L by omega) (show L < 2 ^ 31 by omega), vpn (show i + 3 < L by omega) (show L < 2 ^ 31 by omega), vpn (show i + 4 < L by omega) (show L < 2 ^ 31 by omega), S2_b, N2_b, hb, true_and, and_true, rf_s, not_true_eq_false, not_false_eq_true, true_implies, false_implies, kl_i, kl_n, kl_l, kl_r, Option.toList, List.cons_append, List.nil_append, if_true, if_false, u2s, lt00, lt01, lt02, lt03, le10, le20, le30, ne10, ne20, ne30, eq00]
  refine gs_L_law_718 ?_
  rintro - ls1 hL1
  refine sg_cWL (M := ML_moveCredit) (As := [.ref x, .int (xs (i + 1)), .int (xs (i + 2))]) (pc2 := 721) rfl C hT hEA hL1 hR hcs dL_law_718 lk_moveCredit ML_moveCredit_ok rfl rfl hw hW (fun H1 locs1 hW1 => ?_)
  refine segB_ok (M := ML_law) C hW1 hb1 ?_ hL1
  simp only [g_L_law_721, g_L_law_723, g_L_law_724, g_L_law_725, g_L_law_727, g_L_law_728, g_L_law_729, g_L_law_730, g_L_law_731, g_L_law_733, g_L_law_734, g_L_law_735, nIp, nIa2, nIa3, nIa4, nI_clamp (show i + 1 < 2 ^ 31 by omega), nI_clamp (show i + 2 < 2 ^ 31 by omega), nI_clamp (show i + 3 < 2 ^ 31 by omega), nI_clamp (show i + 4 < 2 ^ 31 by omega), vpn (show i + 1 < L by omega) (show L < 2 ^ 31 by omega), vpn (show i + 2 < L by omega) (show L < 2 ^ 31 by omega), vpn (show i + 3 < L by omega) (show L < 2 ^ 31 by omega), vpn (show i + 4 < L by omega) (show L < 2 ^ 31 by omega), S2_b, N2_b, hb1, true_and, and_true, rf_s, not_true_eq_false, not_false_eq_true, true_implies, false_implies, kl_i, kl_n, kl_l, kl_r, Option.toList, List.cons_append, List.nil_append, if_true, if_false, u2s, lt00, lt01, lt02, lt03, le10, le20, le30, ne10, ne20, ne30, eq00]
  refine gs_L_law_736 ?_
  rintro - ls2 hL2
  refine sg_cL (M := MX9_moveCredit) (As := [.int (xs (i + 1)), .int (xs (i + 2))]) (b' := m9) (pc2 := 739) rfl (none) C hL2 (d := 11) ⟨by omega, by omega⟩ ⟨by omega, by omega⟩ dL_law_736 rfl rfl rfl hm9 (by rw [hm9]; decide) (Nat.zero_le _) rfl hc hW1 (fun H2 locs2 hW2 => ?_)
  refine segB_ok (M := ML_law) C hW2 hb2 ?_ hL2
  simp only [g_L_law_739, S2_b, true_and, and_true, rf_s, not_true_eq_false, not_false_eq_true, true_implies, false_implies, kl_i, kl_n, kl_l, kl_r, Option.toList, List.cons_append, List.nil_append, if_true, if_false, u2s, lt00, lt01, lt02, lt03, le10, le20, le30, ne10, ne20, ne30, eq00]
  refine gs_L_law_740 ?_
  rintro - ls3 hL3
  refine sg_cL (M := MX9_thrown) (As := []) (b' := m9) (pc2 := 743) rfl (some (.int k)) C hL3 (d := 0) ⟨by omega, by omega⟩ ⟨by omega, by omega⟩ dL_law_740 rfl rfl rfl hm9 (by rw [hm9]; decide) (Nat.zero_le _) rfl (hv2.thr h8) hW2 (fun H3 locs3 hW3 => ?_)
  have ek : (k = k) = True := eq_self _
  refine segB_ok (M := ML_law) C hW3 hb2 ?_ hL3
  simp only [g_L_law_743, g_L_law_745, g_L_law_748, g_L_law_750, g_L_law_2226, ek, true_and, and_true, rf_s, not_true_eq_false, not_false_eq_true, true_implies, false_implies, kl_i, kl_n, kl_l, kl_r, Option.toList, List.cons_append, List.nil_append, if_true, if_false, u2s, lt00, lt01, lt02, lt03, le10, le20, le30, ne10, ne20, ne30, eq00]
  refine g_L_law_2229.mpr ?_
  simp only [g_L_law_28, g_L_law_30, nIa5, true_and, and_true, rf_s, not_true_eq_false, not_false_eq_true, true_implies, false_implies, kl_i, kl_n, kl_l, kl_r, Option.toList, List.cons_append, List.nil_append, if_true, if_false, u2s, lt00, lt01, lt02, lt03, le10, le20, le30, ne10, ne20, ne30, eq00]
  refine gs_L_law_31 ?_
  rintro - ls4 hL4
  exact hk _ _ _ _ _ _ _ _ _ _ hW3 hv2 hL4
theorem law_c13 (C : Cx E 10 cL_law 10 p s m args meth c) (hT : TX E s) (hEA : ∀ q, q ∈ E.2.2.2.2 → s.heap.size ≤ q) (hfl : l.stackTraces = false) (hR : 19 ≤ R.frames ∧ 1400 ≤ R.locals) (hcs : cells + 1 ≤ R.cells ∧ slots + 6 ≤ R.slots) (hi : i + 5 ≤ L) (hLL : L ≤ 2560) (hk : Lh p l e R s m args below meth c Q E b L xs x m9 w od (i + 5) (cells + 1) (slots + 6)) : Lp p l e R s m args below meth c Q E b L xs x m9 w od 753 i cells slots := by
  intro I J P H locs ls y6 y7 y8 y9 hW hv hL
  have hE := C.2.2.2.2.2.2.2
  have hb := hv.2.2.1
  obtain ⟨hx8, hm9, hwb, hSo, hNo⟩ := hv.sh
  obtain ⟨k, I1, J1, P1, rb, I2, J2, hw, hb1, hc, h8, hr, hv2⟩ := op_setPerson hE hfl hv (xs (i + 1)) (xs (i + 2)) (xs (i + 3)) (xs (i + 4))
  obtain rfl := cw_none hc rfl
  have hb2 := hv2.2.2.1
  refine segB_ok (M := ML_law) C hW hb ?_ hL
  simp only [g_L_law_753, g_L_law_754, g_L_law_755, g_L_law_757, g_L_law_758, g_L_law_759, g_L_law_760, g_L_law_761, g_L_law_763, g_L_law_764, g_L_law_765, g_L_law_766, g_L_law_767, g_L_law_769, g_L_law_770, g_L_law_771, g_L_law_772, g_L_law_773, g_L_law_775, g_L_law_776, g_L_law_777, nIp, nIa2, nIa3, nIa4, nI_clamp (show i + 1 < 2 ^ 31 by omega), nI_clamp (show i + 2 < 2 ^ 31 by omega), nI_clamp (show i + 3 < 2 ^ 31 by omega), nI_clamp (show i + 4 < 2 ^ 31 by omega), vpn (show i + 1 < L by omega) (show L < 2 ^ 31 by omega), vpn (show i + 2 < L by omega) (show L < 2 ^ 31 by omega), vpn (show i + 3 < L by omega) (show L < 2 ^ 31 by omega), vpn (show i + 4 < L by omega) (show L < 2 ^ 31 by omega), S2_b, N2_b, hb, true_and, and_true, rf_s, not_true_eq_false, not_false_eq_true, true_implies, false_implies, kl_i, kl_n, kl_l, kl_r, Option.toList, List.cons_append, List.nil_append, if_true, if_false, u2s, lt00, lt01, lt02, lt03, le10, le20, le30, ne10, ne20, ne30, eq00]
  refine gs_L_law_778 ?_
  rintro - ls1 hL1
  refine sg_cWL (M := ML_setPerson) (As := [.ref x, .int (xs (i + 1)), .int (xs (i + 2)), .int (xs (i + 3)), .int (xs (i + 4))]) (pc2 := 781) rfl C hT hEA hL1 hR hcs dL_law_778 lk_setPerson ML_setPerson_ok rfl rfl hw hW (fun H1 locs1 hW1 => ?_)
  refine segB_ok (M := ML_law) C hW1 hb1 ?_ hL1
  simp only [g_L_law_781, g_L_law_783, g_L_law_784, g_L_law_785, g_L_law_787, g_L_law_788, g_L_law_789, g_L_law_790, g_L_law_791, g_L_law_793, g_L_law_794, g_L_law_795, g_L_law_796, g_L_law_797, g_L_law_799, g_L_law_800, g_L_law_801, g_L_law_802, g_L_law_803, g_L_law_805, g_L_law_806, g_L_law_807, nIp, nIa2, nIa3, nIa4, nI_clamp (show i + 1 < 2 ^ 31 by omega), nI_clamp (show i + 2 < 2 ^ 31 by omega), nI_clamp (show i + 3 < 2 ^ 31 by omega), nI_clamp (show i + 4 < 2 ^ 31 by omega), vpn (show i + 1 < L by omega) (show L < 2 ^ 31 by omega), vpn (show i + 2 < L by omega) (show L < 2 ^ 31 by omega), vpn (show i + 3 < L by omega) (show L < 2 ^ 31 by omega), vpn (show i + 4 < L by omega) (show L < 2 ^ 31 by omega), S2_b, N2_b, hb1, true_and, and_true, rf_s, not_true_eq_false, not_false_eq_true, true_implies, false_implies, kl_i, kl_n, kl_l, kl_r, Option.toList, List.cons_append, List.nil_append, if_true, if_false, u2s, lt00, lt01, lt02, lt03, le10, le20, le30, ne10, ne20, ne30, eq00]
  refine gs_L_law_808 ?_
  rintro - ls2 hL2
  refine sg_cL (M := MX9_setPerson) (As := [.int (xs (i + 1)), .int (xs (i + 2)), .int (xs (i + 3)), .int (xs (i + 4))]) (b' := m9) (pc2 := 811) rfl (none) C hL2 (d := 11) ⟨by omega, by omega⟩ ⟨by omega, by omega⟩ dL_law_808 rfl rfl rfl hm9 (by rw [hm9]; decide) (Nat.zero_le _) rfl hc hW1 (fun H2 locs2 hW2 => ?_)
  refine segB_ok (M := ML_law) C hW2 hb2 ?_ hL2
  simp only [g_L_law_811, S2_b, true_and, and_true, rf_s, not_true_eq_false, not_false_eq_true, true_implies, false_implies, kl_i, kl_n, kl_l, kl_r, Option.toList, List.cons_append, List.nil_append, if_true, if_false, u2s, lt00, lt01, lt02, lt03, le10, le20, le30, ne10, ne20, ne30, eq00]
  refine gs_L_law_812 ?_
  rintro - ls3 hL3
  refine sg_cL (M := MX9_thrown) (As := []) (b' := m9) (pc2 := 815) rfl (some (.int k)) C hL3 (d := 0) ⟨by omega, by omega⟩ ⟨by omega, by omega⟩ dL_law_812 rfl rfl rfl hm9 (by rw [hm9]; decide) (Nat.zero_le _) rfl (hv2.thr h8) hW2 (fun H3 locs3 hW3 => ?_)
  have ek : (k = k) = True := eq_self _
  refine segB_ok (M := ML_law) C hW3 hb2 ?_ hL3
  simp only [g_L_law_815, g_L_law_817, g_L_law_820, g_L_law_822, g_L_law_2226, ek, true_and, and_true, rf_s, not_true_eq_false, not_false_eq_true, true_implies, false_implies, kl_i, kl_n, kl_l, kl_r, Option.toList, List.cons_append, List.nil_append, if_true, if_false, u2s, lt00, lt01, lt02, lt03, le10, le20, le30, ne10, ne20, ne30, eq00]
  refine g_L_law_2229.mpr ?_
  simp only [g_L_law_28, g_L_law_30, nIa5, true_and, and_true, rf_s, not_true_eq_false, not_false_eq_true, true_implies, false_implies, kl_i, kl_n, kl_l, kl_r, Option.toList, List.cons_append, List.nil_append, if_true, if_false, u2s, lt00, lt01, lt02, lt03, le10, le20, le30, ne10, ne20, ne30, eq00]
  refine gs_L_law_31 ?_
  rintro - ls4 hL4
  exact hk _ _ _ _ _ _ _ _ _ _ hW3 hv2 hL4
theorem law_c14 (C : Cx E 10 cL_law 10 p s m args meth c) (hT : TX E s) (hEA : ∀ q, q ∈ E.2.2.2.2 → s.heap.size ≤ q) (hfl : l.stackTraces = false) (hR : 19 ≤ R.frames ∧ 1400 ≤ R.locals) (hcs : cells + 1 ≤ R.cells ∧ slots + 6 ≤ R.slots) (hi : i + 5 ≤ L) (hLL : L ≤ 2560) (hk : Lh p l e R s m args below meth c Q E b L xs x m9 w od (i + 5) (cells + 1) (slots + 6)) : Lp p l e R s m args below meth c Q E b L xs x m9 w od 825 i cells slots := by
  intro I J P H locs ls y6 y7 y8 y9 hW hv hL
  have hE := C.2.2.2.2.2.2.2
  have hb := hv.2.2.1
  obtain ⟨hx8, hm9, hwb, hSo, hNo⟩ := hv.sh
  obtain ⟨k, I1, J1, P1, rb, I2, J2, hw, hb1, hc, h8, hr, hv2⟩ := op_personData hE hfl hv (xs (i + 1)) (xs (i + 2))
  obtain ⟨v, rfl⟩ := cw_int hc (Or.inl rfl)
  have hb2 := hv2.2.2.1
  refine segB_ok (M := ML_law) C hW hb ?_ hL
  simp only [g_L_law_825, g_L_law_826, g_L_law_827, g_L_law_829, g_L_law_830, g_L_law_831, g_L_law_832, g_L_law_833, g_L_law_835, g_L_law_836, g_L_law_837, g_L_law_838, nIp, nIa2, nIa3, nIa4, nI_clamp (show i + 1 < 2 ^ 31 by omega), nI_clamp (show i + 2 < 2 ^ 31 by omega), nI_clamp (show i + 3 < 2 ^ 31 by omega), nI_clamp (show i + 4 < 2 ^ 31 by omega), vpn (show i + 1 < L by omega) (show L < 2 ^ 31 by omega), vpn (show i + 2 < L by omega) (show L < 2 ^ 31 by omega), vpn (show i + 3 < L by omega) (show L < 2 ^ 31 by omega), vpn (show i + 4 < L by omega) (show L < 2 ^ 31 by omega), S2_b, N2_b, hb, true_and, and_true, rf_s, not_true_eq_false, not_false_eq_true, true_implies, false_implies, kl_i, kl_n, kl_l, kl_r, Option.toList, List.cons_append, List.nil_append, if_true, if_false, u2s, lt00, lt01, lt02, lt03, le10, le20, le30, ne10, ne20, ne30, eq00]
  refine gs_L_law_839 ?_
  rintro - ls1 hL1
  refine sg_cWL (M := ML_personData) (As := [.ref x, .int (xs (i + 1)), .int (xs (i + 2)), .ref w]) (pc2 := 842) rfl C hT hEA hL1 hR hcs dL_law_839 lk_personData ML_personData_ok rfl rfl hw hW (fun H1 locs1 hW1 => ?_)
  refine segB_ok (M := ML_law) C hW1 hb1 ?_ hL1
  simp only [g_L_law_842, g_L_law_844, g_L_law_845, g_L_law_846, g_L_law_848, g_L_law_849, g_L_law_850, g_L_law_851, g_L_law_852, g_L_law_854, g_L_law_855, g_L_law_856, nIp, nIa2, nIa3, nIa4, nI_clamp (show i + 1 < 2 ^ 31 by omega), nI_clamp (show i + 2 < 2 ^ 31 by omega), nI_clamp (show i + 3 < 2 ^ 31 by omega), nI_clamp (show i + 4 < 2 ^ 31 by omega), vpn (show i + 1 < L by omega) (show L < 2 ^ 31 by omega), vpn (show i + 2 < L by omega) (show L < 2 ^ 31 by omega), vpn (show i + 3 < L by omega) (show L < 2 ^ 31 by omega), vpn (show i + 4 < L by omega) (show L < 2 ^ 31 by omega), S2_b, N2_b, hb1, true_and, and_true, rf_s, not_true_eq_false, not_false_eq_true, true_implies, false_implies, kl_i, kl_n, kl_l, kl_r, Option.toList, List.cons_append, List.nil_append, if_true, if_false, u2s, lt00, lt01, lt02, lt03, le10, le20, le30, ne10, ne20, ne30, eq00]
  refine gs_L_law_857 ?_
  rintro - ls2 hL2
  refine sg_cL (M := MX9_personData) (As := [.int (xs (i + 1)), .int (xs (i + 2))]) (b' := m9) (pc2 := 860) rfl (some (.int v)) C hL2 (d := 11) ⟨by omega, by omega⟩ ⟨by omega, by omega⟩ dL_law_857 rfl rfl rfl hm9 (by rw [hm9]; decide) (Nat.zero_le _) rfl hc hW1 (fun H2 locs2 hW2 => ?_)
  refine segB_ok (M := ML_law) C hW2 hb2 ?_ hL2
  simp only [g_L_law_860, g_L_law_862, S2_b, true_and, and_true, rf_s, not_true_eq_false, not_false_eq_true, true_implies, false_implies, kl_i, kl_n, kl_l, kl_r, Option.toList, List.cons_append, List.nil_append, if_true, if_false, u2s, lt00, lt01, lt02, lt03, le10, le20, le30, ne10, ne20, ne30, eq00]
  refine gs_L_law_863 ?_
  rintro - ls3 hL3
  refine sg_cL (M := MX9_thrown) (As := []) (b' := m9) (pc2 := 866) rfl (some (.int k)) C hL3 (d := 0) ⟨by omega, by omega⟩ ⟨by omega, by omega⟩ dL_law_863 rfl rfl rfl hm9 (by rw [hm9]; decide) (Nat.zero_le _) rfl (hv2.thr h8) hW2 (fun H3 locs3 hW3 => ?_)
  have ek : (k = k) = True := eq_self _
  refine segB_ok (M := ML_law) C hW3 hb2 ?_ hL3
  by_cases hk0 : k = 0
  · have hout : J2 w 0 = v.toInt64 := hr hk0 _ rfl
    have ev : (v.toInt64 = v.toInt64) = True := eq_self _
    simp only [g_L_law_866, g_L_law_868, g_L_law_871, g_L_law_873, g_L_law_875, g_L_law_878, g_L_law_879, g_L_law_880, g_L_law_881, g_L_law_883, g_L_law_884, g_L_law_885, g_L_law_888, g_L_law_890, g_L_law_2226, ek, hk0, S2_o hwb, N2_o hwb, hSo, hNo, eq_true vi01, cl_0, hout, lc_eq, ev, eq_self, true_and, and_true, rf_s, not_true_eq_false, not_false_eq_true, true_implies, false_implies, kl_i, kl_n, kl_l, kl_r, Option.toList, List.cons_append, List.nil_append, if_true, if_false, u2s, lt00, lt01, lt02, lt03, le10, le20, le30, ne10, ne20, ne30, eq00]
    refine g_L_law_2229.mpr ?_
    simp only [g_L_law_28, g_L_law_30, nIa5, true_and, and_true, rf_s, not_true_eq_false, not_false_eq_true, true_implies, false_implies, kl_i, kl_n, kl_l, kl_r, Option.toList, List.cons_append, List.nil_append, if_true, if_false, u2s, lt00, lt01, lt02, lt03, le10, le20, le30, ne10, ne20, ne30, eq00]
    refine gs_L_law_31 ?_
    rintro - ls4 hL4
    exact hk _ _ _ _ _ _ _ _ _ _ hW3 hv2 hL4
  · simp only [g_L_law_866, g_L_law_868, g_L_law_871, g_L_law_873, g_L_law_875, g_L_law_878, g_L_law_879, g_L_law_880, g_L_law_881, g_L_law_883, g_L_law_884, g_L_law_885, g_L_law_888, g_L_law_890, g_L_law_2226, ek, hk0, true_and, and_true, rf_s, not_true_eq_false, not_false_eq_true, true_implies, false_implies, kl_i, kl_n, kl_l, kl_r, Option.toList, List.cons_append, List.nil_append, if_true, if_false, u2s, lt00, lt01, lt02, lt03, le10, le20, le30, ne10, ne20, ne30, eq00]
    refine g_L_law_2229.mpr ?_
    simp only [g_L_law_28, g_L_law_30, nIa5, true_and, and_true, rf_s, not_true_eq_false, not_false_eq_true, true_implies, false_implies, kl_i, kl_n, kl_l, kl_r, Option.toList, List.cons_append, List.nil_append, if_true, if_false, u2s, lt00, lt01, lt02, lt03, le10, le20, le30, ne10, ne20, ne30, eq00]
    refine gs_L_law_31 ?_
    rintro - ls4 hL4
    exact hk _ _ _ _ _ _ _ _ _ _ hW3 hv2 hL4
theorem law_c15 (C : Cx E 10 cL_law 10 p s m args meth c) (hT : TX E s) (hEA : ∀ q, q ∈ E.2.2.2.2 → s.heap.size ≤ q) (hfl : l.stackTraces = false) (hR : 19 ≤ R.frames ∧ 1400 ≤ R.locals) (hcs : cells + 1 ≤ R.cells ∧ slots + 6 ≤ R.slots) (hi : i + 5 ≤ L) (hLL : L ≤ 2560) (hk : Lh p l e R s m args below meth c Q E b L xs x m9 w od (i + 5) (cells + 1) (slots + 6)) : Lp p l e R s m args below meth c Q E b L xs x m9 w od 893 i cells slots := by
  intro I J P H locs ls y6 y7 y8 y9 hW hv hL
  have hE := C.2.2.2.2.2.2.2
  have hb := hv.2.2.1
  obtain ⟨hx8, hm9, hwb, hSo, hNo⟩ := hv.sh
  obtain ⟨k, I1, J1, P1, rb, I2, J2, hw, hb1, hc, h8, hr, hv2⟩ := op_marry hE hfl hv (xs (i + 1)) (xs (i + 2))
  obtain rfl := cw_none hc rfl
  have hb2 := hv2.2.2.1
  refine segB_ok (M := ML_law) C hW hb ?_ hL
  simp only [g_L_law_893, g_L_law_894, g_L_law_895, g_L_law_897, g_L_law_898, g_L_law_899, g_L_law_900, g_L_law_901, g_L_law_903, g_L_law_904, g_L_law_905, nIp, nIa2, nIa3, nIa4, nI_clamp (show i + 1 < 2 ^ 31 by omega), nI_clamp (show i + 2 < 2 ^ 31 by omega), nI_clamp (show i + 3 < 2 ^ 31 by omega), nI_clamp (show i + 4 < 2 ^ 31 by omega), vpn (show i + 1 < L by omega) (show L < 2 ^ 31 by omega), vpn (show i + 2 < L by omega) (show L < 2 ^ 31 by omega), vpn (show i + 3 < L by omega) (show L < 2 ^ 31 by omega), vpn (show i + 4 < L by omega) (show L < 2 ^ 31 by omega), S2_b, N2_b, hb, true_and, and_true, rf_s, not_true_eq_false, not_false_eq_true, true_implies, false_implies, kl_i, kl_n, kl_l, kl_r, Option.toList, List.cons_append, List.nil_append, if_true, if_false, u2s, lt00, lt01, lt02, lt03, le10, le20, le30, ne10, ne20, ne30, eq00]
  refine gs_L_law_906 ?_
  rintro - ls1 hL1
  refine sg_cWL (M := ML_marry) (As := [.ref x, .int (xs (i + 1)), .int (xs (i + 2))]) (pc2 := 909) rfl C hT hEA hL1 hR hcs dL_law_906 lk_marry ML_marry_ok rfl rfl hw hW (fun H1 locs1 hW1 => ?_)
  refine segB_ok (M := ML_law) C hW1 hb1 ?_ hL1
  simp only [g_L_law_909, g_L_law_911, g_L_law_912, g_L_law_913, g_L_law_915, g_L_law_916, g_L_law_917, g_L_law_918, g_L_law_919, g_L_law_921, g_L_law_922, g_L_law_923, nIp, nIa2, nIa3, nIa4, nI_clamp (show i + 1 < 2 ^ 31 by omega), nI_clamp (show i + 2 < 2 ^ 31 by omega), nI_clamp (show i + 3 < 2 ^ 31 by omega), nI_clamp (show i + 4 < 2 ^ 31 by omega), vpn (show i + 1 < L by omega) (show L < 2 ^ 31 by omega), vpn (show i + 2 < L by omega) (show L < 2 ^ 31 by omega), vpn (show i + 3 < L by omega) (show L < 2 ^ 31 by omega), vpn (show i + 4 < L by omega) (show L < 2 ^ 31 by omega), S2_b, N2_b, hb1, true_and, and_true, rf_s, not_true_eq_false, not_false_eq_true, true_implies, false_implies, kl_i, kl_n, kl_l, kl_r, Option.toList, List.cons_append, List.nil_append, if_true, if_false, u2s, lt00, lt01, lt02, lt03, le10, le20, le30, ne10, ne20, ne30, eq00]
  refine gs_L_law_924 ?_
  rintro - ls2 hL2
  refine sg_cL (M := MX9_marry) (As := [.int (xs (i + 1)), .int (xs (i + 2))]) (b' := m9) (pc2 := 927) rfl (none) C hL2 (d := 11) ⟨by omega, by omega⟩ ⟨by omega, by omega⟩ dL_law_924 rfl rfl rfl hm9 (by rw [hm9]; decide) (Nat.zero_le _) rfl hc hW1 (fun H2 locs2 hW2 => ?_)
  refine segB_ok (M := ML_law) C hW2 hb2 ?_ hL2
  simp only [g_L_law_927, S2_b, true_and, and_true, rf_s, not_true_eq_false, not_false_eq_true, true_implies, false_implies, kl_i, kl_n, kl_l, kl_r, Option.toList, List.cons_append, List.nil_append, if_true, if_false, u2s, lt00, lt01, lt02, lt03, le10, le20, le30, ne10, ne20, ne30, eq00]
  refine gs_L_law_928 ?_
  rintro - ls3 hL3
  refine sg_cL (M := MX9_thrown) (As := []) (b' := m9) (pc2 := 931) rfl (some (.int k)) C hL3 (d := 0) ⟨by omega, by omega⟩ ⟨by omega, by omega⟩ dL_law_928 rfl rfl rfl hm9 (by rw [hm9]; decide) (Nat.zero_le _) rfl (hv2.thr h8) hW2 (fun H3 locs3 hW3 => ?_)
  have ek : (k = k) = True := eq_self _
  refine segB_ok (M := ML_law) C hW3 hb2 ?_ hL3
  simp only [g_L_law_931, g_L_law_933, g_L_law_936, g_L_law_938, g_L_law_2226, ek, true_and, and_true, rf_s, not_true_eq_false, not_false_eq_true, true_implies, false_implies, kl_i, kl_n, kl_l, kl_r, Option.toList, List.cons_append, List.nil_append, if_true, if_false, u2s, lt00, lt01, lt02, lt03, le10, le20, le30, ne10, ne20, ne30, eq00]
  refine g_L_law_2229.mpr ?_
  simp only [g_L_law_28, g_L_law_30, nIa5, true_and, and_true, rf_s, not_true_eq_false, not_false_eq_true, true_implies, false_implies, kl_i, kl_n, kl_l, kl_r, Option.toList, List.cons_append, List.nil_append, if_true, if_false, u2s, lt00, lt01, lt02, lt03, le10, le20, le30, ne10, ne20, ne30, eq00]
  refine gs_L_law_31 ?_
  rintro - ls4 hL4
  exact hk _ _ _ _ _ _ _ _ _ _ hW3 hv2 hL4
theorem law_c16 (C : Cx E 10 cL_law 10 p s m args meth c) (hT : TX E s) (hEA : ∀ q, q ∈ E.2.2.2.2 → s.heap.size ≤ q) (hfl : l.stackTraces = false) (hR : 19 ≤ R.frames ∧ 1400 ≤ R.locals) (hcs : cells + 1 ≤ R.cells ∧ slots + 6 ≤ R.slots) (hi : i + 5 ≤ L) (hLL : L ≤ 2560) (hk : Lh p l e R s m args below meth c Q E b L xs x m9 w od (i + 5) (cells + 1) (slots + 6)) : Lp p l e R s m args below meth c Q E b L xs x m9 w od 941 i cells slots := by
  intro I J P H locs ls y6 y7 y8 y9 hW hv hL
  have hE := C.2.2.2.2.2.2.2
  have hb := hv.2.2.1
  obtain ⟨hx8, hm9, hwb, hSo, hNo⟩ := hv.sh
  obtain ⟨k, I1, J1, P1, rb, I2, J2, hw, hb1, hc, h8, hr, hv2⟩ := op_part hE hfl hv (xs (i + 1))
  obtain ⟨v, rfl⟩ := cw_int hc (Or.inl rfl)
  have hb2 := hv2.2.2.1
  refine segB_ok (M := ML_law) C hW hb ?_ hL
  simp only [g_L_law_941, g_L_law_942, g_L_law_943, g_L_law_945, g_L_law_946, g_L_law_947, g_L_law_948, nIp, nIa2, nIa3, nIa4, nI_clamp (show i + 1 < 2 ^ 31 by omega), nI_clamp (show i + 2 < 2 ^ 31 by omega), nI_clamp (show i + 3 < 2 ^ 31 by omega), nI_clamp (show i + 4 < 2 ^ 31 by omega), vpn (show i + 1 < L by omega) (show L < 2 ^ 31 by omega), vpn (show i + 2 < L by omega) (show L < 2 ^ 31 by omega), vpn (show i + 3 < L by omega) (show L < 2 ^ 31 by omega), vpn (show i + 4 < L by omega) (show L < 2 ^ 31 by omega), S2_b, N2_b, hb, true_and, and_true, rf_s, not_true_eq_false, not_false_eq_true, true_implies, false_implies, kl_i, kl_n, kl_l, kl_r, Option.toList, List.cons_append, List.nil_append, if_true, if_false, u2s, lt00, lt01, lt02, lt03, le10, le20, le30, ne10, ne20, ne30, eq00]
  refine gs_L_law_949 ?_
  rintro - ls1 hL1
  refine sg_cWL (M := ML_part) (As := [.ref x, .int (xs (i + 1)), .ref w]) (pc2 := 952) rfl C hT hEA hL1 hR hcs dL_law_949 lk_part ML_part_ok rfl rfl hw hW (fun H1 locs1 hW1 => ?_)
  refine segB_ok (M := ML_law) C hW1 hb1 ?_ hL1
  simp only [g_L_law_952, g_L_law_954, g_L_law_955, g_L_law_956, g_L_law_958, g_L_law_959, g_L_law_960, nIp, nIa2, nIa3, nIa4, nI_clamp (show i + 1 < 2 ^ 31 by omega), nI_clamp (show i + 2 < 2 ^ 31 by omega), nI_clamp (show i + 3 < 2 ^ 31 by omega), nI_clamp (show i + 4 < 2 ^ 31 by omega), vpn (show i + 1 < L by omega) (show L < 2 ^ 31 by omega), vpn (show i + 2 < L by omega) (show L < 2 ^ 31 by omega), vpn (show i + 3 < L by omega) (show L < 2 ^ 31 by omega), vpn (show i + 4 < L by omega) (show L < 2 ^ 31 by omega), S2_b, N2_b, hb1, true_and, and_true, rf_s, not_true_eq_false, not_false_eq_true, true_implies, false_implies, kl_i, kl_n, kl_l, kl_r, Option.toList, List.cons_append, List.nil_append, if_true, if_false, u2s, lt00, lt01, lt02, lt03, le10, le20, le30, ne10, ne20, ne30, eq00]
  refine gs_L_law_961 ?_
  rintro - ls2 hL2
  refine sg_cL (M := MX9_part) (As := [.int (xs (i + 1))]) (b' := m9) (pc2 := 964) rfl (some (.int v)) C hL2 (d := 11) ⟨by omega, by omega⟩ ⟨by omega, by omega⟩ dL_law_961 rfl rfl rfl hm9 (by rw [hm9]; decide) (Nat.zero_le _) rfl hc hW1 (fun H2 locs2 hW2 => ?_)
  refine segB_ok (M := ML_law) C hW2 hb2 ?_ hL2
  simp only [g_L_law_964, g_L_law_966, S2_b, true_and, and_true, rf_s, not_true_eq_false, not_false_eq_true, true_implies, false_implies, kl_i, kl_n, kl_l, kl_r, Option.toList, List.cons_append, List.nil_append, if_true, if_false, u2s, lt00, lt01, lt02, lt03, le10, le20, le30, ne10, ne20, ne30, eq00]
  refine gs_L_law_967 ?_
  rintro - ls3 hL3
  refine sg_cL (M := MX9_thrown) (As := []) (b' := m9) (pc2 := 970) rfl (some (.int k)) C hL3 (d := 0) ⟨by omega, by omega⟩ ⟨by omega, by omega⟩ dL_law_967 rfl rfl rfl hm9 (by rw [hm9]; decide) (Nat.zero_le _) rfl (hv2.thr h8) hW2 (fun H3 locs3 hW3 => ?_)
  have ek : (k = k) = True := eq_self _
  refine segB_ok (M := ML_law) C hW3 hb2 ?_ hL3
  by_cases hk0 : k = 0
  · have hout : J2 w 0 = v.toInt64 := hr hk0 _ rfl
    have ev : (v.toInt64 = v.toInt64) = True := eq_self _
    simp only [g_L_law_970, g_L_law_972, g_L_law_975, g_L_law_977, g_L_law_979, g_L_law_982, g_L_law_983, g_L_law_984, g_L_law_985, g_L_law_987, g_L_law_988, g_L_law_989, g_L_law_992, g_L_law_994, g_L_law_2226, ek, hk0, S2_o hwb, N2_o hwb, hSo, hNo, eq_true vi01, cl_0, hout, lc_eq, ev, eq_self, true_and, and_true, rf_s, not_true_eq_false, not_false_eq_true, true_implies, false_implies, kl_i, kl_n, kl_l, kl_r, Option.toList, List.cons_append, List.nil_append, if_true, if_false, u2s, lt00, lt01, lt02, lt03, le10, le20, le30, ne10, ne20, ne30, eq00]
    refine g_L_law_2229.mpr ?_
    simp only [g_L_law_28, g_L_law_30, nIa5, true_and, and_true, rf_s, not_true_eq_false, not_false_eq_true, true_implies, false_implies, kl_i, kl_n, kl_l, kl_r, Option.toList, List.cons_append, List.nil_append, if_true, if_false, u2s, lt00, lt01, lt02, lt03, le10, le20, le30, ne10, ne20, ne30, eq00]
    refine gs_L_law_31 ?_
    rintro - ls4 hL4
    exact hk _ _ _ _ _ _ _ _ _ _ hW3 hv2 hL4
  · simp only [g_L_law_970, g_L_law_972, g_L_law_975, g_L_law_977, g_L_law_979, g_L_law_982, g_L_law_983, g_L_law_984, g_L_law_985, g_L_law_987, g_L_law_988, g_L_law_989, g_L_law_992, g_L_law_994, g_L_law_2226, ek, hk0, true_and, and_true, rf_s, not_true_eq_false, not_false_eq_true, true_implies, false_implies, kl_i, kl_n, kl_l, kl_r, Option.toList, List.cons_append, List.nil_append, if_true, if_false, u2s, lt00, lt01, lt02, lt03, le10, le20, le30, ne10, ne20, ne30, eq00]
    refine g_L_law_2229.mpr ?_
    simp only [g_L_law_28, g_L_law_30, nIa5, true_and, and_true, rf_s, not_true_eq_false, not_false_eq_true, true_implies, false_implies, kl_i, kl_n, kl_l, kl_r, Option.toList, List.cons_append, List.nil_append, if_true, if_false, u2s, lt00, lt01, lt02, lt03, le10, le20, le30, ne10, ne20, ne30, eq00]
    refine gs_L_law_31 ?_
    rintro - ls4 hL4
    exact hk _ _ _ _ _ _ _ _ _ _ hW3 hv2 hL4
theorem law_c17 (C : Cx E 10 cL_law 10 p s m args meth c) (hT : TX E s) (hEA : ∀ q, q ∈ E.2.2.2.2 → s.heap.size ≤ q) (hfl : l.stackTraces = false) (hR : 19 ≤ R.frames ∧ 1400 ≤ R.locals) (hcs : cells + 1 ≤ R.cells ∧ slots + 6 ≤ R.slots) (hi : i + 5 ≤ L) (hLL : L ≤ 2560) (hk : Lh p l e R s m args below meth c Q E b L xs x m9 w od (i + 5) (cells + 1) (slots + 6)) : Lp p l e R s m args below meth c Q E b L xs x m9 w od 997 i cells slots := by
  intro I J P H locs ls y6 y7 y8 y9 hW hv hL
  have hE := C.2.2.2.2.2.2.2
  have hb := hv.2.2.1
  obtain ⟨hx8, hm9, hwb, hSo, hNo⟩ := hv.sh
  obtain ⟨k, I1, J1, P1, rb, I2, J2, hw, hb1, hc, h8, hr, hv2⟩ := op_partner hE hfl hv (xs (i + 1))
  obtain ⟨v, rfl⟩ := cw_int hc (Or.inl rfl)
  have hb2 := hv2.2.2.1
  refine segB_ok (M := ML_law) C hW hb ?_ hL
  simp only [g_L_law_997, g_L_law_998, g_L_law_999, g_L_law_1001, g_L_law_1002, g_L_law_1003, g_L_law_1004, nIp, nIa2, nIa3, nIa4, nI_clamp (show i + 1 < 2 ^ 31 by omega), nI_clamp (show i + 2 < 2 ^ 31 by omega), nI_clamp (show i + 3 < 2 ^ 31 by omega), nI_clamp (show i + 4 < 2 ^ 31 by omega), vpn (show i + 1 < L by omega) (show L < 2 ^ 31 by omega), vpn (show i + 2 < L by omega) (show L < 2 ^ 31 by omega), vpn (show i + 3 < L by omega) (show L < 2 ^ 31 by omega), vpn (show i + 4 < L by omega) (show L < 2 ^ 31 by omega), S2_b, N2_b, hb, true_and, and_true, rf_s, not_true_eq_false, not_false_eq_true, true_implies, false_implies, kl_i, kl_n, kl_l, kl_r, Option.toList, List.cons_append, List.nil_append, if_true, if_false, u2s, lt00, lt01, lt02, lt03, le10, le20, le30, ne10, ne20, ne30, eq00]
  refine gs_L_law_1005 ?_
  rintro - ls1 hL1
  refine sg_cWL (M := ML_partner) (As := [.ref x, .int (xs (i + 1)), .ref w]) (pc2 := 1008) rfl C hT hEA hL1 hR hcs dL_law_1005 lk_partner ML_partner_ok rfl rfl hw hW (fun H1 locs1 hW1 => ?_)
  refine segB_ok (M := ML_law) C hW1 hb1 ?_ hL1
  simp only [g_L_law_1008, g_L_law_1010, g_L_law_1011, g_L_law_1012, g_L_law_1014, g_L_law_1015, g_L_law_1016, nIp, nIa2, nIa3, nIa4, nI_clamp (show i + 1 < 2 ^ 31 by omega), nI_clamp (show i + 2 < 2 ^ 31 by omega), nI_clamp (show i + 3 < 2 ^ 31 by omega), nI_clamp (show i + 4 < 2 ^ 31 by omega), vpn (show i + 1 < L by omega) (show L < 2 ^ 31 by omega), vpn (show i + 2 < L by omega) (show L < 2 ^ 31 by omega), vpn (show i + 3 < L by omega) (show L < 2 ^ 31 by omega), vpn (show i + 4 < L by omega) (show L < 2 ^ 31 by omega), S2_b, N2_b, hb1, true_and, and_true, rf_s, not_true_eq_false, not_false_eq_true, true_implies, false_implies, kl_i, kl_n, kl_l, kl_r, Option.toList, List.cons_append, List.nil_append, if_true, if_false, u2s, lt00, lt01, lt02, lt03, le10, le20, le30, ne10, ne20, ne30, eq00]
  refine gs_L_law_1017 ?_
  rintro - ls2 hL2
  refine sg_cL (M := MX9_partner) (As := [.int (xs (i + 1))]) (b' := m9) (pc2 := 1020) rfl (some (.int v)) C hL2 (d := 11) ⟨by omega, by omega⟩ ⟨by omega, by omega⟩ dL_law_1017 rfl rfl rfl hm9 (by rw [hm9]; decide) (Nat.zero_le _) rfl hc hW1 (fun H2 locs2 hW2 => ?_)
  refine segB_ok (M := ML_law) C hW2 hb2 ?_ hL2
  simp only [g_L_law_1020, g_L_law_1022, S2_b, true_and, and_true, rf_s, not_true_eq_false, not_false_eq_true, true_implies, false_implies, kl_i, kl_n, kl_l, kl_r, Option.toList, List.cons_append, List.nil_append, if_true, if_false, u2s, lt00, lt01, lt02, lt03, le10, le20, le30, ne10, ne20, ne30, eq00]
  refine gs_L_law_1023 ?_
  rintro - ls3 hL3
  refine sg_cL (M := MX9_thrown) (As := []) (b' := m9) (pc2 := 1026) rfl (some (.int k)) C hL3 (d := 0) ⟨by omega, by omega⟩ ⟨by omega, by omega⟩ dL_law_1023 rfl rfl rfl hm9 (by rw [hm9]; decide) (Nat.zero_le _) rfl (hv2.thr h8) hW2 (fun H3 locs3 hW3 => ?_)
  have ek : (k = k) = True := eq_self _
  refine segB_ok (M := ML_law) C hW3 hb2 ?_ hL3
  by_cases hk0 : k = 0
  · have hout : J2 w 0 = v.toInt64 := hr hk0 _ rfl
    have ev : (v.toInt64 = v.toInt64) = True := eq_self _
    simp only [g_L_law_1026, g_L_law_1028, g_L_law_1031, g_L_law_1033, g_L_law_1035, g_L_law_1038, g_L_law_1039, g_L_law_1040, g_L_law_1041, g_L_law_1043, g_L_law_1044, g_L_law_1045, g_L_law_1048, g_L_law_1050, g_L_law_2226, ek, hk0, S2_o hwb, N2_o hwb, hSo, hNo, eq_true vi01, cl_0, hout, lc_eq, ev, eq_self, true_and, and_true, rf_s, not_true_eq_false, not_false_eq_true, true_implies, false_implies, kl_i, kl_n, kl_l, kl_r, Option.toList, List.cons_append, List.nil_append, if_true, if_false, u2s, lt00, lt01, lt02, lt03, le10, le20, le30, ne10, ne20, ne30, eq00]
    refine g_L_law_2229.mpr ?_
    simp only [g_L_law_28, g_L_law_30, nIa5, true_and, and_true, rf_s, not_true_eq_false, not_false_eq_true, true_implies, false_implies, kl_i, kl_n, kl_l, kl_r, Option.toList, List.cons_append, List.nil_append, if_true, if_false, u2s, lt00, lt01, lt02, lt03, le10, le20, le30, ne10, ne20, ne30, eq00]
    refine gs_L_law_31 ?_
    rintro - ls4 hL4
    exact hk _ _ _ _ _ _ _ _ _ _ hW3 hv2 hL4
  · simp only [g_L_law_1026, g_L_law_1028, g_L_law_1031, g_L_law_1033, g_L_law_1035, g_L_law_1038, g_L_law_1039, g_L_law_1040, g_L_law_1041, g_L_law_1043, g_L_law_1044, g_L_law_1045, g_L_law_1048, g_L_law_1050, g_L_law_2226, ek, hk0, true_and, and_true, rf_s, not_true_eq_false, not_false_eq_true, true_implies, false_implies, kl_i, kl_n, kl_l, kl_r, Option.toList, List.cons_append, List.nil_append, if_true, if_false, u2s, lt00, lt01, lt02, lt03, le10, le20, le30, ne10, ne20, ne30, eq00]
    refine g_L_law_2229.mpr ?_
    simp only [g_L_law_28, g_L_law_30, nIa5, true_and, and_true, rf_s, not_true_eq_false, not_false_eq_true, true_implies, false_implies, kl_i, kl_n, kl_l, kl_r, Option.toList, List.cons_append, List.nil_append, if_true, if_false, u2s, lt00, lt01, lt02, lt03, le10, le20, le30, ne10, ne20, ne30, eq00]
    refine gs_L_law_31 ?_
    rintro - ls4 hL4
    exact hk _ _ _ _ _ _ _ _ _ _ hW3 hv2 hL4
end LAWC

/-! the law's cases -/
section LAWC
variable {p : Program} {l : Launch} {e : Env} {R : Room} {s : State} {m : MethodId} {args : Array Value} {below : List Frame} {meth : Method} {c : Code} {Q : State → Prop}
variable {E : tx_En} {cells slots b L od x m9 w i : Nat} {xs : Nat → Int32}
theorem law_c26 (C : Cx E 10 cL_law 10 p s m args meth c) (hT : TX E s) (hEA : ∀ q, q ∈ E.2.2.2.2 → s.heap.size ≤ q) (hfl : l.stackTraces = false) (hR : 19 ≤ R.frames ∧ 1400 ≤ R.locals) (hcs : cells + 1 ≤ R.cells ∧ slots + 6 ≤ R.slots) (hi : i + 5 ≤ L) (hLL : L ≤ 2560) (hk : Lh p l e R s m args below meth c Q E b L xs x m9 w od (i + 5) (cells + 1) (slots + 6)) : Lp p l e R s m args below meth c Q E b L xs x m9 w od 1550 i cells slots := by
  intro I J P H locs ls y6 y7 y8 y9 hW hv hL
  have hE := C.2.2.2.2.2.2.2
  have hb := hv.2.2.1
  obtain ⟨hx8, hm9, hwb, hSo, hNo⟩ := hv.sh
  obtain ⟨k, I1, J1, P1, v, I2, J2, hw, hb1, hc, h8, hr, hv2⟩ := op_householdTax hE hfl hv (xs (i + 1))
  have hb2 := hv2.2.2.1
  refine segB_ok (M := ML_law) C hW hb ?_ hL
  simp only [g_L_law_1550, g_L_law_1551, g_L_law_1552, g_L_law_1554, g_L_law_1555, g_L_law_1556, g_L_law_1557, nIp, nIa2, nIa3, nIa4, nI_clamp (show i + 1 < 2 ^ 31 by omega), nI_clamp (show i + 2 < 2 ^ 31 by omega), nI_clamp (show i + 3 < 2 ^ 31 by omega), nI_clamp (show i + 4 < 2 ^ 31 by omega), vpn (show i + 1 < L by omega) (show L < 2 ^ 31 by omega), vpn (show i + 2 < L by omega) (show L < 2 ^ 31 by omega), vpn (show i + 3 < L by omega) (show L < 2 ^ 31 by omega), vpn (show i + 4 < L by omega) (show L < 2 ^ 31 by omega), S2_b, N2_b, hb, true_and, and_true, rf_s, not_true_eq_false, not_false_eq_true, true_implies, false_implies, kl_i, kl_n, kl_l, kl_r, Option.toList, List.cons_append, List.nil_append, if_true, if_false, u2s, lt00, lt01, lt02, lt03, le10, le20, le30, ne10, ne20, ne30, eq00]
  refine gs_L_law_1558 ?_
  rintro - ls1 hL1
  refine sg_cWL (M := ML_householdTax) (As := [.ref x, .int (xs (i + 1)), .ref w]) (pc2 := 1561) rfl C hT hEA hL1 hR hcs dL_law_1558 lk_householdTax ML_householdTax_ok rfl rfl hw hW (fun H1 locs1 hW1 => ?_)
  refine segB_ok (M := ML_law) C hW1 hb1 ?_ hL1
  simp only [g_L_law_1561, g_L_law_1563, g_L_law_1564, g_L_law_1565, g_L_law_1567, g_L_law_1568, g_L_law_1569, nIp, nIa2, nIa3, nIa4, nI_clamp (show i + 1 < 2 ^ 31 by omega), nI_clamp (show i + 2 < 2 ^ 31 by omega), nI_clamp (show i + 3 < 2 ^ 31 by omega), nI_clamp (show i + 4 < 2 ^ 31 by omega), vpn (show i + 1 < L by omega) (show L < 2 ^ 31 by omega), vpn (show i + 2 < L by omega) (show L < 2 ^ 31 by omega), vpn (show i + 3 < L by omega) (show L < 2 ^ 31 by omega), vpn (show i + 4 < L by omega) (show L < 2 ^ 31 by omega), S2_b, N2_b, hb1, true_and, and_true, rf_s, not_true_eq_false, not_false_eq_true, true_implies, false_implies, kl_i, kl_n, kl_l, kl_r, Option.toList, List.cons_append, List.nil_append, if_true, if_false, u2s, lt00, lt01, lt02, lt03, le10, le20, le30, ne10, ne20, ne30, eq00]
  refine gs_L_law_1570 ?_
  rintro - ls2 hL2
  refine sg_cL (M := MX9_householdTax) (As := [.int (xs (i + 1))]) (b' := m9) (pc2 := 1573) rfl (some (.long v)) C hL2 (d := 11) ⟨by omega, by omega⟩ ⟨by omega, by omega⟩ dL_law_1570 rfl rfl rfl hm9 (by rw [hm9]; decide) (Nat.zero_le _) rfl hc hW1 (fun H2 locs2 hW2 => ?_)
  refine segB_ok (M := ML_law) C hW2 hb2 ?_ hL2
  simp only [g_L_law_1573, g_L_law_1575, S2_b, true_and, and_true, rf_s, not_true_eq_false, not_false_eq_true, true_implies, false_implies, kl_i, kl_n, kl_l, kl_r, Option.toList, List.cons_append, List.nil_append, if_true, if_false, u2s, lt00, lt01, lt02, lt03, le10, le20, le30, ne10, ne20, ne30, eq00]
  refine gs_L_law_1576 ?_
  rintro - ls3 hL3
  refine sg_cL (M := MX9_thrown) (As := []) (b' := m9) (pc2 := 1579) rfl (some (.int k)) C hL3 (d := 0) ⟨by omega, by omega⟩ ⟨by omega, by omega⟩ dL_law_1576 rfl rfl rfl hm9 (by rw [hm9]; decide) (Nat.zero_le _) rfl (hv2.thr h8) hW2 (fun H3 locs3 hW3 => ?_)
  have ek : (k = k) = True := eq_self _
  refine segB_ok (M := ML_law) C hW3 hb2 ?_ hL3
  by_cases hk0 : k = 0
  · have hout : J2 w 0 = v := hr hk0
    have ev : (v = v) = True := eq_self _
    simp only [g_L_law_1579, g_L_law_1581, g_L_law_1584, g_L_law_1586, g_L_law_1588, g_L_law_1591, g_L_law_1592, g_L_law_1593, g_L_law_1594, g_L_law_1596, g_L_law_1597, g_L_law_1600, g_L_law_1602, g_L_law_2226, ek, hk0, S2_o hwb, N2_o hwb, hSo, hNo, eq_true vi01, cl_0, hout, lc_eq, ev, eq_self, true_and, and_true, rf_s, not_true_eq_false, not_false_eq_true, true_implies, false_implies, kl_i, kl_n, kl_l, kl_r, Option.toList, List.cons_append, List.nil_append, if_true, if_false, u2s, lt00, lt01, lt02, lt03, le10, le20, le30, ne10, ne20, ne30, eq00]
    refine g_L_law_2229.mpr ?_
    simp only [g_L_law_28, g_L_law_30, nIa5, true_and, and_true, rf_s, not_true_eq_false, not_false_eq_true, true_implies, false_implies, kl_i, kl_n, kl_l, kl_r, Option.toList, List.cons_append, List.nil_append, if_true, if_false, u2s, lt00, lt01, lt02, lt03, le10, le20, le30, ne10, ne20, ne30, eq00]
    refine gs_L_law_31 ?_
    rintro - ls4 hL4
    exact hk _ _ _ _ _ _ _ _ _ _ hW3 hv2 hL4
  · simp only [g_L_law_1579, g_L_law_1581, g_L_law_1584, g_L_law_1586, g_L_law_1588, g_L_law_1591, g_L_law_1592, g_L_law_1593, g_L_law_1594, g_L_law_1596, g_L_law_1597, g_L_law_1600, g_L_law_1602, g_L_law_2226, ek, hk0, true_and, and_true, rf_s, not_true_eq_false, not_false_eq_true, true_implies, false_implies, kl_i, kl_n, kl_l, kl_r, Option.toList, List.cons_append, List.nil_append, if_true, if_false, u2s, lt00, lt01, lt02, lt03, le10, le20, le30, ne10, ne20, ne30, eq00]
    refine g_L_law_2229.mpr ?_
    simp only [g_L_law_28, g_L_law_30, nIa5, true_and, and_true, rf_s, not_true_eq_false, not_false_eq_true, true_implies, false_implies, kl_i, kl_n, kl_l, kl_r, Option.toList, List.cons_append, List.nil_append, if_true, if_false, u2s, lt00, lt01, lt02, lt03, le10, le20, le30, ne10, ne20, ne30, eq00]
    refine gs_L_law_31 ?_
    rintro - ls4 hL4
    exact hk _ _ _ _ _ _ _ _ _ _ hW3 hv2 hL4
theorem law_c27 (C : Cx E 10 cL_law 10 p s m args meth c) (hT : TX E s) (hEA : ∀ q, q ∈ E.2.2.2.2 → s.heap.size ≤ q) (hfl : l.stackTraces = false) (hR : 19 ≤ R.frames ∧ 1400 ≤ R.locals) (hcs : cells + 1 ≤ R.cells ∧ slots + 6 ≤ R.slots) (hi : i + 5 ≤ L) (hLL : L ≤ 2560) (hk : Lh p l e R s m args below meth c Q E b L xs x m9 w od (i + 5) (cells + 1) (slots + 6)) : Lp p l e R s m args below meth c Q E b L xs x m9 w od 1605 i cells slots := by
  intro I J P H locs ls y6 y7 y8 y9 hW hv hL
  have hE := C.2.2.2.2.2.2.2
  have hb := hv.2.2.1
  obtain ⟨hx8, hm9, hwb, hSo, hNo⟩ := hv.sh
  obtain ⟨v, I1, J1, P1, I2, J2, hw, hb1, hc, hv2⟩ := op_totalTax hE hv
  have hb2 := hv2.2.2.1
  have ev : ∀ z : Int32, (z = z) = True := fun _ => eq_self _
  refine segB_ok (M := ML_law) C hW hb ?_ hL
  simp only [g_L_law_1605, S2_b, true_and, and_true, rf_s, not_true_eq_false, not_false_eq_true, true_implies, false_implies, kl_i, kl_n, kl_l, kl_r, Option.toList, List.cons_append, List.nil_append, if_true, if_false, u2s, lt00, lt01, lt02, lt03, le10, le20, le30, ne10, ne20, ne30, eq00]
  refine gs_L_law_1606 ?_
  rintro - ls1 hL1
  refine sg_cL (M := MX8_totalTax) (As := []) (b' := x) (st' := []) (pc2 := 1609) rfl (some (.long v)) C hL1 (d := 11) ⟨by omega, by omega⟩ ⟨by omega, by omega⟩ dL_law_1606 rfl rfl rfl hx8 (by rw [hx8]; decide) (Nat.zero_le _) rfl hw hW (fun H1 locs1 hW1 => ?_)
  refine segB_ok (M := ML_law) C hW1 hb1 ?_ hL1
  simp only [g_L_law_1609, S2_b, true_and, and_true, rf_s, not_true_eq_false, not_false_eq_true, true_implies, false_implies, kl_i, kl_n, kl_l, kl_r, Option.toList, List.cons_append, List.nil_append, if_true, if_false, u2s, lt00, lt01, lt02, lt03, le10, le20, le30, ne10, ne20, ne30, eq00]
  refine gs_L_law_1610 ?_
  rintro - ls2 hL2
  refine sg_cL (M := MX9_totalTax) (As := []) (b' := m9) (st' := [.long v]) (pc2 := 1613) rfl (some (.long v)) C hL2 (d := 11) ⟨by omega, by omega⟩ ⟨by omega, by omega⟩ dL_law_1610 rfl rfl rfl hm9 (by rw [hm9]; decide) (Nat.le_of_ble_eq_true rfl) rfl hc hW1 (fun H3 locs3 hW3 => ?_)
  refine segB_ok (M := ML_law) C hW3 hb2 ?_ hL2
  simp only [g_L_law_1613, g_L_law_1614, g_L_law_2226, eq_self, lc_eq, true_and, and_true, rf_s, not_true_eq_false, not_false_eq_true, true_implies, false_implies, kl_i, kl_n, kl_l, kl_r, Option.toList, List.cons_append, List.nil_append, if_true, if_false, u2s, lt00, lt01, lt02, lt03, le10, le20, le30, ne10, ne20, ne30, eq00]
  refine g_L_law_2229.mpr ?_
  simp only [g_L_law_28, g_L_law_30, nIa5, true_and, and_true, rf_s, not_true_eq_false, not_false_eq_true, true_implies, false_implies, kl_i, kl_n, kl_l, kl_r, Option.toList, List.cons_append, List.nil_append, if_true, if_false, u2s, lt00, lt01, lt02, lt03, le10, le20, le30, ne10, ne20, ne30, eq00]
  refine gs_L_law_31 ?_
  rintro - ls4 hL4
  exact hk.up _ _ _ _ _ _ _ _ _ _ hW3 hv2 hL4
theorem law_c28 (C : Cx E 10 cL_law 10 p s m args meth c) (hT : TX E s) (hEA : ∀ q, q ∈ E.2.2.2.2 → s.heap.size ≤ q) (hfl : l.stackTraces = false) (hR : 19 ≤ R.frames ∧ 1400 ≤ R.locals) (hcs : cells + 1 ≤ R.cells ∧ slots + 6 ≤ R.slots) (hi : i + 5 ≤ L) (hLL : L ≤ 2560) (hk : Lh p l e R s m args below meth c Q E b L xs x m9 w od (i + 5) (cells + 1) (slots + 6)) : Lp p l e R s m args below meth c Q E b L xs x m9 w od 1619 i cells slots := by
  intro I J P H locs ls y6 y7 y8 y9 hW hv hL
  have hE := C.2.2.2.2.2.2.2
  have hb := hv.2.2.1
  obtain ⟨hx8, hm9, hwb, hSo, hNo⟩ := hv.sh
  obtain ⟨r, I1, J1, P1, I2, J2, hw, hb1, hc, hv2⟩ := op_closeYear hE hv
  obtain ⟨v, rfl⟩ := cw_int hc (Or.inl rfl)
  have hb2 := hv2.2.2.1
  have ev : ∀ z : Int32, (z = z) = True := fun _ => eq_self _
  refine segB_ok (M := ML_law) C hW hb ?_ hL
  simp only [g_L_law_1619, S2_b, true_and, and_true, rf_s, not_true_eq_false, not_false_eq_true, true_implies, false_implies, kl_i, kl_n, kl_l, kl_r, Option.toList, List.cons_append, List.nil_append, if_true, if_false, u2s, lt00, lt01, lt02, lt03, le10, le20, le30, ne10, ne20, ne30, eq00]
  refine gs_L_law_1620 ?_
  rintro - ls1 hL1
  refine sg_cL (M := MX8_closeYear) (As := []) (b' := x) (st' := []) (pc2 := 1623) rfl (some (.int v)) C hL1 (d := 11) ⟨by omega, by omega⟩ ⟨by omega, by omega⟩ dL_law_1620 rfl rfl rfl hx8 (by rw [hx8]; decide) (Nat.zero_le _) rfl hw hW (fun H1 locs1 hW1 => ?_)
  refine segB_ok (M := ML_law) C hW1 hb1 ?_ hL1
  simp only [g_L_law_1623, S2_b, true_and, and_true, rf_s, not_true_eq_false, not_false_eq_true, true_implies, false_implies, kl_i, kl_n, kl_l, kl_r, Option.toList, List.cons_append, List.nil_append, if_true, if_false, u2s, lt00, lt01, lt02, lt03, le10, le20, le30, ne10, ne20, ne30, eq00]
  refine gs_L_law_1624 ?_
  rintro - ls2 hL2
  refine sg_cL (M := MX9_closeYear) (As := []) (b' := m9) (st' := [.int v]) (pc2 := 1627) rfl (some (.int v)) C hL2 (d := 11) ⟨by omega, by omega⟩ ⟨by omega, by omega⟩ dL_law_1624 rfl rfl rfl hm9 (by rw [hm9]; decide) (Nat.le_of_ble_eq_true rfl) rfl hc hW1 (fun H3 locs3 hW3 => ?_)
  refine segB_ok (M := ML_law) C hW3 hb2 ?_ hL2
  simp only [g_L_law_1627, g_L_law_2226, eq_self, lc_eq, true_and, and_true, rf_s, not_true_eq_false, not_false_eq_true, true_implies, false_implies, kl_i, kl_n, kl_l, kl_r, Option.toList, List.cons_append, List.nil_append, if_true, if_false, u2s, lt00, lt01, lt02, lt03, le10, le20, le30, ne10, ne20, ne30, eq00]
  refine g_L_law_2229.mpr ?_
  simp only [g_L_law_28, g_L_law_30, nIa5, true_and, and_true, rf_s, not_true_eq_false, not_false_eq_true, true_implies, false_implies, kl_i, kl_n, kl_l, kl_r, Option.toList, List.cons_append, List.nil_append, if_true, if_false, u2s, lt00, lt01, lt02, lt03, le10, le20, le30, ne10, ne20, ne30, eq00]
  refine gs_L_law_31 ?_
  rintro - ls4 hL4
  exact hk.up _ _ _ _ _ _ _ _ _ _ hW3 hv2 hL4
theorem law_c29 (C : Cx E 10 cL_law 10 p s m args meth c) (hT : TX E s) (hEA : ∀ q, q ∈ E.2.2.2.2 → s.heap.size ≤ q) (hfl : l.stackTraces = false) (hR : 19 ≤ R.frames ∧ 1400 ≤ R.locals) (hcs : cells + 1 ≤ R.cells ∧ slots + 6 ≤ R.slots) (hi : i + 5 ≤ L) (hLL : L ≤ 2560) (hk : Lh p l e R s m args below meth c Q E b L xs x m9 w od (i + 5) (cells + 1) (slots + 6)) : Lp p l e R s m args below meth c Q E b L xs x m9 w od 1632 i cells slots := by
  intro I J P H locs ls y6 y7 y8 y9 hW hv hL
  have hE := C.2.2.2.2.2.2.2
  have hb := hv.2.2.1
  obtain ⟨hx8, hm9, hwb, hSo, hNo⟩ := hv.sh
  obtain ⟨r, I1, J1, P1, I2, J2, hw, hb1, hc, hv2⟩ := op_years hE hv
  obtain ⟨v, rfl⟩ := cw_int hc (Or.inl rfl)
  have hb2 := hv2.2.2.1
  have ev : ∀ z : Int32, (z = z) = True := fun _ => eq_self _
  refine segB_ok (M := ML_law) C hW hb ?_ hL
  simp only [g_L_law_1632, S2_b, true_and, and_true, rf_s, not_true_eq_false, not_false_eq_true, true_implies, false_implies, kl_i, kl_n, kl_l, kl_r, Option.toList, List.cons_append, List.nil_append, if_true, if_false, u2s, lt00, lt01, lt02, lt03, le10, le20, le30, ne10, ne20, ne30, eq00]
  refine gs_L_law_1633 ?_
  rintro - ls1 hL1
  refine sg_cL (M := MX8_years) (As := []) (b' := x) (st' := []) (pc2 := 1636) rfl (some (.int v)) C hL1 (d := 11) ⟨by omega, by omega⟩ ⟨by omega, by omega⟩ dL_law_1633 rfl rfl rfl hx8 (by rw [hx8]; decide) (Nat.zero_le _) rfl hw hW (fun H1 locs1 hW1 => ?_)
  refine segB_ok (M := ML_law) C hW1 hb1 ?_ hL1
  simp only [g_L_law_1636, S2_b, true_and, and_true, rf_s, not_true_eq_false, not_false_eq_true, true_implies, false_implies, kl_i, kl_n, kl_l, kl_r, Option.toList, List.cons_append, List.nil_append, if_true, if_false, u2s, lt00, lt01, lt02, lt03, le10, le20, le30, ne10, ne20, ne30, eq00]
  refine gs_L_law_1637 ?_
  rintro - ls2 hL2
  refine sg_cL (M := MX9_years) (As := []) (b' := m9) (st' := [.int v]) (pc2 := 1640) rfl (some (.int v)) C hL2 (d := 11) ⟨by omega, by omega⟩ ⟨by omega, by omega⟩ dL_law_1637 rfl rfl rfl hm9 (by rw [hm9]; decide) (Nat.le_of_ble_eq_true rfl) rfl hc hW1 (fun H3 locs3 hW3 => ?_)
  refine segB_ok (M := ML_law) C hW3 hb2 ?_ hL2
  simp only [g_L_law_1640, g_L_law_2226, eq_self, lc_eq, true_and, and_true, rf_s, not_true_eq_false, not_false_eq_true, true_implies, false_implies, kl_i, kl_n, kl_l, kl_r, Option.toList, List.cons_append, List.nil_append, if_true, if_false, u2s, lt00, lt01, lt02, lt03, le10, le20, le30, ne10, ne20, ne30, eq00]
  refine g_L_law_2229.mpr ?_
  simp only [g_L_law_28, g_L_law_30, nIa5, true_and, and_true, rf_s, not_true_eq_false, not_false_eq_true, true_implies, false_implies, kl_i, kl_n, kl_l, kl_r, Option.toList, List.cons_append, List.nil_append, if_true, if_false, u2s, lt00, lt01, lt02, lt03, le10, le20, le30, ne10, ne20, ne30, eq00]
  refine gs_L_law_31 ?_
  rintro - ls4 hL4
  exact hk.up _ _ _ _ _ _ _ _ _ _ hW3 hv2 hL4
theorem law_c30 (C : Cx E 10 cL_law 10 p s m args meth c) (hT : TX E s) (hEA : ∀ q, q ∈ E.2.2.2.2 → s.heap.size ≤ q) (hfl : l.stackTraces = false) (hR : 19 ≤ R.frames ∧ 1400 ≤ R.locals) (hcs : cells + 1 ≤ R.cells ∧ slots + 6 ≤ R.slots) (hi : i + 5 ≤ L) (hLL : L ≤ 2560) (hk : Lh p l e R s m args below meth c Q E b L xs x m9 w od (i + 5) (cells + 1) (slots + 6)) : Lp p l e R s m args below meth c Q E b L xs x m9 w od 1645 i cells slots := by
  intro I J P H locs ls y6 y7 y8 y9 hW hv hL
  have hE := C.2.2.2.2.2.2.2
  have hb := hv.2.2.1
  obtain ⟨hx8, hm9, hwb, hSo, hNo⟩ := hv.sh
  obtain ⟨k, I1, J1, P1, v, I2, J2, hw, hb1, hc, h8, hr, hv2⟩ := op_curve hE hfl hv (xs (i + 1)) (xs (i + 2))
  have hb2 := hv2.2.2.1
  refine segB_ok (M := ML_law) C hW hb ?_ hL
  simp only [g_L_law_1645, g_L_law_1646, g_L_law_1647, g_L_law_1649, g_L_law_1650, g_L_law_1651, g_L_law_1652, g_L_law_1653, g_L_law_1655, g_L_law_1656, g_L_law_1657, g_L_law_1658, nIp, nIa2, nIa3, nIa4, nI_clamp (show i + 1 < 2 ^ 31 by omega), nI_clamp (show i + 2 < 2 ^ 31 by omega), nI_clamp (show i + 3 < 2 ^ 31 by omega), nI_clamp (show i + 4 < 2 ^ 31 by omega), vpn (show i + 1 < L by omega) (show L < 2 ^ 31 by omega), vpn (show i + 2 < L by omega) (show L < 2 ^ 31 by omega), vpn (show i + 3 < L by omega) (show L < 2 ^ 31 by omega), vpn (show i + 4 < L by omega) (show L < 2 ^ 31 by omega), S2_b, N2_b, hb, true_and, and_true, rf_s, not_true_eq_false, not_false_eq_true, true_implies, false_implies, kl_i, kl_n, kl_l, kl_r, Option.toList, List.cons_append, List.nil_append, if_true, if_false, u2s, lt00, lt01, lt02, lt03, le10, le20, le30, ne10, ne20, ne30, eq00]
  refine gs_L_law_1659 ?_
  rintro - ls1 hL1
  refine sg_cWL (M := ML_curve) (As := [.ref x, .int (xs (i + 1)), .int (xs (i + 2)), .ref w]) (pc2 := 1662) rfl C hT hEA hL1 hR hcs dL_law_1659 lk_curve ML_curve_ok rfl rfl hw hW (fun H1 locs1 hW1 => ?_)
  refine segB_ok (M := ML_law) C hW1 hb1 ?_ hL1
  simp only [g_L_law_1662, g_L_law_1664, g_L_law_1665, g_L_law_1666, g_L_law_1668, g_L_law_1669, g_L_law_1670, g_L_law_1671, g_L_law_1672, g_L_law_1674, g_L_law_1675, g_L_law_1676, nIp, nIa2, nIa3, nIa4, nI_clamp (show i + 1 < 2 ^ 31 by omega), nI_clamp (show i + 2 < 2 ^ 31 by omega), nI_clamp (show i + 3 < 2 ^ 31 by omega), nI_clamp (show i + 4 < 2 ^ 31 by omega), vpn (show i + 1 < L by omega) (show L < 2 ^ 31 by omega), vpn (show i + 2 < L by omega) (show L < 2 ^ 31 by omega), vpn (show i + 3 < L by omega) (show L < 2 ^ 31 by omega), vpn (show i + 4 < L by omega) (show L < 2 ^ 31 by omega), S2_b, N2_b, hb1, true_and, and_true, rf_s, not_true_eq_false, not_false_eq_true, true_implies, false_implies, kl_i, kl_n, kl_l, kl_r, Option.toList, List.cons_append, List.nil_append, if_true, if_false, u2s, lt00, lt01, lt02, lt03, le10, le20, le30, ne10, ne20, ne30, eq00]
  refine gs_L_law_1677 ?_
  rintro - ls2 hL2
  refine sg_cL (M := MX9_curve) (As := [.int (xs (i + 1)), .int (xs (i + 2))]) (b' := m9) (pc2 := 1680) rfl (some (.long v)) C hL2 (d := 11) ⟨by omega, by omega⟩ ⟨by omega, by omega⟩ dL_law_1677 rfl rfl rfl hm9 (by rw [hm9]; decide) (Nat.zero_le _) rfl hc hW1 (fun H2 locs2 hW2 => ?_)
  refine segB_ok (M := ML_law) C hW2 hb2 ?_ hL2
  simp only [g_L_law_1680, g_L_law_1682, S2_b, true_and, and_true, rf_s, not_true_eq_false, not_false_eq_true, true_implies, false_implies, kl_i, kl_n, kl_l, kl_r, Option.toList, List.cons_append, List.nil_append, if_true, if_false, u2s, lt00, lt01, lt02, lt03, le10, le20, le30, ne10, ne20, ne30, eq00]
  refine gs_L_law_1683 ?_
  rintro - ls3 hL3
  refine sg_cL (M := MX9_thrown) (As := []) (b' := m9) (pc2 := 1686) rfl (some (.int k)) C hL3 (d := 0) ⟨by omega, by omega⟩ ⟨by omega, by omega⟩ dL_law_1683 rfl rfl rfl hm9 (by rw [hm9]; decide) (Nat.zero_le _) rfl (hv2.thr h8) hW2 (fun H3 locs3 hW3 => ?_)
  have ek : (k = k) = True := eq_self _
  refine segB_ok (M := ML_law) C hW3 hb2 ?_ hL3
  by_cases hk0 : k = 0
  · have hout : J2 w 0 = v := hr hk0
    have ev : (v = v) = True := eq_self _
    simp only [g_L_law_1686, g_L_law_1688, g_L_law_1691, g_L_law_1693, g_L_law_1695, g_L_law_1698, g_L_law_1699, g_L_law_1700, g_L_law_1701, g_L_law_1703, g_L_law_1704, g_L_law_1707, g_L_law_1709, g_L_law_2226, ek, hk0, S2_o hwb, N2_o hwb, hSo, hNo, eq_true vi01, cl_0, hout, lc_eq, ev, eq_self, true_and, and_true, rf_s, not_true_eq_false, not_false_eq_true, true_implies, false_implies, kl_i, kl_n, kl_l, kl_r, Option.toList, List.cons_append, List.nil_append, if_true, if_false, u2s, lt00, lt01, lt02, lt03, le10, le20, le30, ne10, ne20, ne30, eq00]
    refine g_L_law_2229.mpr ?_
    simp only [g_L_law_28, g_L_law_30, nIa5, true_and, and_true, rf_s, not_true_eq_false, not_false_eq_true, true_implies, false_implies, kl_i, kl_n, kl_l, kl_r, Option.toList, List.cons_append, List.nil_append, if_true, if_false, u2s, lt00, lt01, lt02, lt03, le10, le20, le30, ne10, ne20, ne30, eq00]
    refine gs_L_law_31 ?_
    rintro - ls4 hL4
    exact hk _ _ _ _ _ _ _ _ _ _ hW3 hv2 hL4
  · simp only [g_L_law_1686, g_L_law_1688, g_L_law_1691, g_L_law_1693, g_L_law_1695, g_L_law_1698, g_L_law_1699, g_L_law_1700, g_L_law_1701, g_L_law_1703, g_L_law_1704, g_L_law_1707, g_L_law_1709, g_L_law_2226, ek, hk0, true_and, and_true, rf_s, not_true_eq_false, not_false_eq_true, true_implies, false_implies, kl_i, kl_n, kl_l, kl_r, Option.toList, List.cons_append, List.nil_append, if_true, if_false, u2s, lt00, lt01, lt02, lt03, le10, le20, le30, ne10, ne20, ne30, eq00]
    refine g_L_law_2229.mpr ?_
    simp only [g_L_law_28, g_L_law_30, nIa5, true_and, and_true, rf_s, not_true_eq_false, not_false_eq_true, true_implies, false_implies, kl_i, kl_n, kl_l, kl_r, Option.toList, List.cons_append, List.nil_append, if_true, if_false, u2s, lt00, lt01, lt02, lt03, le10, le20, le30, ne10, ne20, ne30, eq00]
    refine gs_L_law_31 ?_
    rintro - ls4 hL4
    exact hk _ _ _ _ _ _ _ _ _ _ hW3 hv2 hL4
theorem law_c31 (C : Cx E 10 cL_law 10 p s m args meth c) (hT : TX E s) (hEA : ∀ q, q ∈ E.2.2.2.2 → s.heap.size ≤ q) (hfl : l.stackTraces = false) (hR : 19 ≤ R.frames ∧ 1400 ≤ R.locals) (hcs : cells + 1 ≤ R.cells ∧ slots + 6 ≤ R.slots) (hi : i + 5 ≤ L) (hLL : L ≤ 2560) (hk : Lh p l e R s m args below meth c Q E b L xs x m9 w od (i + 5) (cells + 1) (slots + 6)) : Lp p l e R s m args below meth c Q E b L xs x m9 w od 1712 i cells slots := by
  intro I J P H locs ls y6 y7 y8 y9 hW hv hL
  have hE := C.2.2.2.2.2.2.2
  have hb := hv.2.2.1
  obtain ⟨hx8, hm9, hwb, hSo, hNo⟩ := hv.sh
  obtain ⟨k, I1, J1, P1, v, I2, J2, hw, hb1, hc, h8, hr, hv2⟩ := op_marginalRate hE hfl hv (xs (i + 1)) (xs (i + 2))
  have hb2 := hv2.2.2.1
  refine segB_ok (M := ML_law) C hW hb ?_ hL
  simp only [g_L_law_1712, g_L_law_1713, g_L_law_1714, g_L_law_1716, g_L_law_1717, g_L_law_1718, g_L_law_1719, g_L_law_1720, g_L_law_1722, g_L_law_1723, g_L_law_1724, g_L_law_1725, nIp, nIa2, nIa3, nIa4, nI_clamp (show i + 1 < 2 ^ 31 by omega), nI_clamp (show i + 2 < 2 ^ 31 by omega), nI_clamp (show i + 3 < 2 ^ 31 by omega), nI_clamp (show i + 4 < 2 ^ 31 by omega), vpn (show i + 1 < L by omega) (show L < 2 ^ 31 by omega), vpn (show i + 2 < L by omega) (show L < 2 ^ 31 by omega), vpn (show i + 3 < L by omega) (show L < 2 ^ 31 by omega), vpn (show i + 4 < L by omega) (show L < 2 ^ 31 by omega), S2_b, N2_b, hb, true_and, and_true, rf_s, not_true_eq_false, not_false_eq_true, true_implies, false_implies, kl_i, kl_n, kl_l, kl_r, Option.toList, List.cons_append, List.nil_append, if_true, if_false, u2s, lt00, lt01, lt02, lt03, le10, le20, le30, ne10, ne20, ne30, eq00]
  refine gs_L_law_1726 ?_
  rintro - ls1 hL1
  refine sg_cWL (M := ML_marginalRate) (As := [.ref x, .int (xs (i + 1)), .int (xs (i + 2)), .ref w]) (pc2 := 1729) rfl C hT hEA hL1 hR hcs dL_law_1726 lk_marginalRate ML_marginalRate_ok rfl rfl hw hW (fun H1 locs1 hW1 => ?_)
  refine segB_ok (M := ML_law) C hW1 hb1 ?_ hL1
  simp only [g_L_law_1729, g_L_law_1731, g_L_law_1732, g_L_law_1733, g_L_law_1735, g_L_law_1736, g_L_law_1737, g_L_law_1738, g_L_law_1739, g_L_law_1741, g_L_law_1742, g_L_law_1743, nIp, nIa2, nIa3, nIa4, nI_clamp (show i + 1 < 2 ^ 31 by omega), nI_clamp (show i + 2 < 2 ^ 31 by omega), nI_clamp (show i + 3 < 2 ^ 31 by omega), nI_clamp (show i + 4 < 2 ^ 31 by omega), vpn (show i + 1 < L by omega) (show L < 2 ^ 31 by omega), vpn (show i + 2 < L by omega) (show L < 2 ^ 31 by omega), vpn (show i + 3 < L by omega) (show L < 2 ^ 31 by omega), vpn (show i + 4 < L by omega) (show L < 2 ^ 31 by omega), S2_b, N2_b, hb1, true_and, and_true, rf_s, not_true_eq_false, not_false_eq_true, true_implies, false_implies, kl_i, kl_n, kl_l, kl_r, Option.toList, List.cons_append, List.nil_append, if_true, if_false, u2s, lt00, lt01, lt02, lt03, le10, le20, le30, ne10, ne20, ne30, eq00]
  refine gs_L_law_1744 ?_
  rintro - ls2 hL2
  refine sg_cL (M := MX9_marginalRate) (As := [.int (xs (i + 1)), .int (xs (i + 2))]) (b' := m9) (pc2 := 1747) rfl (some (.long v)) C hL2 (d := 11) ⟨by omega, by omega⟩ ⟨by omega, by omega⟩ dL_law_1744 rfl rfl rfl hm9 (by rw [hm9]; decide) (Nat.zero_le _) rfl hc hW1 (fun H2 locs2 hW2 => ?_)
  refine segB_ok (M := ML_law) C hW2 hb2 ?_ hL2
  simp only [g_L_law_1747, g_L_law_1749, S2_b, true_and, and_true, rf_s, not_true_eq_false, not_false_eq_true, true_implies, false_implies, kl_i, kl_n, kl_l, kl_r, Option.toList, List.cons_append, List.nil_append, if_true, if_false, u2s, lt00, lt01, lt02, lt03, le10, le20, le30, ne10, ne20, ne30, eq00]
  refine gs_L_law_1750 ?_
  rintro - ls3 hL3
  refine sg_cL (M := MX9_thrown) (As := []) (b' := m9) (pc2 := 1753) rfl (some (.int k)) C hL3 (d := 0) ⟨by omega, by omega⟩ ⟨by omega, by omega⟩ dL_law_1750 rfl rfl rfl hm9 (by rw [hm9]; decide) (Nat.zero_le _) rfl (hv2.thr h8) hW2 (fun H3 locs3 hW3 => ?_)
  have ek : (k = k) = True := eq_self _
  refine segB_ok (M := ML_law) C hW3 hb2 ?_ hL3
  by_cases hk0 : k = 0
  · have hout : J2 w 0 = v := hr hk0
    have ev : (v = v) = True := eq_self _
    simp only [g_L_law_1753, g_L_law_1755, g_L_law_1758, g_L_law_1760, g_L_law_1762, g_L_law_1765, g_L_law_1766, g_L_law_1767, g_L_law_1768, g_L_law_1770, g_L_law_1771, g_L_law_1774, g_L_law_1776, g_L_law_2226, ek, hk0, S2_o hwb, N2_o hwb, hSo, hNo, eq_true vi01, cl_0, hout, lc_eq, ev, eq_self, true_and, and_true, rf_s, not_true_eq_false, not_false_eq_true, true_implies, false_implies, kl_i, kl_n, kl_l, kl_r, Option.toList, List.cons_append, List.nil_append, if_true, if_false, u2s, lt00, lt01, lt02, lt03, le10, le20, le30, ne10, ne20, ne30, eq00]
    refine g_L_law_2229.mpr ?_
    simp only [g_L_law_28, g_L_law_30, nIa5, true_and, and_true, rf_s, not_true_eq_false, not_false_eq_true, true_implies, false_implies, kl_i, kl_n, kl_l, kl_r, Option.toList, List.cons_append, List.nil_append, if_true, if_false, u2s, lt00, lt01, lt02, lt03, le10, le20, le30, ne10, ne20, ne30, eq00]
    refine gs_L_law_31 ?_
    rintro - ls4 hL4
    exact hk _ _ _ _ _ _ _ _ _ _ hW3 hv2 hL4
  · simp only [g_L_law_1753, g_L_law_1755, g_L_law_1758, g_L_law_1760, g_L_law_1762, g_L_law_1765, g_L_law_1766, g_L_law_1767, g_L_law_1768, g_L_law_1770, g_L_law_1771, g_L_law_1774, g_L_law_1776, g_L_law_2226, ek, hk0, true_and, and_true, rf_s, not_true_eq_false, not_false_eq_true, true_implies, false_implies, kl_i, kl_n, kl_l, kl_r, Option.toList, List.cons_append, List.nil_append, if_true, if_false, u2s, lt00, lt01, lt02, lt03, le10, le20, le30, ne10, ne20, ne30, eq00]
    refine g_L_law_2229.mpr ?_
    simp only [g_L_law_28, g_L_law_30, nIa5, true_and, and_true, rf_s, not_true_eq_false, not_false_eq_true, true_implies, false_implies, kl_i, kl_n, kl_l, kl_r, Option.toList, List.cons_append, List.nil_append, if_true, if_false, u2s, lt00, lt01, lt02, lt03, le10, le20, le30, ne10, ne20, ne30, eq00]
    refine gs_L_law_31 ?_
    rintro - ls4 hL4
    exact hk _ _ _ _ _ _ _ _ _ _ hW3 hv2 hL4
theorem law_c32 (C : Cx E 10 cL_law 10 p s m args meth c) (hT : TX E s) (hEA : ∀ q, q ∈ E.2.2.2.2 → s.heap.size ≤ q) (hfl : l.stackTraces = false) (hR : 19 ≤ R.frames ∧ 1400 ≤ R.locals) (hcs : cells + 1 ≤ R.cells ∧ slots + 6 ≤ R.slots) (hi : i + 5 ≤ L) (hLL : L ≤ 2560) (hk : Lh p l e R s m args below meth c Q E b L xs x m9 w od (i + 5) (cells + 1) (slots + 6)) : Lp p l e R s m args below meth c Q E b L xs x m9 w od 1779 i cells slots := by
  intro I J P H locs ls y6 y7 y8 y9 hW hv hL
  have hE := C.2.2.2.2.2.2.2
  have hb := hv.2.2.1
  obtain ⟨hx8, hm9, hwb, hSo, hNo⟩ := hv.sh
  obtain ⟨k, I1, J1, P1, rb, I2, J2, hw, hb1, hc, h8, hr, hv2⟩ := op_kinks hE hfl hv (xs (i + 1))
  obtain ⟨v, rfl⟩ := cw_int hc (Or.inl rfl)
  have hb2 := hv2.2.2.1
  refine segB_ok (M := ML_law) C hW hb ?_ hL
  simp only [g_L_law_1779, g_L_law_1780, g_L_law_1781, g_L_law_1783, g_L_law_1784, g_L_law_1785, g_L_law_1786, nIp, nIa2, nIa3, nIa4, nI_clamp (show i + 1 < 2 ^ 31 by omega), nI_clamp (show i + 2 < 2 ^ 31 by omega), nI_clamp (show i + 3 < 2 ^ 31 by omega), nI_clamp (show i + 4 < 2 ^ 31 by omega), vpn (show i + 1 < L by omega) (show L < 2 ^ 31 by omega), vpn (show i + 2 < L by omega) (show L < 2 ^ 31 by omega), vpn (show i + 3 < L by omega) (show L < 2 ^ 31 by omega), vpn (show i + 4 < L by omega) (show L < 2 ^ 31 by omega), S2_b, N2_b, hb, true_and, and_true, rf_s, not_true_eq_false, not_false_eq_true, true_implies, false_implies, kl_i, kl_n, kl_l, kl_r, Option.toList, List.cons_append, List.nil_append, if_true, if_false, u2s, lt00, lt01, lt02, lt03, le10, le20, le30, ne10, ne20, ne30, eq00]
  refine gs_L_law_1787 ?_
  rintro - ls1 hL1
  refine sg_cWL (M := ML_kinks) (As := [.ref x, .int (xs (i + 1)), .ref w]) (pc2 := 1790) rfl C hT hEA hL1 hR hcs dL_law_1787 lk_kinks ML_kinks_ok rfl rfl hw hW (fun H1 locs1 hW1 => ?_)
  refine segB_ok (M := ML_law) C hW1 hb1 ?_ hL1
  simp only [g_L_law_1790, g_L_law_1792, g_L_law_1793, g_L_law_1794, g_L_law_1796, g_L_law_1797, g_L_law_1798, nIp, nIa2, nIa3, nIa4, nI_clamp (show i + 1 < 2 ^ 31 by omega), nI_clamp (show i + 2 < 2 ^ 31 by omega), nI_clamp (show i + 3 < 2 ^ 31 by omega), nI_clamp (show i + 4 < 2 ^ 31 by omega), vpn (show i + 1 < L by omega) (show L < 2 ^ 31 by omega), vpn (show i + 2 < L by omega) (show L < 2 ^ 31 by omega), vpn (show i + 3 < L by omega) (show L < 2 ^ 31 by omega), vpn (show i + 4 < L by omega) (show L < 2 ^ 31 by omega), S2_b, N2_b, hb1, true_and, and_true, rf_s, not_true_eq_false, not_false_eq_true, true_implies, false_implies, kl_i, kl_n, kl_l, kl_r, Option.toList, List.cons_append, List.nil_append, if_true, if_false, u2s, lt00, lt01, lt02, lt03, le10, le20, le30, ne10, ne20, ne30, eq00]
  refine gs_L_law_1799 ?_
  rintro - ls2 hL2
  refine sg_cL (M := MX9_kinks) (As := [.int (xs (i + 1))]) (b' := m9) (pc2 := 1802) rfl (some (.int v)) C hL2 (d := 11) ⟨by omega, by omega⟩ ⟨by omega, by omega⟩ dL_law_1799 rfl rfl rfl hm9 (by rw [hm9]; decide) (Nat.zero_le _) rfl hc hW1 (fun H2 locs2 hW2 => ?_)
  refine segB_ok (M := ML_law) C hW2 hb2 ?_ hL2
  simp only [g_L_law_1802, g_L_law_1804, S2_b, true_and, and_true, rf_s, not_true_eq_false, not_false_eq_true, true_implies, false_implies, kl_i, kl_n, kl_l, kl_r, Option.toList, List.cons_append, List.nil_append, if_true, if_false, u2s, lt00, lt01, lt02, lt03, le10, le20, le30, ne10, ne20, ne30, eq00]
  refine gs_L_law_1805 ?_
  rintro - ls3 hL3
  refine sg_cL (M := MX9_thrown) (As := []) (b' := m9) (pc2 := 1808) rfl (some (.int k)) C hL3 (d := 0) ⟨by omega, by omega⟩ ⟨by omega, by omega⟩ dL_law_1805 rfl rfl rfl hm9 (by rw [hm9]; decide) (Nat.zero_le _) rfl (hv2.thr h8) hW2 (fun H3 locs3 hW3 => ?_)
  have ek : (k = k) = True := eq_self _
  refine segB_ok (M := ML_law) C hW3 hb2 ?_ hL3
  by_cases hk0 : k = 0
  · have hout : J2 w 0 = v.toInt64 := hr hk0 _ rfl
    have ev : (v.toInt64 = v.toInt64) = True := eq_self _
    simp only [g_L_law_1808, g_L_law_1810, g_L_law_1813, g_L_law_1815, g_L_law_1817, g_L_law_1820, g_L_law_1821, g_L_law_1822, g_L_law_1823, g_L_law_1825, g_L_law_1826, g_L_law_1827, g_L_law_1830, g_L_law_1832, g_L_law_2226, ek, hk0, S2_o hwb, N2_o hwb, hSo, hNo, eq_true vi01, cl_0, hout, lc_eq, ev, eq_self, true_and, and_true, rf_s, not_true_eq_false, not_false_eq_true, true_implies, false_implies, kl_i, kl_n, kl_l, kl_r, Option.toList, List.cons_append, List.nil_append, if_true, if_false, u2s, lt00, lt01, lt02, lt03, le10, le20, le30, ne10, ne20, ne30, eq00]
    refine g_L_law_2229.mpr ?_
    simp only [g_L_law_28, g_L_law_30, nIa5, true_and, and_true, rf_s, not_true_eq_false, not_false_eq_true, true_implies, false_implies, kl_i, kl_n, kl_l, kl_r, Option.toList, List.cons_append, List.nil_append, if_true, if_false, u2s, lt00, lt01, lt02, lt03, le10, le20, le30, ne10, ne20, ne30, eq00]
    refine gs_L_law_31 ?_
    rintro - ls4 hL4
    exact hk _ _ _ _ _ _ _ _ _ _ hW3 hv2 hL4
  · simp only [g_L_law_1808, g_L_law_1810, g_L_law_1813, g_L_law_1815, g_L_law_1817, g_L_law_1820, g_L_law_1821, g_L_law_1822, g_L_law_1823, g_L_law_1825, g_L_law_1826, g_L_law_1827, g_L_law_1830, g_L_law_1832, g_L_law_2226, ek, hk0, true_and, and_true, rf_s, not_true_eq_false, not_false_eq_true, true_implies, false_implies, kl_i, kl_n, kl_l, kl_r, Option.toList, List.cons_append, List.nil_append, if_true, if_false, u2s, lt00, lt01, lt02, lt03, le10, le20, le30, ne10, ne20, ne30, eq00]
    refine g_L_law_2229.mpr ?_
    simp only [g_L_law_28, g_L_law_30, nIa5, true_and, and_true, rf_s, not_true_eq_false, not_false_eq_true, true_implies, false_implies, kl_i, kl_n, kl_l, kl_r, Option.toList, List.cons_append, List.nil_append, if_true, if_false, u2s, lt00, lt01, lt02, lt03, le10, le20, le30, ne10, ne20, ne30, eq00]
    refine gs_L_law_31 ?_
    rintro - ls4 hL4
    exact hk _ _ _ _ _ _ _ _ _ _ hW3 hv2 hL4
theorem law_c33 (C : Cx E 10 cL_law 10 p s m args meth c) (hT : TX E s) (hEA : ∀ q, q ∈ E.2.2.2.2 → s.heap.size ≤ q) (hfl : l.stackTraces = false) (hR : 19 ≤ R.frames ∧ 1400 ≤ R.locals) (hcs : cells + 1 ≤ R.cells ∧ slots + 6 ≤ R.slots) (hi : i + 5 ≤ L) (hLL : L ≤ 2560) (hk : Lh p l e R s m args below meth c Q E b L xs x m9 w od (i + 5) (cells + 1) (slots + 6)) : Lp p l e R s m args below meth c Q E b L xs x m9 w od 1835 i cells slots := by
  intro I J P H locs ls y6 y7 y8 y9 hW hv hL
  have hE := C.2.2.2.2.2.2.2
  have hb := hv.2.2.1
  obtain ⟨hx8, hm9, hwb, hSo, hNo⟩ := hv.sh
  obtain ⟨k, I1, J1, P1, rb, I2, J2, hw, hb1, hc, h8, hr, hv2⟩ := op_nextKink hE hfl hv (xs (i + 1)) (xs (i + 2))
  obtain ⟨v, rfl⟩ := cw_int hc (Or.inl rfl)
  have hb2 := hv2.2.2.1
  refine segB_ok (M := ML_law) C hW hb ?_ hL
  simp only [g_L_law_1835, g_L_law_1836, g_L_law_1837, g_L_law_1839, g_L_law_1840, g_L_law_1841, g_L_law_1842, g_L_law_1843, g_L_law_1845, g_L_law_1846, g_L_law_1847, g_L_law_1848, nIp, nIa2, nIa3, nIa4, nI_clamp (show i + 1 < 2 ^ 31 by omega), nI_clamp (show i + 2 < 2 ^ 31 by omega), nI_clamp (show i + 3 < 2 ^ 31 by omega), nI_clamp (show i + 4 < 2 ^ 31 by omega), vpn (show i + 1 < L by omega) (show L < 2 ^ 31 by omega), vpn (show i + 2 < L by omega) (show L < 2 ^ 31 by omega), vpn (show i + 3 < L by omega) (show L < 2 ^ 31 by omega), vpn (show i + 4 < L by omega) (show L < 2 ^ 31 by omega), S2_b, N2_b, hb, true_and, and_true, rf_s, not_true_eq_false, not_false_eq_true, true_implies, false_implies, kl_i, kl_n, kl_l, kl_r, Option.toList, List.cons_append, List.nil_append, if_true, if_false, u2s, lt00, lt01, lt02, lt03, le10, le20, le30, ne10, ne20, ne30, eq00]
  refine gs_L_law_1849 ?_
  rintro - ls1 hL1
  refine sg_cWL (M := ML_nextKink) (As := [.ref x, .int (xs (i + 1)), .int (xs (i + 2)), .ref w]) (pc2 := 1852) rfl C hT hEA hL1 hR hcs dL_law_1849 lk_nextKink ML_nextKink_ok rfl rfl hw hW (fun H1 locs1 hW1 => ?_)
  refine segB_ok (M := ML_law) C hW1 hb1 ?_ hL1
  simp only [g_L_law_1852, g_L_law_1854, g_L_law_1855, g_L_law_1856, g_L_law_1858, g_L_law_1859, g_L_law_1860, g_L_law_1861, g_L_law_1862, g_L_law_1864, g_L_law_1865, g_L_law_1866, nIp, nIa2, nIa3, nIa4, nI_clamp (show i + 1 < 2 ^ 31 by omega), nI_clamp (show i + 2 < 2 ^ 31 by omega), nI_clamp (show i + 3 < 2 ^ 31 by omega), nI_clamp (show i + 4 < 2 ^ 31 by omega), vpn (show i + 1 < L by omega) (show L < 2 ^ 31 by omega), vpn (show i + 2 < L by omega) (show L < 2 ^ 31 by omega), vpn (show i + 3 < L by omega) (show L < 2 ^ 31 by omega), vpn (show i + 4 < L by omega) (show L < 2 ^ 31 by omega), S2_b, N2_b, hb1, true_and, and_true, rf_s, not_true_eq_false, not_false_eq_true, true_implies, false_implies, kl_i, kl_n, kl_l, kl_r, Option.toList, List.cons_append, List.nil_append, if_true, if_false, u2s, lt00, lt01, lt02, lt03, le10, le20, le30, ne10, ne20, ne30, eq00]
  refine gs_L_law_1867 ?_
  rintro - ls2 hL2
  refine sg_cL (M := MX9_nextKink) (As := [.int (xs (i + 1)), .int (xs (i + 2))]) (b' := m9) (pc2 := 1870) rfl (some (.int v)) C hL2 (d := 11) ⟨by omega, by omega⟩ ⟨by omega, by omega⟩ dL_law_1867 rfl rfl rfl hm9 (by rw [hm9]; decide) (Nat.zero_le _) rfl hc hW1 (fun H2 locs2 hW2 => ?_)
  refine segB_ok (M := ML_law) C hW2 hb2 ?_ hL2
  simp only [g_L_law_1870, g_L_law_1872, S2_b, true_and, and_true, rf_s, not_true_eq_false, not_false_eq_true, true_implies, false_implies, kl_i, kl_n, kl_l, kl_r, Option.toList, List.cons_append, List.nil_append, if_true, if_false, u2s, lt00, lt01, lt02, lt03, le10, le20, le30, ne10, ne20, ne30, eq00]
  refine gs_L_law_1873 ?_
  rintro - ls3 hL3
  refine sg_cL (M := MX9_thrown) (As := []) (b' := m9) (pc2 := 1876) rfl (some (.int k)) C hL3 (d := 0) ⟨by omega, by omega⟩ ⟨by omega, by omega⟩ dL_law_1873 rfl rfl rfl hm9 (by rw [hm9]; decide) (Nat.zero_le _) rfl (hv2.thr h8) hW2 (fun H3 locs3 hW3 => ?_)
  have ek : (k = k) = True := eq_self _
  refine segB_ok (M := ML_law) C hW3 hb2 ?_ hL3
  by_cases hk0 : k = 0
  · have hout : J2 w 0 = v.toInt64 := hr hk0 _ rfl
    have ev : (v.toInt64 = v.toInt64) = True := eq_self _
    simp only [g_L_law_1876, g_L_law_1878, g_L_law_1881, g_L_law_1883, g_L_law_1885, g_L_law_1888, g_L_law_1889, g_L_law_1890, g_L_law_1891, g_L_law_1893, g_L_law_1894, g_L_law_1895, g_L_law_1898, g_L_law_1900, g_L_law_2226, ek, hk0, S2_o hwb, N2_o hwb, hSo, hNo, eq_true vi01, cl_0, hout, lc_eq, ev, eq_self, true_and, and_true, rf_s, not_true_eq_false, not_false_eq_true, true_implies, false_implies, kl_i, kl_n, kl_l, kl_r, Option.toList, List.cons_append, List.nil_append, if_true, if_false, u2s, lt00, lt01, lt02, lt03, le10, le20, le30, ne10, ne20, ne30, eq00]
    refine g_L_law_2229.mpr ?_
    simp only [g_L_law_28, g_L_law_30, nIa5, true_and, and_true, rf_s, not_true_eq_false, not_false_eq_true, true_implies, false_implies, kl_i, kl_n, kl_l, kl_r, Option.toList, List.cons_append, List.nil_append, if_true, if_false, u2s, lt00, lt01, lt02, lt03, le10, le20, le30, ne10, ne20, ne30, eq00]
    refine gs_L_law_31 ?_
    rintro - ls4 hL4
    exact hk _ _ _ _ _ _ _ _ _ _ hW3 hv2 hL4
  · simp only [g_L_law_1876, g_L_law_1878, g_L_law_1881, g_L_law_1883, g_L_law_1885, g_L_law_1888, g_L_law_1889, g_L_law_1890, g_L_law_1891, g_L_law_1893, g_L_law_1894, g_L_law_1895, g_L_law_1898, g_L_law_1900, g_L_law_2226, ek, hk0, true_and, and_true, rf_s, not_true_eq_false, not_false_eq_true, true_implies, false_implies, kl_i, kl_n, kl_l, kl_r, Option.toList, List.cons_append, List.nil_append, if_true, if_false, u2s, lt00, lt01, lt02, lt03, le10, le20, le30, ne10, ne20, ne30, eq00]
    refine g_L_law_2229.mpr ?_
    simp only [g_L_law_28, g_L_law_30, nIa5, true_and, and_true, rf_s, not_true_eq_false, not_false_eq_true, true_implies, false_implies, kl_i, kl_n, kl_l, kl_r, Option.toList, List.cons_append, List.nil_append, if_true, if_false, u2s, lt00, lt01, lt02, lt03, le10, le20, le30, ne10, ne20, ne30, eq00]
    refine gs_L_law_31 ?_
    rintro - ls4 hL4
    exact hk _ _ _ _ _ _ _ _ _ _ hW3 hv2 hL4
end LAWC

/-! the law's cases -/
section LAWC
variable {p : Program} {l : Launch} {e : Env} {R : Room} {s : State} {m : MethodId} {args : Array Value} {below : List Frame} {meth : Method} {c : Code} {Q : State → Prop}
variable {E : tx_En} {cells slots b L od x m9 w i : Nat} {xs : Nat → Int32}
theorem law_c34 (C : Cx E 10 cL_law 10 p s m args meth c) (hT : TX E s) (hEA : ∀ q, q ∈ E.2.2.2.2 → s.heap.size ≤ q) (hfl : l.stackTraces = false) (hR : 19 ≤ R.frames ∧ 1400 ≤ R.locals) (hcs : cells + 1 ≤ R.cells ∧ slots + 6 ≤ R.slots) (hi : i + 5 ≤ L) (hLL : L ≤ 2560) (hk : Lh p l e R s m args below meth c Q E b L xs x m9 w od (i + 5) (cells + 1) (slots + 6)) : Lp p l e R s m args below meth c Q E b L xs x m9 w od 1903 i cells slots := by
  intro I J P H locs ls y6 y7 y8 y9 hW hv hL
  have hE := C.2.2.2.2.2.2.2
  have hb := hv.2.2.1
  obtain ⟨hx8, hm9, hwb, hSo, hNo⟩ := hv.sh
  obtain ⟨k, I1, J1, P1, rb, I2, J2, hw, hb1, hc, h8, hr, hv2⟩ := op_kinkCause hE hfl hv (xs (i + 1)) (xs (i + 2))
  obtain ⟨v, rfl⟩ := cw_int hc (Or.inl rfl)
  have hb2 := hv2.2.2.1
  refine segB_ok (M := ML_law) C hW hb ?_ hL
  simp only [g_L_law_1903, g_L_law_1904, g_L_law_1905, g_L_law_1907, g_L_law_1908, g_L_law_1909, g_L_law_1910, g_L_law_1911, g_L_law_1913, g_L_law_1914, g_L_law_1915, g_L_law_1916, nIp, nIa2, nIa3, nIa4, nI_clamp (show i + 1 < 2 ^ 31 by omega), nI_clamp (show i + 2 < 2 ^ 31 by omega), nI_clamp (show i + 3 < 2 ^ 31 by omega), nI_clamp (show i + 4 < 2 ^ 31 by omega), vpn (show i + 1 < L by omega) (show L < 2 ^ 31 by omega), vpn (show i + 2 < L by omega) (show L < 2 ^ 31 by omega), vpn (show i + 3 < L by omega) (show L < 2 ^ 31 by omega), vpn (show i + 4 < L by omega) (show L < 2 ^ 31 by omega), S2_b, N2_b, hb, true_and, and_true, rf_s, not_true_eq_false, not_false_eq_true, true_implies, false_implies, kl_i, kl_n, kl_l, kl_r, Option.toList, List.cons_append, List.nil_append, if_true, if_false, u2s, lt00, lt01, lt02, lt03, le10, le20, le30, ne10, ne20, ne30, eq00]
  refine gs_L_law_1917 ?_
  rintro - ls1 hL1
  refine sg_cWL (M := ML_kinkCause) (As := [.ref x, .int (xs (i + 1)), .int (xs (i + 2)), .ref w]) (pc2 := 1920) rfl C hT hEA hL1 hR hcs dL_law_1917 lk_kinkCause ML_kinkCause_ok rfl rfl hw hW (fun H1 locs1 hW1 => ?_)
  refine segB_ok (M := ML_law) C hW1 hb1 ?_ hL1
  simp only [g_L_law_1920, g_L_law_1922, g_L_law_1923, g_L_law_1924, g_L_law_1926, g_L_law_1927, g_L_law_1928, g_L_law_1929, g_L_law_1930, g_L_law_1932, g_L_law_1933, g_L_law_1934, nIp, nIa2, nIa3, nIa4, nI_clamp (show i + 1 < 2 ^ 31 by omega), nI_clamp (show i + 2 < 2 ^ 31 by omega), nI_clamp (show i + 3 < 2 ^ 31 by omega), nI_clamp (show i + 4 < 2 ^ 31 by omega), vpn (show i + 1 < L by omega) (show L < 2 ^ 31 by omega), vpn (show i + 2 < L by omega) (show L < 2 ^ 31 by omega), vpn (show i + 3 < L by omega) (show L < 2 ^ 31 by omega), vpn (show i + 4 < L by omega) (show L < 2 ^ 31 by omega), S2_b, N2_b, hb1, true_and, and_true, rf_s, not_true_eq_false, not_false_eq_true, true_implies, false_implies, kl_i, kl_n, kl_l, kl_r, Option.toList, List.cons_append, List.nil_append, if_true, if_false, u2s, lt00, lt01, lt02, lt03, le10, le20, le30, ne10, ne20, ne30, eq00]
  refine gs_L_law_1935 ?_
  rintro - ls2 hL2
  refine sg_cL (M := MX9_kinkCause) (As := [.int (xs (i + 1)), .int (xs (i + 2))]) (b' := m9) (pc2 := 1938) rfl (some (.int v)) C hL2 (d := 11) ⟨by omega, by omega⟩ ⟨by omega, by omega⟩ dL_law_1935 rfl rfl rfl hm9 (by rw [hm9]; decide) (Nat.zero_le _) rfl hc hW1 (fun H2 locs2 hW2 => ?_)
  refine segB_ok (M := ML_law) C hW2 hb2 ?_ hL2
  simp only [g_L_law_1938, g_L_law_1940, S2_b, true_and, and_true, rf_s, not_true_eq_false, not_false_eq_true, true_implies, false_implies, kl_i, kl_n, kl_l, kl_r, Option.toList, List.cons_append, List.nil_append, if_true, if_false, u2s, lt00, lt01, lt02, lt03, le10, le20, le30, ne10, ne20, ne30, eq00]
  refine gs_L_law_1941 ?_
  rintro - ls3 hL3
  refine sg_cL (M := MX9_thrown) (As := []) (b' := m9) (pc2 := 1944) rfl (some (.int k)) C hL3 (d := 0) ⟨by omega, by omega⟩ ⟨by omega, by omega⟩ dL_law_1941 rfl rfl rfl hm9 (by rw [hm9]; decide) (Nat.zero_le _) rfl (hv2.thr h8) hW2 (fun H3 locs3 hW3 => ?_)
  have ek : (k = k) = True := eq_self _
  refine segB_ok (M := ML_law) C hW3 hb2 ?_ hL3
  by_cases hk0 : k = 0
  · have hout : J2 w 0 = v.toInt64 := hr hk0 _ rfl
    have ev : (v.toInt64 = v.toInt64) = True := eq_self _
    simp only [g_L_law_1944, g_L_law_1946, g_L_law_1949, g_L_law_1951, g_L_law_1953, g_L_law_1956, g_L_law_1957, g_L_law_1958, g_L_law_1959, g_L_law_1961, g_L_law_1962, g_L_law_1963, g_L_law_1966, g_L_law_1968, g_L_law_2226, ek, hk0, S2_o hwb, N2_o hwb, hSo, hNo, eq_true vi01, cl_0, hout, lc_eq, ev, eq_self, true_and, and_true, rf_s, not_true_eq_false, not_false_eq_true, true_implies, false_implies, kl_i, kl_n, kl_l, kl_r, Option.toList, List.cons_append, List.nil_append, if_true, if_false, u2s, lt00, lt01, lt02, lt03, le10, le20, le30, ne10, ne20, ne30, eq00]
    refine g_L_law_2229.mpr ?_
    simp only [g_L_law_28, g_L_law_30, nIa5, true_and, and_true, rf_s, not_true_eq_false, not_false_eq_true, true_implies, false_implies, kl_i, kl_n, kl_l, kl_r, Option.toList, List.cons_append, List.nil_append, if_true, if_false, u2s, lt00, lt01, lt02, lt03, le10, le20, le30, ne10, ne20, ne30, eq00]
    refine gs_L_law_31 ?_
    rintro - ls4 hL4
    exact hk _ _ _ _ _ _ _ _ _ _ hW3 hv2 hL4
  · simp only [g_L_law_1944, g_L_law_1946, g_L_law_1949, g_L_law_1951, g_L_law_1953, g_L_law_1956, g_L_law_1957, g_L_law_1958, g_L_law_1959, g_L_law_1961, g_L_law_1962, g_L_law_1963, g_L_law_1966, g_L_law_1968, g_L_law_2226, ek, hk0, true_and, and_true, rf_s, not_true_eq_false, not_false_eq_true, true_implies, false_implies, kl_i, kl_n, kl_l, kl_r, Option.toList, List.cons_append, List.nil_append, if_true, if_false, u2s, lt00, lt01, lt02, lt03, le10, le20, le30, ne10, ne20, ne30, eq00]
    refine g_L_law_2229.mpr ?_
    simp only [g_L_law_28, g_L_law_30, nIa5, true_and, and_true, rf_s, not_true_eq_false, not_false_eq_true, true_implies, false_implies, kl_i, kl_n, kl_l, kl_r, Option.toList, List.cons_append, List.nil_append, if_true, if_false, u2s, lt00, lt01, lt02, lt03, le10, le20, le30, ne10, ne20, ne30, eq00]
    refine gs_L_law_31 ?_
    rintro - ls4 hL4
    exact hk _ _ _ _ _ _ _ _ _ _ hW3 hv2 hL4
theorem law_c35 (C : Cx E 10 cL_law 10 p s m args meth c) (hT : TX E s) (hEA : ∀ q, q ∈ E.2.2.2.2 → s.heap.size ≤ q) (hfl : l.stackTraces = false) (hR : 19 ≤ R.frames ∧ 1400 ≤ R.locals) (hcs : cells + 1 ≤ R.cells ∧ slots + 6 ≤ R.slots) (hi : i + 5 ≤ L) (hLL : L ≤ 2560) (hk : Lh p l e R s m args below meth c Q E b L xs x m9 w od (i + 5) (cells + 1) (slots + 6)) : Lp p l e R s m args below meth c Q E b L xs x m9 w od 1971 i cells slots := by
  intro I J P H locs ls y6 y7 y8 y9 hW hv hL
  have hE := C.2.2.2.2.2.2.2
  have hb := hv.2.2.1
  obtain ⟨hx8, hm9, hwb, hSo, hNo⟩ := hv.sh
  obtain ⟨k, I1, J1, P1, rb, I2, J2, hw, hb1, hc, h8, hr, hv2⟩ := op_steepest hE hfl hv (xs (i + 1))
  obtain ⟨v, rfl⟩ := cw_int hc (Or.inl rfl)
  have hb2 := hv2.2.2.1
  refine segB_ok (M := ML_law) C hW hb ?_ hL
  simp only [g_L_law_1971, g_L_law_1972, g_L_law_1973, g_L_law_1975, g_L_law_1976, g_L_law_1977, g_L_law_1978, nIp, nIa2, nIa3, nIa4, nI_clamp (show i + 1 < 2 ^ 31 by omega), nI_clamp (show i + 2 < 2 ^ 31 by omega), nI_clamp (show i + 3 < 2 ^ 31 by omega), nI_clamp (show i + 4 < 2 ^ 31 by omega), vpn (show i + 1 < L by omega) (show L < 2 ^ 31 by omega), vpn (show i + 2 < L by omega) (show L < 2 ^ 31 by omega), vpn (show i + 3 < L by omega) (show L < 2 ^ 31 by omega), vpn (show i + 4 < L by omega) (show L < 2 ^ 31 by omega), S2_b, N2_b, hb, true_and, and_true, rf_s, not_true_eq_false, not_false_eq_true, true_implies, false_implies, kl_i, kl_n, kl_l, kl_r, Option.toList, List.cons_append, List.nil_append, if_true, if_false, u2s, lt00, lt01, lt02, lt03, le10, le20, le30, ne10, ne20, ne30, eq00]
  refine gs_L_law_1979 ?_
  rintro - ls1 hL1
  refine sg_cWL (M := ML_steepest) (As := [.ref x, .int (xs (i + 1)), .ref w]) (pc2 := 1982) rfl C hT hEA hL1 hR hcs dL_law_1979 lk_steepest ML_steepest_ok rfl rfl hw hW (fun H1 locs1 hW1 => ?_)
  refine segB_ok (M := ML_law) C hW1 hb1 ?_ hL1
  simp only [g_L_law_1982, g_L_law_1984, g_L_law_1985, g_L_law_1986, g_L_law_1988, g_L_law_1989, g_L_law_1990, nIp, nIa2, nIa3, nIa4, nI_clamp (show i + 1 < 2 ^ 31 by omega), nI_clamp (show i + 2 < 2 ^ 31 by omega), nI_clamp (show i + 3 < 2 ^ 31 by omega), nI_clamp (show i + 4 < 2 ^ 31 by omega), vpn (show i + 1 < L by omega) (show L < 2 ^ 31 by omega), vpn (show i + 2 < L by omega) (show L < 2 ^ 31 by omega), vpn (show i + 3 < L by omega) (show L < 2 ^ 31 by omega), vpn (show i + 4 < L by omega) (show L < 2 ^ 31 by omega), S2_b, N2_b, hb1, true_and, and_true, rf_s, not_true_eq_false, not_false_eq_true, true_implies, false_implies, kl_i, kl_n, kl_l, kl_r, Option.toList, List.cons_append, List.nil_append, if_true, if_false, u2s, lt00, lt01, lt02, lt03, le10, le20, le30, ne10, ne20, ne30, eq00]
  refine gs_L_law_1991 ?_
  rintro - ls2 hL2
  refine sg_cL (M := MX9_steepest) (As := [.int (xs (i + 1))]) (b' := m9) (pc2 := 1994) rfl (some (.int v)) C hL2 (d := 11) ⟨by omega, by omega⟩ ⟨by omega, by omega⟩ dL_law_1991 rfl rfl rfl hm9 (by rw [hm9]; decide) (Nat.zero_le _) rfl hc hW1 (fun H2 locs2 hW2 => ?_)
  refine segB_ok (M := ML_law) C hW2 hb2 ?_ hL2
  simp only [g_L_law_1994, g_L_law_1996, S2_b, true_and, and_true, rf_s, not_true_eq_false, not_false_eq_true, true_implies, false_implies, kl_i, kl_n, kl_l, kl_r, Option.toList, List.cons_append, List.nil_append, if_true, if_false, u2s, lt00, lt01, lt02, lt03, le10, le20, le30, ne10, ne20, ne30, eq00]
  refine gs_L_law_1997 ?_
  rintro - ls3 hL3
  refine sg_cL (M := MX9_thrown) (As := []) (b' := m9) (pc2 := 2000) rfl (some (.int k)) C hL3 (d := 0) ⟨by omega, by omega⟩ ⟨by omega, by omega⟩ dL_law_1997 rfl rfl rfl hm9 (by rw [hm9]; decide) (Nat.zero_le _) rfl (hv2.thr h8) hW2 (fun H3 locs3 hW3 => ?_)
  have ek : (k = k) = True := eq_self _
  refine segB_ok (M := ML_law) C hW3 hb2 ?_ hL3
  by_cases hk0 : k = 0
  · have hout : J2 w 0 = v.toInt64 := hr hk0 _ rfl
    have ev : (v.toInt64 = v.toInt64) = True := eq_self _
    simp only [g_L_law_2000, g_L_law_2002, g_L_law_2005, g_L_law_2007, g_L_law_2009, g_L_law_2012, g_L_law_2013, g_L_law_2014, g_L_law_2015, g_L_law_2017, g_L_law_2018, g_L_law_2019, g_L_law_2022, g_L_law_2024, g_L_law_2226, ek, hk0, S2_o hwb, N2_o hwb, hSo, hNo, eq_true vi01, cl_0, hout, lc_eq, ev, eq_self, true_and, and_true, rf_s, not_true_eq_false, not_false_eq_true, true_implies, false_implies, kl_i, kl_n, kl_l, kl_r, Option.toList, List.cons_append, List.nil_append, if_true, if_false, u2s, lt00, lt01, lt02, lt03, le10, le20, le30, ne10, ne20, ne30, eq00]
    refine g_L_law_2229.mpr ?_
    simp only [g_L_law_28, g_L_law_30, nIa5, true_and, and_true, rf_s, not_true_eq_false, not_false_eq_true, true_implies, false_implies, kl_i, kl_n, kl_l, kl_r, Option.toList, List.cons_append, List.nil_append, if_true, if_false, u2s, lt00, lt01, lt02, lt03, le10, le20, le30, ne10, ne20, ne30, eq00]
    refine gs_L_law_31 ?_
    rintro - ls4 hL4
    exact hk _ _ _ _ _ _ _ _ _ _ hW3 hv2 hL4
  · simp only [g_L_law_2000, g_L_law_2002, g_L_law_2005, g_L_law_2007, g_L_law_2009, g_L_law_2012, g_L_law_2013, g_L_law_2014, g_L_law_2015, g_L_law_2017, g_L_law_2018, g_L_law_2019, g_L_law_2022, g_L_law_2024, g_L_law_2226, ek, hk0, true_and, and_true, rf_s, not_true_eq_false, not_false_eq_true, true_implies, false_implies, kl_i, kl_n, kl_l, kl_r, Option.toList, List.cons_append, List.nil_append, if_true, if_false, u2s, lt00, lt01, lt02, lt03, le10, le20, le30, ne10, ne20, ne30, eq00]
    refine g_L_law_2229.mpr ?_
    simp only [g_L_law_28, g_L_law_30, nIa5, true_and, and_true, rf_s, not_true_eq_false, not_false_eq_true, true_implies, false_implies, kl_i, kl_n, kl_l, kl_r, Option.toList, List.cons_append, List.nil_append, if_true, if_false, u2s, lt00, lt01, lt02, lt03, le10, le20, le30, ne10, ne20, ne30, eq00]
    refine gs_L_law_31 ?_
    rintro - ls4 hL4
    exact hk _ _ _ _ _ _ _ _ _ _ hW3 hv2 hL4
theorem law_c38 (C : Cx E 10 cL_law 10 p s m args meth c) (hT : TX E s) (hEA : ∀ q, q ∈ E.2.2.2.2 → s.heap.size ≤ q) (hfl : l.stackTraces = false) (hR : 19 ≤ R.frames ∧ 1400 ≤ R.locals) (hcs : cells + 1 ≤ R.cells ∧ slots + 6 ≤ R.slots) (hi : i + 5 ≤ L) (hLL : L ≤ 2560) (hk : Lh p l e R s m args below meth c Q E b L xs x m9 w od (i + 5) (cells + 1) (slots + 6)) : Lp p l e R s m args below meth c Q E b L xs x m9 w od 2147 i cells slots := by
  intro I J P H locs ls y6 y7 y8 y9 hW hv hL
  have hE := C.2.2.2.2.2.2.2
  have hb := hv.2.2.1
  obtain ⟨hx8, hm9, hwb, hSo, hNo⟩ := hv.sh
  obtain ⟨k, I1, J1, P1, rb, I2, J2, hw, hb1, hc, h8, hr, hv2⟩ := op_undo hE hfl hv 
  obtain ⟨v, rfl⟩ := cw_int hc (Or.inl rfl)
  have hb2 := hv2.2.2.1
  refine segB_ok (M := ML_law) C hW hb ?_ hL
  simp only [g_L_law_2147, g_L_law_2148, nIp, nIa2, nIa3, nIa4, nI_clamp (show i + 1 < 2 ^ 31 by omega), nI_clamp (show i + 2 < 2 ^ 31 by omega), nI_clamp (show i + 3 < 2 ^ 31 by omega), nI_clamp (show i + 4 < 2 ^ 31 by omega), vpn (show i + 1 < L by omega) (show L < 2 ^ 31 by omega), vpn (show i + 2 < L by omega) (show L < 2 ^ 31 by omega), vpn (show i + 3 < L by omega) (show L < 2 ^ 31 by omega), vpn (show i + 4 < L by omega) (show L < 2 ^ 31 by omega), S2_b, N2_b, hb, true_and, and_true, rf_s, not_true_eq_false, not_false_eq_true, true_implies, false_implies, kl_i, kl_n, kl_l, kl_r, Option.toList, List.cons_append, List.nil_append, if_true, if_false, u2s, lt00, lt01, lt02, lt03, le10, le20, le30, ne10, ne20, ne30, eq00]
  refine gs_L_law_2149 ?_
  rintro - ls1 hL1
  refine sg_cWL (M := ML_undo) (As := [.ref x, .ref w]) (pc2 := 2152) rfl C hT hEA hL1 hR hcs dL_law_2149 lk_undo ML_undo_ok rfl rfl hw hW (fun H1 locs1 hW1 => ?_)
  refine segB_ok (M := ML_law) C hW1 hb1 ?_ hL1
  simp only [g_L_law_2152, g_L_law_2154, nIp, nIa2, nIa3, nIa4, nI_clamp (show i + 1 < 2 ^ 31 by omega), nI_clamp (show i + 2 < 2 ^ 31 by omega), nI_clamp (show i + 3 < 2 ^ 31 by omega), nI_clamp (show i + 4 < 2 ^ 31 by omega), vpn (show i + 1 < L by omega) (show L < 2 ^ 31 by omega), vpn (show i + 2 < L by omega) (show L < 2 ^ 31 by omega), vpn (show i + 3 < L by omega) (show L < 2 ^ 31 by omega), vpn (show i + 4 < L by omega) (show L < 2 ^ 31 by omega), S2_b, N2_b, hb1, true_and, and_true, rf_s, not_true_eq_false, not_false_eq_true, true_implies, false_implies, kl_i, kl_n, kl_l, kl_r, Option.toList, List.cons_append, List.nil_append, if_true, if_false, u2s, lt00, lt01, lt02, lt03, le10, le20, le30, ne10, ne20, ne30, eq00]
  refine gs_L_law_2155 ?_
  rintro - ls2 hL2
  refine sg_cL (M := MX9_undo) (As := []) (b' := m9) (pc2 := 2158) rfl (some (.int v)) C hL2 (d := 11) ⟨by omega, by omega⟩ ⟨by omega, by omega⟩ dL_law_2155 rfl rfl rfl hm9 (by rw [hm9]; decide) (Nat.zero_le _) rfl hc hW1 (fun H2 locs2 hW2 => ?_)
  refine segB_ok (M := ML_law) C hW2 hb2 ?_ hL2
  simp only [g_L_law_2158, g_L_law_2160, S2_b, true_and, and_true, rf_s, not_true_eq_false, not_false_eq_true, true_implies, false_implies, kl_i, kl_n, kl_l, kl_r, Option.toList, List.cons_append, List.nil_append, if_true, if_false, u2s, lt00, lt01, lt02, lt03, le10, le20, le30, ne10, ne20, ne30, eq00]
  refine gs_L_law_2161 ?_
  rintro - ls3 hL3
  refine sg_cL (M := MX9_thrown) (As := []) (b' := m9) (pc2 := 2164) rfl (some (.int k)) C hL3 (d := 0) ⟨by omega, by omega⟩ ⟨by omega, by omega⟩ dL_law_2161 rfl rfl rfl hm9 (by rw [hm9]; decide) (Nat.zero_le _) rfl (hv2.thr h8) hW2 (fun H3 locs3 hW3 => ?_)
  have ek : (k = k) = True := eq_self _
  refine segB_ok (M := ML_law) C hW3 hb2 ?_ hL3
  by_cases hk0 : k = 0
  · have hout : J2 w 0 = v.toInt64 := hr hk0 _ rfl
    have ev : (v.toInt64 = v.toInt64) = True := eq_self _
    simp only [g_L_law_2164, g_L_law_2166, g_L_law_2169, g_L_law_2171, g_L_law_2173, g_L_law_2176, g_L_law_2177, g_L_law_2178, g_L_law_2179, g_L_law_2181, g_L_law_2182, g_L_law_2183, g_L_law_2186, g_L_law_2188, g_L_law_2226, ek, hk0, S2_o hwb, N2_o hwb, hSo, hNo, eq_true vi01, cl_0, hout, lc_eq, ev, eq_self, true_and, and_true, rf_s, not_true_eq_false, not_false_eq_true, true_implies, false_implies, kl_i, kl_n, kl_l, kl_r, Option.toList, List.cons_append, List.nil_append, if_true, if_false, u2s, lt00, lt01, lt02, lt03, le10, le20, le30, ne10, ne20, ne30, eq00]
    refine g_L_law_2229.mpr ?_
    simp only [g_L_law_28, g_L_law_30, nIa5, true_and, and_true, rf_s, not_true_eq_false, not_false_eq_true, true_implies, false_implies, kl_i, kl_n, kl_l, kl_r, Option.toList, List.cons_append, List.nil_append, if_true, if_false, u2s, lt00, lt01, lt02, lt03, le10, le20, le30, ne10, ne20, ne30, eq00]
    refine gs_L_law_31 ?_
    rintro - ls4 hL4
    exact hk _ _ _ _ _ _ _ _ _ _ hW3 hv2 hL4
  · simp only [g_L_law_2164, g_L_law_2166, g_L_law_2169, g_L_law_2171, g_L_law_2173, g_L_law_2176, g_L_law_2177, g_L_law_2178, g_L_law_2179, g_L_law_2181, g_L_law_2182, g_L_law_2183, g_L_law_2186, g_L_law_2188, g_L_law_2226, ek, hk0, true_and, and_true, rf_s, not_true_eq_false, not_false_eq_true, true_implies, false_implies, kl_i, kl_n, kl_l, kl_r, Option.toList, List.cons_append, List.nil_append, if_true, if_false, u2s, lt00, lt01, lt02, lt03, le10, le20, le30, ne10, ne20, ne30, eq00]
    refine g_L_law_2229.mpr ?_
    simp only [g_L_law_28, g_L_law_30, nIa5, true_and, and_true, rf_s, not_true_eq_false, not_false_eq_true, true_implies, false_implies, kl_i, kl_n, kl_l, kl_r, Option.toList, List.cons_append, List.nil_append, if_true, if_false, u2s, lt00, lt01, lt02, lt03, le10, le20, le30, ne10, ne20, ne30, eq00]
    refine gs_L_law_31 ?_
    rintro - ls4 hL4
    exact hk _ _ _ _ _ _ _ _ _ _ hW3 hv2 hL4
theorem law_c39 (C : Cx E 10 cL_law 10 p s m args meth c) (hT : TX E s) (hEA : ∀ q, q ∈ E.2.2.2.2 → s.heap.size ≤ q) (hfl : l.stackTraces = false) (hR : 19 ≤ R.frames ∧ 1400 ≤ R.locals) (hcs : cells + 1 ≤ R.cells ∧ slots + 6 ≤ R.slots) (hi : i + 5 ≤ L) (hLL : L ≤ 2560) (hk : Lh p l e R s m args below meth c Q E b L xs x m9 w od (i + 5) (cells + 1) (slots + 6)) : Lp p l e R s m args below meth c Q E b L xs x m9 w od 2191 i cells slots := by
  intro I J P H locs ls y6 y7 y8 y9 hW hv hL
  have hE := C.2.2.2.2.2.2.2
  have hb := hv.2.2.1
  obtain ⟨hx8, hm9, hwb, hSo, hNo⟩ := hv.sh
  obtain ⟨r, I1, J1, P1, I2, J2, hw, hb1, hc, hv2⟩ := op_save hE hv
  obtain rfl := cw_none hc rfl
  have hb2 := hv2.2.2.1
  have ev : ∀ z : Int32, (z = z) = True := fun _ => eq_self _
  refine segB_ok (M := ML_law) C hW hb ?_ hL
  simp only [g_L_law_2191, S2_b, true_and, and_true, rf_s, not_true_eq_false, not_false_eq_true, true_implies, false_implies, kl_i, kl_n, kl_l, kl_r, Option.toList, List.cons_append, List.nil_append, if_true, if_false, u2s, lt00, lt01, lt02, lt03, le10, le20, le30, ne10, ne20, ne30, eq00]
  refine gs_L_law_2192 ?_
  rintro - ls1 hL1
  refine sg_cL (M := MX8_save) (As := []) (b' := x) (st' := []) (pc2 := 2195) rfl (none) C hL1 (d := 11) ⟨by omega, by omega⟩ ⟨by omega, by omega⟩ dL_law_2192 rfl rfl rfl hx8 (by rw [hx8]; decide) (Nat.zero_le _) rfl hw hW (fun H1 locs1 hW1 => ?_)
  refine segB_ok (M := ML_law) C hW1 hb1 ?_ hL1
  simp only [g_L_law_2195, S2_b, true_and, and_true, rf_s, not_true_eq_false, not_false_eq_true, true_implies, false_implies, kl_i, kl_n, kl_l, kl_r, Option.toList, List.cons_append, List.nil_append, if_true, if_false, u2s, lt00, lt01, lt02, lt03, le10, le20, le30, ne10, ne20, ne30, eq00]
  refine gs_L_law_2196 ?_
  rintro - ls2 hL2
  refine sg_cL (M := MX9_save) (As := []) (b' := m9) (st' := []) (pc2 := 2199) rfl (none) C hL2 (d := 11) ⟨by omega, by omega⟩ ⟨by omega, by omega⟩ dL_law_2196 rfl rfl rfl hm9 (by rw [hm9]; decide) (Nat.le_of_ble_eq_true rfl) rfl hc hW1 (fun H3 locs3 hW3 => ?_)
  refine segB_ok (M := ML_law) C hW3 hb2 ?_ hL2
  simp only [g_L_law_2199, g_L_law_2226, eq_self, lc_eq, true_and, and_true, rf_s, not_true_eq_false, not_false_eq_true, true_implies, false_implies, kl_i, kl_n, kl_l, kl_r, Option.toList, List.cons_append, List.nil_append, if_true, if_false, u2s, lt00, lt01, lt02, lt03, le10, le20, le30, ne10, ne20, ne30, eq00]
  refine g_L_law_2229.mpr ?_
  simp only [g_L_law_28, g_L_law_30, nIa5, true_and, and_true, rf_s, not_true_eq_false, not_false_eq_true, true_implies, false_implies, kl_i, kl_n, kl_l, kl_r, Option.toList, List.cons_append, List.nil_append, if_true, if_false, u2s, lt00, lt01, lt02, lt03, le10, le20, le30, ne10, ne20, ne30, eq00]
  refine gs_L_law_31 ?_
  rintro - ls4 hL4
  exact hk.up _ _ _ _ _ _ _ _ _ _ hW3 hv2 hL4
theorem law_c40 (C : Cx E 10 cL_law 10 p s m args meth c) (hT : TX E s) (hEA : ∀ q, q ∈ E.2.2.2.2 → s.heap.size ≤ q) (hfl : l.stackTraces = false) (hR : 19 ≤ R.frames ∧ 1400 ≤ R.locals) (hcs : cells + 1 ≤ R.cells ∧ slots + 6 ≤ R.slots) (hi : i + 5 ≤ L) (hLL : L ≤ 2560) (hk : Lh p l e R s m args below meth c Q E b L xs x m9 w od (i + 5) (cells + 1) (slots + 6)) : Lp p l e R s m args below meth c Q E b L xs x m9 w od 2202 i cells slots := by
  intro I J P H locs ls y6 y7 y8 y9 hW hv hL
  have hE := C.2.2.2.2.2.2.2
  have hb := hv.2.2.1
  obtain ⟨hx8, hm9, hwb, hSo, hNo⟩ := hv.sh
  obtain ⟨k, I1, J1, P1, rb, I2, J2, hw, hb1, hc, h8, hr, hv2⟩ := op_restore hE hfl hv 
  obtain rfl := cw_none hc rfl
  have hb2 := hv2.2.2.1
  refine segB_ok (M := ML_law) C hW hb ?_ hL
  simp only [g_L_law_2202, nIp, nIa2, nIa3, nIa4, nI_clamp (show i + 1 < 2 ^ 31 by omega), nI_clamp (show i + 2 < 2 ^ 31 by omega), nI_clamp (show i + 3 < 2 ^ 31 by omega), nI_clamp (show i + 4 < 2 ^ 31 by omega), vpn (show i + 1 < L by omega) (show L < 2 ^ 31 by omega), vpn (show i + 2 < L by omega) (show L < 2 ^ 31 by omega), vpn (show i + 3 < L by omega) (show L < 2 ^ 31 by omega), vpn (show i + 4 < L by omega) (show L < 2 ^ 31 by omega), S2_b, N2_b, hb, true_and, and_true, rf_s, not_true_eq_false, not_false_eq_true, true_implies, false_implies, kl_i, kl_n, kl_l, kl_r, Option.toList, List.cons_append, List.nil_append, if_true, if_false, u2s, lt00, lt01, lt02, lt03, le10, le20, le30, ne10, ne20, ne30, eq00]
  refine gs_L_law_2203 ?_
  rintro - ls1 hL1
  refine sg_cWL (M := ML_restore) (As := [.ref x]) (pc2 := 2206) rfl C hT hEA hL1 hR hcs dL_law_2203 lk_restore ML_restore_ok rfl rfl hw hW (fun H1 locs1 hW1 => ?_)
  refine segB_ok (M := ML_law) C hW1 hb1 ?_ hL1
  simp only [g_L_law_2206, g_L_law_2208, nIp, nIa2, nIa3, nIa4, nI_clamp (show i + 1 < 2 ^ 31 by omega), nI_clamp (show i + 2 < 2 ^ 31 by omega), nI_clamp (show i + 3 < 2 ^ 31 by omega), nI_clamp (show i + 4 < 2 ^ 31 by omega), vpn (show i + 1 < L by omega) (show L < 2 ^ 31 by omega), vpn (show i + 2 < L by omega) (show L < 2 ^ 31 by omega), vpn (show i + 3 < L by omega) (show L < 2 ^ 31 by omega), vpn (show i + 4 < L by omega) (show L < 2 ^ 31 by omega), S2_b, N2_b, hb1, true_and, and_true, rf_s, not_true_eq_false, not_false_eq_true, true_implies, false_implies, kl_i, kl_n, kl_l, kl_r, Option.toList, List.cons_append, List.nil_append, if_true, if_false, u2s, lt00, lt01, lt02, lt03, le10, le20, le30, ne10, ne20, ne30, eq00]
  refine gs_L_law_2209 ?_
  rintro - ls2 hL2
  refine sg_cL (M := MX9_restore) (As := []) (b' := m9) (pc2 := 2212) rfl (none) C hL2 (d := 11) ⟨by omega, by omega⟩ ⟨by omega, by omega⟩ dL_law_2209 rfl rfl rfl hm9 (by rw [hm9]; decide) (Nat.zero_le _) rfl hc hW1 (fun H2 locs2 hW2 => ?_)
  refine segB_ok (M := ML_law) C hW2 hb2 ?_ hL2
  simp only [g_L_law_2212, S2_b, true_and, and_true, rf_s, not_true_eq_false, not_false_eq_true, true_implies, false_implies, kl_i, kl_n, kl_l, kl_r, Option.toList, List.cons_append, List.nil_append, if_true, if_false, u2s, lt00, lt01, lt02, lt03, le10, le20, le30, ne10, ne20, ne30, eq00]
  refine gs_L_law_2213 ?_
  rintro - ls3 hL3
  refine sg_cL (M := MX9_thrown) (As := []) (b' := m9) (pc2 := 2216) rfl (some (.int k)) C hL3 (d := 0) ⟨by omega, by omega⟩ ⟨by omega, by omega⟩ dL_law_2213 rfl rfl rfl hm9 (by rw [hm9]; decide) (Nat.zero_le _) rfl (hv2.thr h8) hW2 (fun H3 locs3 hW3 => ?_)
  have ek : (k = k) = True := eq_self _
  refine segB_ok (M := ML_law) C hW3 hb2 ?_ hL3
  simp only [g_L_law_2216, g_L_law_2218, g_L_law_2221, g_L_law_2223, g_L_law_2226, ek, true_and, and_true, rf_s, not_true_eq_false, not_false_eq_true, true_implies, false_implies, kl_i, kl_n, kl_l, kl_r, Option.toList, List.cons_append, List.nil_append, if_true, if_false, u2s, lt00, lt01, lt02, lt03, le10, le20, le30, ne10, ne20, ne30, eq00]
  refine g_L_law_2229.mpr ?_
  simp only [g_L_law_28, g_L_law_30, nIa5, true_and, and_true, rf_s, not_true_eq_false, not_false_eq_true, true_implies, false_implies, kl_i, kl_n, kl_l, kl_r, Option.toList, List.cons_append, List.nil_append, if_true, if_false, u2s, lt00, lt01, lt02, lt03, le10, le20, le30, ne10, ne20, ne30, eq00]
  refine gs_L_law_31 ?_
  rintro - ls4 hL4
  exact hk _ _ _ _ _ _ _ _ _ _ hW3 hv2 hL4
end LAWC

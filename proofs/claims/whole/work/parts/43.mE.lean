/-! the model's persons and its smaller questions -/
theorem q64 (p j : Nat) : (64 : Int32) + 3 * nI p + nI j = nI (64 + 3 * p + j) := nIx2 (a := 64) (b := 3) p
theorem q64' (p : Nat) : (64 : Int32) + 3 * nI p = nI (64 + 3 * p) := nIx (a := 64) (b := 3) p
section MTE
variable {S N : Nat → Nat} {d : Nat} {I : IM} {J : JM} {P : PM} {Q : Option Value → IM → JM → PM → Prop} {m : Nat} {g : Nat → Int32} {h : Nat → Int64} {nb nc nk : Nat}
theorem s_faultPosition (hm : MdS S N P m) : CWp S N d MX9_faultPosition [.ref m] I J P Q ↔ Q (some (.int (I m 13))) (u2 I m 8 0) J P := by
  rw [c_X9_faultPosition]
  unfold MdS at hm
  simp only [e_X9_faultPosition_0, e_X9_faultPosition_1, e_X9_faultPosition_2, e_X9_faultPosition_5, e_X9_faultPosition_6, e_X9_faultPosition_9, hm, u2k _ _ _ (show (13 : Nat) ≠ 8 by decide), true_and, and_true, rf_s, not_true_eq_false, not_false_eq_true, true_implies, false_implies, kl_i, kl_n, kl_l, kl_r, Option.toList, List.cons_append, List.nil_append, if_true, if_false, u2s, lt00, lt01, lt02, lt03, le10, le20, le30, ne10, ne20, ne30, eq00]
theorem s_bracketCount (hm : MdS S N P m) : CWp S N d MX9_bracketCount [.ref m] I J P Q ↔ Q (some (.int (I (m + 1) 0))) (u2 I m 8 0) J P := by
  rw [c_X9_bracketCount]
  unfold MdS at hm
  simp only [e_X9_bracketCount_0, e_X9_bracketCount_1, e_X9_bracketCount_2, e_X9_bracketCount_5, e_X9_bracketCount_6, e_X9_bracketCount_9, e_X9_bracketCount_10, e_X9_bracketCount_11, hm, u2_off _ _ _ (show m + 1 ≠ m by omega), cl_0, vl89_0, true_and, and_true, rf_s, not_true_eq_false, not_false_eq_true, true_implies, false_implies, kl_i, kl_n, kl_l, kl_r, Option.toList, List.cons_append, List.nil_append, if_true, if_false, u2s, lt00, lt01, lt02, lt03, le10, le20, le30, ne10, ne20, ne30, eq00]
theorem s_chargeCount (hm : MdS S N P m) : CWp S N d MX9_chargeCount [.ref m] I J P Q ↔ Q (some (.int (I (m + 1) 18))) (u2 I m 8 0) J P := by
  rw [c_X9_chargeCount]
  unfold MdS at hm
  simp only [e_X9_chargeCount_0, e_X9_chargeCount_1, e_X9_chargeCount_2, e_X9_chargeCount_5, e_X9_chargeCount_6, e_X9_chargeCount_9, e_X9_chargeCount_11, e_X9_chargeCount_12, hm, u2_off _ _ _ (show m + 1 ≠ m by omega), cl_18, vl89_18, true_and, and_true, rf_s, not_true_eq_false, not_false_eq_true, true_implies, false_implies, kl_i, kl_n, kl_l, kl_r, Option.toList, List.cons_append, List.nil_append, if_true, if_false, u2s, lt00, lt01, lt02, lt03, le10, le20, le30, ne10, ne20, ne30, eq00]
theorem s_creditCount (hm : MdS S N P m) : CWp S N d MX9_creditCount [.ref m] I J P Q ↔ Q (some (.int (I (m + 1) 27))) (u2 I m 8 0) J P := by
  rw [c_X9_creditCount]
  unfold MdS at hm
  simp only [e_X9_creditCount_0, e_X9_creditCount_1, e_X9_creditCount_2, e_X9_creditCount_5, e_X9_creditCount_6, e_X9_creditCount_9, e_X9_creditCount_11, e_X9_creditCount_12, hm, u2_off _ _ _ (show m + 1 ≠ m by omega), cl_27, vl89_27, true_and, and_true, rf_s, not_true_eq_false, not_false_eq_true, true_implies, false_implies, kl_i, kl_n, kl_l, kl_r, Option.toList, List.cons_append, List.nil_append, if_true, if_false, u2s, lt00, lt01, lt02, lt03, le10, le20, le30, ne10, ne20, ne30, eq00]
theorem s_allowance_bad (hm : MdS S N P m) {v : Int32} (hv : v < 0 ∨ nI 5 ≤ v) : CWp S N (d + 1) MX9_allowance [.ref m, .int v] I J P Q ↔ Q (some (.int 0)) (u2 I m 8 1) J P := by
  rw [c_X9_allowance]
  unfold MdS at hm
  have b := badj 4 (by decide) hv
  simp only [show nI 4 = (4 : Int32) from rfl] at b
  simp only [e_X9_allowance_0, e_X9_allowance_1, e_X9_allowance_2, e_X9_allowance_3, e_X9_allowance_4, e_X9_allowance_7, e_X9_allowance_10, e_X9_allowance_11, e_X9_allowance_14, e_X9_allowance_15, e_X9_allowance_18, e_X9_allowance_19, e_X9_allowance_22, e_X9_allowance_25, e_X9_allowance_26, e_X9_allowance_29, e_X9_allowance_30, e_X9_allowance_33, e_X9_allowance_35, e_X9_allowance_36, e_X9_allowance_37, e_X9_allowance_38, s_in, b, hm, true_and, and_true, rf_s, not_true_eq_false, not_false_eq_true, true_implies, false_implies, kl_i, kl_n, kl_l, kl_r, Option.toList, List.cons_append, List.nil_append, if_true, if_false, u2s, lt00, lt01, lt02, lt03, le10, le20, le30, ne10, ne20, ne30, eq00]
theorem s_allowance_ok (hm : MdS S N P m) {j : Nat} (hj : j < 5) : CWp S N (d + 1) MX9_allowance [.ref m, .int (nI j)] I J P Q ↔ Q (some (.int (I (m + 1) (13 + j)))) (u2 I m 8 0) J P := by
  rw [c_X9_allowance]
  unfold MdS at hm
  have b : (0 ≤ nI j ∧ nI j ≤ nI 4) = True := goodj 4 (by decide) (show j ≤ 4 by omega)
  simp only [show nI 4 = (4 : Int32) from rfl] at b
  have q : (13 : Int32) + nI j = nI (13 + j) := by rw [show (13 : Int32) = nI 13 from rfl, nI_add]
  simp only [e_X9_allowance_0, e_X9_allowance_1, e_X9_allowance_2, e_X9_allowance_3, e_X9_allowance_4, e_X9_allowance_7, e_X9_allowance_10, e_X9_allowance_11, e_X9_allowance_14, e_X9_allowance_15, e_X9_allowance_18, e_X9_allowance_19, e_X9_allowance_22, e_X9_allowance_25, e_X9_allowance_26, e_X9_allowance_29, e_X9_allowance_30, e_X9_allowance_33, e_X9_allowance_35, e_X9_allowance_36, e_X9_allowance_37, e_X9_allowance_38, s_in, b, hm, le00, q, nI_clamp (show 13 + j < 2 ^ 31 by omega), vpn (show 13 + j < 89 by omega) (by decide), u2_off _ _ _ (show m + 1 ≠ m by omega), true_and, and_true, rf_s, not_true_eq_false, not_false_eq_true, true_implies, false_implies, kl_i, kl_n, kl_l, kl_r, Option.toList, List.cons_append, List.nil_append, if_true, if_false, u2s, lt00, lt01, lt02, lt03, le10, le20, le30, ne10, ne20, ne30, eq00]
theorem s_bracket_bad1 (hm : MdS S N P m) (hg : I (m + 1) = g) (hc : Cnt g nb nc nk) {v w : Int32} (hv : v < 0 ∨ nI nb ≤ v) : CWp S N (d + 1) MX9_bracket [.ref m, .int v, .int w] I J P Q ↔ Q (some (.int 0)) (u2 I m 8 1) J P := by
  rw [c_X9_bracket]
  unfold MdS at hm
  simp only [e_X9_bracket_0, e_X9_bracket_1, e_X9_bracket_2, e_X9_bracket_3, e_X9_bracket_4, e_X9_bracket_7, e_X9_bracket_8, e_X9_bracket_9, e_X9_bracket_10, e_X9_bracket_11, e_X9_bracket_14, e_X9_bracket_17, e_X9_bracket_18, e_X9_bracket_19, e_X9_bracket_20, e_X9_bracket_23, e_X9_bracket_26, e_X9_bracket_27, e_X9_bracket_30, e_X9_bracket_31, e_X9_bracket_34, e_X9_bracket_35, e_X9_bracket_38, e_X9_bracket_39, e_X9_bracket_42, e_X9_bracket_45, e_X9_bracket_46, e_X9_bracket_49, e_X9_bracket_50, e_X9_bracket_53, e_X9_bracket_54, e_X9_bracket_55, e_X9_bracket_56, e_X9_bracket_57, e_X9_bracket_58, e_X9_bracket_59, e_X9_bracket_60, e_X9_bracket_61, s_in, hm, hg, hc.2.2.2.1, badk hc.1 hv, cl_0, vl89_0, true_and, and_true, rf_s, not_true_eq_false, not_false_eq_true, true_implies, false_implies, kl_i, kl_n, kl_l, kl_r, Option.toList, List.cons_append, List.nil_append, if_true, if_false, u2s, lt00, lt01, lt02, lt03, le10, le20, le30, ne10, ne20, ne30, eq00]
theorem s_bracket_bad2 (hm : MdS S N P m) (hg : I (m + 1) = g) (hc : Cnt g nb nc nk) {k : Nat} {w : Int32} (hk : k < nb) (hw : w < 0 ∨ nI 2 ≤ w) : CWp S N (d + 1) MX9_bracket [.ref m, .int (nI k), .int w] I J P Q ↔ Q (some (.int 0)) (u2 I m 8 2) J P := by
  rw [c_X9_bracket]
  unfold MdS at hm
  have b := badj 1 (by decide) hw
  simp only [show nI 1 = (1 : Int32) from rfl] at b
  simp only [e_X9_bracket_0, e_X9_bracket_1, e_X9_bracket_2, e_X9_bracket_3, e_X9_bracket_4, e_X9_bracket_7, e_X9_bracket_8, e_X9_bracket_9, e_X9_bracket_10, e_X9_bracket_11, e_X9_bracket_14, e_X9_bracket_17, e_X9_bracket_18, e_X9_bracket_19, e_X9_bracket_20, e_X9_bracket_23, e_X9_bracket_26, e_X9_bracket_27, e_X9_bracket_30, e_X9_bracket_31, e_X9_bracket_34, e_X9_bracket_35, e_X9_bracket_38, e_X9_bracket_39, e_X9_bracket_42, e_X9_bracket_45, e_X9_bracket_46, e_X9_bracket_49, e_X9_bracket_50, e_X9_bracket_53, e_X9_bracket_54, e_X9_bracket_55, e_X9_bracket_56, e_X9_bracket_57, e_X9_bracket_58, e_X9_bracket_59, e_X9_bracket_60, e_X9_bracket_61, s_in, hm, hg, hc.2.2.2.1, goodk hc.1 hk, b, cl_0, vl89_0, true_and, and_true, rf_s, not_true_eq_false, not_false_eq_true, true_implies, false_implies, kl_i, kl_n, kl_l, kl_r, Option.toList, List.cons_append, List.nil_append, if_true, if_false, u2s, lt00, lt01, lt02, lt03, le10, le20, le30, ne10, ne20, ne30, eq00]
theorem s_bracket_ok (hm : MdS S N P m) (hg : I (m + 1) = g) (hc : Cnt g nb nc nk) {k j : Nat} (hk : k < nb) (hj : j < 2) : CWp S N (d + 1) MX9_bracket [.ref m, .int (nI k), .int (nI j)] I J P Q ↔ Q (some (.int (g (1 + 2 * k + j)))) (u2 I m 8 0) J P := by
  rw [c_X9_bracket]
  unfold MdS at hm
  have h6 := hc.1
  have b : (0 ≤ nI j ∧ nI j ≤ nI 1) = True := goodj 1 (by decide) (show j ≤ 1 by omega)
  simp only [show nI 1 = (1 : Int32) from rfl] at b
  have q : (1 : Int32) + 2 * nI k + nI j = nI (1 + 2 * k + j) := nIx2 (a := 1) (b := 2) k
  simp only [e_X9_bracket_0, e_X9_bracket_1, e_X9_bracket_2, e_X9_bracket_3, e_X9_bracket_4, e_X9_bracket_7, e_X9_bracket_8, e_X9_bracket_9, e_X9_bracket_10, e_X9_bracket_11, e_X9_bracket_14, e_X9_bracket_17, e_X9_bracket_18, e_X9_bracket_19, e_X9_bracket_20, e_X9_bracket_23, e_X9_bracket_26, e_X9_bracket_27, e_X9_bracket_30, e_X9_bracket_31, e_X9_bracket_34, e_X9_bracket_35, e_X9_bracket_38, e_X9_bracket_39, e_X9_bracket_42, e_X9_bracket_45, e_X9_bracket_46, e_X9_bracket_49, e_X9_bracket_50, e_X9_bracket_53, e_X9_bracket_54, e_X9_bracket_55, e_X9_bracket_56, e_X9_bracket_57, e_X9_bracket_58, e_X9_bracket_59, e_X9_bracket_60, e_X9_bracket_61, s_in, hm, hg, hc.2.2.2.1, goodk hc.1 hk, b, cl_0, vl89_0, le00, q, nI_clamp (show 1 + 2 * k + j < 2 ^ 31 by omega), vpn (show 1 + 2 * k + j < 89 by omega) (by decide), u2_off _ _ _ (show m + 1 ≠ m by omega), true_and, and_true, rf_s, not_true_eq_false, not_false_eq_true, true_implies, false_implies, kl_i, kl_n, kl_l, kl_r, Option.toList, List.cons_append, List.nil_append, if_true, if_false, u2s, lt00, lt01, lt02, lt03, le10, le20, le30, ne10, ne20, ne30, eq00]
theorem s_charge_bad1 (hm : MdS S N P m) (hg : I (m + 1) = g) (hc : Cnt g nb nc nk) {v w : Int32} (hv : v < 0 ∨ nI nc ≤ v) : CWp S N (d + 1) MX9_charge [.ref m, .int v, .int w] I J P Q ↔ Q (some (.int 0)) (u2 I m 8 1) J P := by
  rw [c_X9_charge]
  unfold MdS at hm
  simp only [e_X9_charge_0, e_X9_charge_1, e_X9_charge_2, e_X9_charge_3, e_X9_charge_4, e_X9_charge_7, e_X9_charge_9, e_X9_charge_10, e_X9_charge_11, e_X9_charge_12, e_X9_charge_15, e_X9_charge_18, e_X9_charge_19, e_X9_charge_20, e_X9_charge_21, e_X9_charge_24, e_X9_charge_27, e_X9_charge_28, e_X9_charge_31, e_X9_charge_32, e_X9_charge_35, e_X9_charge_36, e_X9_charge_39, e_X9_charge_40, e_X9_charge_43, e_X9_charge_46, e_X9_charge_47, e_X9_charge_50, e_X9_charge_51, e_X9_charge_54, e_X9_charge_56, e_X9_charge_57, e_X9_charge_58, e_X9_charge_59, e_X9_charge_60, e_X9_charge_61, e_X9_charge_62, e_X9_charge_63, s_in, hm, hg, hc.2.2.2.2.1, badk (show nc ≤ 6 by have := hc.2.1; omega) hv, cl_18, vl89_18, true_and, and_true, rf_s, not_true_eq_false, not_false_eq_true, true_implies, false_implies, kl_i, kl_n, kl_l, kl_r, Option.toList, List.cons_append, List.nil_append, if_true, if_false, u2s, lt00, lt01, lt02, lt03, le10, le20, le30, ne10, ne20, ne30, eq00]
theorem s_charge_bad2 (hm : MdS S N P m) (hg : I (m + 1) = g) (hc : Cnt g nb nc nk) {k : Nat} {w : Int32} (hk : k < nc) (hw : w < 0 ∨ nI 2 ≤ w) : CWp S N (d + 1) MX9_charge [.ref m, .int (nI k), .int w] I J P Q ↔ Q (some (.int 0)) (u2 I m 8 2) J P := by
  rw [c_X9_charge]
  unfold MdS at hm
  have b := badj 1 (by decide) hw
  simp only [show nI 1 = (1 : Int32) from rfl] at b
  simp only [e_X9_charge_0, e_X9_charge_1, e_X9_charge_2, e_X9_charge_3, e_X9_charge_4, e_X9_charge_7, e_X9_charge_9, e_X9_charge_10, e_X9_charge_11, e_X9_charge_12, e_X9_charge_15, e_X9_charge_18, e_X9_charge_19, e_X9_charge_20, e_X9_charge_21, e_X9_charge_24, e_X9_charge_27, e_X9_charge_28, e_X9_charge_31, e_X9_charge_32, e_X9_charge_35, e_X9_charge_36, e_X9_charge_39, e_X9_charge_40, e_X9_charge_43, e_X9_charge_46, e_X9_charge_47, e_X9_charge_50, e_X9_charge_51, e_X9_charge_54, e_X9_charge_56, e_X9_charge_57, e_X9_charge_58, e_X9_charge_59, e_X9_charge_60, e_X9_charge_61, e_X9_charge_62, e_X9_charge_63, s_in, hm, hg, hc.2.2.2.2.1, goodk (show nc ≤ 6 by have := hc.2.1; omega) hk, b, cl_18, vl89_18, true_and, and_true, rf_s, not_true_eq_false, not_false_eq_true, true_implies, false_implies, kl_i, kl_n, kl_l, kl_r, Option.toList, List.cons_append, List.nil_append, if_true, if_false, u2s, lt00, lt01, lt02, lt03, le10, le20, le30, ne10, ne20, ne30, eq00]
theorem s_charge_ok (hm : MdS S N P m) (hg : I (m + 1) = g) (hc : Cnt g nb nc nk) {k j : Nat} (hk : k < nc) (hj : j < 2) : CWp S N (d + 1) MX9_charge [.ref m, .int (nI k), .int (nI j)] I J P Q ↔ Q (some (.int (g (19 + 2 * k + j)))) (u2 I m 8 0) J P := by
  rw [c_X9_charge]
  unfold MdS at hm
  have h6 := hc.2.1
  have b : (0 ≤ nI j ∧ nI j ≤ nI 1) = True := goodj 1 (by decide) (show j ≤ 1 by omega)
  simp only [show nI 1 = (1 : Int32) from rfl] at b
  have q : (19 : Int32) + 2 * nI k + nI j = nI (19 + 2 * k + j) := nIx2 (a := 19) (b := 2) k
  simp only [e_X9_charge_0, e_X9_charge_1, e_X9_charge_2, e_X9_charge_3, e_X9_charge_4, e_X9_charge_7, e_X9_charge_9, e_X9_charge_10, e_X9_charge_11, e_X9_charge_12, e_X9_charge_15, e_X9_charge_18, e_X9_charge_19, e_X9_charge_20, e_X9_charge_21, e_X9_charge_24, e_X9_charge_27, e_X9_charge_28, e_X9_charge_31, e_X9_charge_32, e_X9_charge_35, e_X9_charge_36, e_X9_charge_39, e_X9_charge_40, e_X9_charge_43, e_X9_charge_46, e_X9_charge_47, e_X9_charge_50, e_X9_charge_51, e_X9_charge_54, e_X9_charge_56, e_X9_charge_57, e_X9_charge_58, e_X9_charge_59, e_X9_charge_60, e_X9_charge_61, e_X9_charge_62, e_X9_charge_63, s_in, hm, hg, hc.2.2.2.2.1, goodk (show nc ≤ 6 by omega) hk, b, cl_18, vl89_18, le00, q, nI_clamp (show 19 + 2 * k + j < 2 ^ 31 by omega), vpn (show 19 + 2 * k + j < 89 by omega) (by decide), u2_off _ _ _ (show m + 1 ≠ m by omega), true_and, and_true, rf_s, not_true_eq_false, not_false_eq_true, true_implies, false_implies, kl_i, kl_n, kl_l, kl_r, Option.toList, List.cons_append, List.nil_append, if_true, if_false, u2s, lt00, lt01, lt02, lt03, le10, le20, le30, ne10, ne20, ne30, eq00]
theorem s_credit_bad1 (hm : MdS S N P m) (hg : I (m + 1) = g) (hc : Cnt g nb nc nk) {v w : Int32} (hv : v < 0 ∨ nI nk ≤ v) : CWp S N (d + 2) MX9_credit [.ref m, .int v, .int w] I J P Q ↔ Q (some (.int 0)) (u2 I m 8 1) J P := by
  rw [c_X9_credit]
  have hm0 := hm
  unfold MdS at hm
  simp only [e_X9_credit_0, e_X9_credit_1, e_X9_credit_2, e_X9_credit_3, e_X9_credit_6, e_X9_credit_9, e_X9_credit_10, e_X9_credit_11, e_X9_credit_12, e_X9_credit_15, e_X9_credit_18, e_X9_credit_19, e_X9_credit_22, e_X9_credit_23, e_X9_credit_26, e_X9_credit_27, e_X9_credit_30, e_X9_credit_31, e_X9_credit_34, e_X9_credit_37, e_X9_credit_38, e_X9_credit_41, e_X9_credit_42, e_X9_credit_43, e_X9_credit_44, e_X9_credit_47, s_in, hm, s_isCredit hm0 hg hc.2.2.2.2.2, badk hc.2.2.1 hv, true_and, and_true, rf_s, not_true_eq_false, not_false_eq_true, true_implies, false_implies, kl_i, kl_n, kl_l, kl_r, Option.toList, List.cons_append, List.nil_append, if_true, if_false, u2s, lt00, lt01, lt02, lt03, le10, le20, le30, ne10, ne20, ne30, eq00]
theorem s_credit_bad2 (hm : MdS S N P m) (hg : I (m + 1) = g) (hc : Cnt g nb nc nk) {k : Nat} {w : Int32} (hk : k < nk) (hw : w < 0 ∨ nI 6 ≤ w) : CWp S N (d + 2) MX9_credit [.ref m, .int (nI k), .int w] I J P Q ↔ Q (some (.int 0)) (u2 I m 8 2) J P := by
  rw [c_X9_credit]
  have hm0 := hm
  unfold MdS at hm
  simp only [e_X9_credit_0, e_X9_credit_1, e_X9_credit_2, e_X9_credit_3, e_X9_credit_6, e_X9_credit_9, e_X9_credit_10, e_X9_credit_11, e_X9_credit_12, e_X9_credit_15, e_X9_credit_18, e_X9_credit_19, e_X9_credit_22, e_X9_credit_23, e_X9_credit_26, e_X9_credit_27, e_X9_credit_30, e_X9_credit_31, e_X9_credit_34, e_X9_credit_37, e_X9_credit_38, e_X9_credit_41, e_X9_credit_42, e_X9_credit_43, e_X9_credit_44, e_X9_credit_47, s_in, hm, s_isCredit hm0 hg hc.2.2.2.2.2, goodk hc.2.2.1 hk, bad6 hw, true_and, and_true, rf_s, not_true_eq_false, not_false_eq_true, true_implies, false_implies, kl_i, kl_n, kl_l, kl_r, Option.toList, List.cons_append, List.nil_append, if_true, if_false, u2s, lt00, lt01, lt02, lt03, le10, le20, le30, ne10, ne20, ne30, eq00]
theorem s_credit_ok (hm : MdS S N P m) (hg : I (m + 1) = g) (hc : Cnt g nb nc nk) {k j : Nat} (hk : k < nk) (hj : j < 6) : CWp S N (d + 2) MX9_credit [.ref m, .int (nI k), .int (nI j)] I J P Q ↔ Q (some (.int (g (28 + 6 * k + j)))) (u2 I m 8 0) J P := by
  rw [c_X9_credit]
  have hm0 := hm
  unfold MdS at hm
  have h6 := hc.2.2.1
  simp only [e_X9_credit_0, e_X9_credit_1, e_X9_credit_2, e_X9_credit_3, e_X9_credit_6, e_X9_credit_9, e_X9_credit_10, e_X9_credit_11, e_X9_credit_12, e_X9_credit_15, e_X9_credit_18, e_X9_credit_19, e_X9_credit_22, e_X9_credit_23, e_X9_credit_26, e_X9_credit_27, e_X9_credit_30, e_X9_credit_31, e_X9_credit_34, e_X9_credit_37, e_X9_credit_38, e_X9_credit_41, e_X9_credit_42, e_X9_credit_43, e_X9_credit_44, e_X9_credit_47, s_in, hm, s_isCredit hm0 hg hc.2.2.2.2.2, goodk hc.2.2.1 hk, good6 hj, le00, s_creditOf hm0 (show k < 6 by omega) hj, u2_off _ _ _ (show m + 1 ≠ m by omega), hg, true_and, and_true, rf_s, not_true_eq_false, not_false_eq_true, true_implies, false_implies, kl_i, kl_n, kl_l, kl_r, Option.toList, List.cons_append, List.nil_append, if_true, if_false, u2s, lt00, lt01, lt02, lt03, le10, le20, le30, ne10, ne20, ne30, eq00]
theorem s_personData_bad1 (hm : MdS S N P m) {v w : Int32} (hv : v < 0 ∨ nI 6 ≤ v) : CWp S N (d + 2) MX9_personData [.ref m, .int v, .int w] I J P Q ↔ Q (some (.int 0)) (u2 I m 8 1) J P := by
  rw [c_X9_personData]
  unfold MdS at hm
  simp only [e_X9_personData_0, e_X9_personData_1, e_X9_personData_2, e_X9_personData_5, e_X9_personData_8, e_X9_personData_9, e_X9_personData_10, e_X9_personData_11, e_X9_personData_14, e_X9_personData_17, e_X9_personData_18, e_X9_personData_21, e_X9_personData_22, e_X9_personData_25, e_X9_personData_26, e_X9_personData_29, e_X9_personData_30, e_X9_personData_33, e_X9_personData_36, e_X9_personData_37, e_X9_personData_40, e_X9_personData_41, e_X9_personData_42, e_X9_personData_43, e_X9_personData_46, s_isPerson, bad6 hv, hm, true_and, and_true, rf_s, not_true_eq_false, not_false_eq_true, true_implies, false_implies, kl_i, kl_n, kl_l, kl_r, Option.toList, List.cons_append, List.nil_append, if_true, if_false, u2s, lt00, lt01, lt02, lt03, le10, le20, le30, ne10, ne20, ne30, eq00]
theorem s_personData_bad2 (hm : MdS S N P m) {p : Nat} {w : Int32} (hp : p < 6) (hw : w < 0 ∨ nI 3 ≤ w) : CWp S N (d + 2) MX9_personData [.ref m, .int (nI p), .int w] I J P Q ↔ Q (some (.int 0)) (u2 I m 8 2) J P := by
  rw [c_X9_personData]
  unfold MdS at hm
  have b := badj 2 (by decide) hw
  simp only [show nI 2 = (2 : Int32) from rfl] at b
  simp only [e_X9_personData_0, e_X9_personData_1, e_X9_personData_2, e_X9_personData_5, e_X9_personData_8, e_X9_personData_9, e_X9_personData_10, e_X9_personData_11, e_X9_personData_14, e_X9_personData_17, e_X9_personData_18, e_X9_personData_21, e_X9_personData_22, e_X9_personData_25, e_X9_personData_26, e_X9_personData_29, e_X9_personData_30, e_X9_personData_33, e_X9_personData_36, e_X9_personData_37, e_X9_personData_40, e_X9_personData_41, e_X9_personData_42, e_X9_personData_43, e_X9_personData_46, s_isPerson, good6 hp, s_in, b, hm, true_and, and_true, rf_s, not_true_eq_false, not_false_eq_true, true_implies, false_implies, kl_i, kl_n, kl_l, kl_r, Option.toList, List.cons_append, List.nil_append, if_true, if_false, u2s, lt00, lt01, lt02, lt03, le10, le20, le30, ne10, ne20, ne30, eq00]
theorem s_personData_ok (hm : MdS S N P m) (hg : I (m + 1) = g) {p j : Nat} (hp : p < 6) (hj : j < 3) : CWp S N (d + 2) MX9_personData [.ref m, .int (nI p), .int (nI j)] I J P Q ↔ Q (some (.int (g (64 + 3 * p + j)))) (u2 I m 8 0) J P := by
  rw [c_X9_personData]
  have hm0 := hm
  unfold MdS at hm
  have b : (0 ≤ nI j ∧ nI j ≤ nI 2) = True := goodj 2 (by decide) (show j ≤ 2 by omega)
  simp only [show nI 2 = (2 : Int32) from rfl] at b
  have e0 : (u2 I m 8 0) (m + 1) = g := by rw [u2_off _ _ _ (by omega)]; exact hg
  simp only [e_X9_personData_0, e_X9_personData_1, e_X9_personData_2, e_X9_personData_5, e_X9_personData_8, e_X9_personData_9, e_X9_personData_10, e_X9_personData_11, e_X9_personData_14, e_X9_personData_17, e_X9_personData_18, e_X9_personData_21, e_X9_personData_22, e_X9_personData_25, e_X9_personData_26, e_X9_personData_29, e_X9_personData_30, e_X9_personData_33, e_X9_personData_36, e_X9_personData_37, e_X9_personData_40, e_X9_personData_41, e_X9_personData_42, e_X9_personData_43, e_X9_personData_46, s_isPerson, good6 hp, s_in, b, hm, le00, s_ofG hm0 e0 hp hj, true_and, and_true, rf_s, not_true_eq_false, not_false_eq_true, true_implies, false_implies, kl_i, kl_n, kl_l, kl_r, Option.toList, List.cons_append, List.nil_append, if_true, if_false, u2s, lt00, lt01, lt02, lt03, le10, le20, le30, ne10, ne20, ne30, eq00]
theorem s_setPerson_bad1 (hm : MdS S N P m) {v e o dd : Int32} (hv : v < 0 ∨ nI 6 ≤ v) : CWp S N (d + 2) MX9_setPerson [.ref m, .int v, .int e, .int o, .int dd] I J P Q ↔ Q none (u2 I m 8 1) J P := by
  rw [c_X9_setPerson]
  unfold MdS at hm
  simp only [e_X9_setPerson_0, e_X9_setPerson_1, e_X9_setPerson_2, e_X9_setPerson_5, e_X9_setPerson_8, e_X9_setPerson_9, e_X9_setPerson_10, e_X9_setPerson_13, e_X9_setPerson_16, e_X9_setPerson_19, e_X9_setPerson_20, e_X9_setPerson_21, e_X9_setPerson_24, e_X9_setPerson_27, e_X9_setPerson_30, e_X9_setPerson_32, e_X9_setPerson_33, e_X9_setPerson_35, e_X9_setPerson_38, e_X9_setPerson_41, e_X9_setPerson_42, e_X9_setPerson_45, e_X9_setPerson_46, e_X9_setPerson_49, e_X9_setPerson_50, e_X9_setPerson_53, e_X9_setPerson_54, e_X9_setPerson_57, e_X9_setPerson_60, s_isPerson, bad6 hv, hm, true_and, and_true, rf_s, not_true_eq_false, not_false_eq_true, true_implies, false_implies, kl_i, kl_n, kl_l, kl_r, Option.toList, List.cons_append, List.nil_append, if_true, if_false, u2s, lt00, lt01, lt02, lt03, le10, le20, le30, ne10, ne20, ne30, eq00]
theorem s_setPerson_bad2 (hm : MdS S N P m) {p : Nat} {e o dd : Int32} (hp : p < 6) (hb : ¬ ((0 ≤ e ∧ e ≤ 9999) ∧ (0 ≤ o ∧ o ≤ 9999) ∧ (0 ≤ dd ∧ dd ≤ 9))) : CWp S N (d + 2) MX9_setPerson [.ref m, .int (nI p), .int e, .int o, .int dd] I J P Q ↔ Q none (u2 I m 8 2) J P := by
  rw [c_X9_setPerson]
  unfold MdS at hm
  by_cases h1 : 0 ≤ e ∧ e ≤ 9999
  · by_cases h2 : 0 ≤ o ∧ o ≤ 9999
    · have h3 : (0 ≤ dd ∧ dd ≤ 9) = False := eq_false (fun h3 => hb ⟨h1, h2, h3⟩)
      have h1' := eq_true h1
      have h2' := eq_true h2
      simp only [e_X9_setPerson_0, e_X9_setPerson_1, e_X9_setPerson_2, e_X9_setPerson_5, e_X9_setPerson_8, e_X9_setPerson_9, e_X9_setPerson_10, e_X9_setPerson_13, e_X9_setPerson_16, e_X9_setPerson_19, e_X9_setPerson_20, e_X9_setPerson_21, e_X9_setPerson_24, e_X9_setPerson_27, e_X9_setPerson_30, e_X9_setPerson_32, e_X9_setPerson_33, e_X9_setPerson_35, e_X9_setPerson_38, e_X9_setPerson_41, e_X9_setPerson_42, e_X9_setPerson_45, e_X9_setPerson_46, e_X9_setPerson_49, e_X9_setPerson_50, e_X9_setPerson_53, e_X9_setPerson_54, e_X9_setPerson_57, e_X9_setPerson_60, s_isPerson, good6 hp, s_in, h1', h2', h3, hm, true_and, and_true, rf_s, not_true_eq_false, not_false_eq_true, true_implies, false_implies, kl_i, kl_n, kl_l, kl_r, Option.toList, List.cons_append, List.nil_append, if_true, if_false, u2s, lt00, lt01, lt02, lt03, le10, le20, le30, ne10, ne20, ne30, eq00]
    · have h1' := eq_true h1
      have h2' := eq_false h2
      simp only [e_X9_setPerson_0, e_X9_setPerson_1, e_X9_setPerson_2, e_X9_setPerson_5, e_X9_setPerson_8, e_X9_setPerson_9, e_X9_setPerson_10, e_X9_setPerson_13, e_X9_setPerson_16, e_X9_setPerson_19, e_X9_setPerson_20, e_X9_setPerson_21, e_X9_setPerson_24, e_X9_setPerson_27, e_X9_setPerson_30, e_X9_setPerson_32, e_X9_setPerson_33, e_X9_setPerson_35, e_X9_setPerson_38, e_X9_setPerson_41, e_X9_setPerson_42, e_X9_setPerson_45, e_X9_setPerson_46, e_X9_setPerson_49, e_X9_setPerson_50, e_X9_setPerson_53, e_X9_setPerson_54, e_X9_setPerson_57, e_X9_setPerson_60, s_isPerson, good6 hp, s_in, h1', h2', hm, true_and, and_true, rf_s, not_true_eq_false, not_false_eq_true, true_implies, false_implies, kl_i, kl_n, kl_l, kl_r, Option.toList, List.cons_append, List.nil_append, if_true, if_false, u2s, lt00, lt01, lt02, lt03, le10, le20, le30, ne10, ne20, ne30, eq00]
  · have h1' := eq_false h1
    simp only [e_X9_setPerson_0, e_X9_setPerson_1, e_X9_setPerson_2, e_X9_setPerson_5, e_X9_setPerson_8, e_X9_setPerson_9, e_X9_setPerson_10, e_X9_setPerson_13, e_X9_setPerson_16, e_X9_setPerson_19, e_X9_setPerson_20, e_X9_setPerson_21, e_X9_setPerson_24, e_X9_setPerson_27, e_X9_setPerson_30, e_X9_setPerson_32, e_X9_setPerson_33, e_X9_setPerson_35, e_X9_setPerson_38, e_X9_setPerson_41, e_X9_setPerson_42, e_X9_setPerson_45, e_X9_setPerson_46, e_X9_setPerson_49, e_X9_setPerson_50, e_X9_setPerson_53, e_X9_setPerson_54, e_X9_setPerson_57, e_X9_setPerson_60, s_isPerson, good6 hp, s_in, h1', hm, true_and, and_true, rf_s, not_true_eq_false, not_false_eq_true, true_implies, false_implies, kl_i, kl_n, kl_l, kl_r, Option.toList, List.cons_append, List.nil_append, if_true, if_false, u2s, lt00, lt01, lt02, lt03, le10, le20, le30, ne10, ne20, ne30, eq00]
theorem s_setPerson_ok (hm : MdS S N P m) (hg : I (m + 1) = g) (hh : J (m + 2) = h) {p : Nat} {e o dd : Int32} (hp6 : p < 6) (h1 : 0 ≤ e ∧ e ≤ 9999) (h2 : 0 ≤ o ∧ o ≤ 9999) (h3 : 0 ≤ dd ∧ dd ≤ 9) {pn : Nat} {G : Nat → Nat → Int32} {H : Nat → Nat → Int64} (hp : Pas m I J pn G H)
    (hq : ∀ I' J', (∀ x, I' (m + 1) x = if x = 64 + 3 * p then e else if x = 65 + 3 * p then o else if x = 66 + 3 * p then dd else g x) → (∀ a, a ≠ m → a ≠ m + 1 → a ≠ m + 5 → I' a = I a) → (∀ k, k ≠ 7 → k ≠ 8 → I' m k = I m k) → I' m 8 = 0 → (∀ a, a ≠ m + 2 → a ≠ m + 6 → J' a = J a) → J' (m + 2) = h → Pas m I' J' (psn pn) (psh pn G g) (psh pn H h) → Q none I' J' P) : CWp S N (d + 2) MX9_setPerson [.ref m, .int (nI p), .int e, .int o, .int dd] I J P Q := by
  rw [c_X9_setPerson]
  have hm0 := hm
  unfold MdS at hm
  have e0 : (u2 I m 8 0) (m + 1) = g := by rw [u2_off _ _ _ (by omega)]; exact hg
  have h1' := eq_true h1
  have h2' := eq_true h2
  have h3' := eq_true h3
  have q0 := q64' p
  have q1 : nI (64 + 3 * p) + 1 = nI (65 + 3 * p) := by rw [nI_1]; congr 1; omega
  have q2 : nI (64 + 3 * p) + 2 = nI (66 + 3 * p) := by rw [show (2 : Int32) = nI 2 from rfl, nI_add]; congr 1; omega
  simp only [e_X9_setPerson_0, e_X9_setPerson_1, e_X9_setPerson_2, e_X9_setPerson_5, e_X9_setPerson_8, e_X9_setPerson_9, e_X9_setPerson_10, e_X9_setPerson_13, e_X9_setPerson_16, e_X9_setPerson_19, e_X9_setPerson_20, e_X9_setPerson_21, e_X9_setPerson_24, e_X9_setPerson_27, e_X9_setPerson_30, e_X9_setPerson_32, e_X9_setPerson_33, e_X9_setPerson_35, e_X9_setPerson_38, e_X9_setPerson_41, e_X9_setPerson_42, e_X9_setPerson_45, e_X9_setPerson_46, e_X9_setPerson_49, e_X9_setPerson_50, e_X9_setPerson_53, e_X9_setPerson_54, e_X9_setPerson_57, e_X9_setPerson_60, e_X9_setPerson_61, e_X9_setPerson_62, s_isPerson, good6 hp6, s_in, h1', h2', h3', hm, le00, true_and, and_true, rf_s, not_true_eq_false, not_false_eq_true, true_implies, false_implies, kl_i, kl_n, kl_l, kl_r, Option.toList, List.cons_append, List.nil_append, if_true, if_false, u2s, lt00, lt01, lt02, lt03, le10, le20, le30, ne10, ne20, ne30, eq00]
  refine s_changes hm0 (hp.off8 0) (fun I1 J1 a1 a2 a3 a4 => ?_)
  rw [e0, hh] at a4
  have g1 : I1 (m + 1) = g := by rw [a1 _ (by omega) (by omega)]; exact e0
  simp only [e_X9_setPerson_65, e_X9_setPerson_66, e_X9_setPerson_69, e_X9_setPerson_71, e_X9_setPerson_72, e_X9_setPerson_73, e_X9_setPerson_74, e_X9_setPerson_75, e_X9_setPerson_76, e_X9_setPerson_77, e_X9_setPerson_78, e_X9_setPerson_81, e_X9_setPerson_83, e_X9_setPerson_84, e_X9_setPerson_85, e_X9_setPerson_86, e_X9_setPerson_87, e_X9_setPerson_88, e_X9_setPerson_89, e_X9_setPerson_90, e_X9_setPerson_91, e_X9_setPerson_92, e_X9_setPerson_95, e_X9_setPerson_97, e_X9_setPerson_98, e_X9_setPerson_99, e_X9_setPerson_100, e_X9_setPerson_101, e_X9_setPerson_102, e_X9_setPerson_103, e_X9_setPerson_105, e_X9_setPerson_106, hm, q0, q1, q2, nI_clamp (show 64 + 3 * p < 2 ^ 31 by omega), vpn (show 64 + 3 * p < 89 by omega) (by decide), nI_clamp (show 65 + 3 * p < 2 ^ 31 by omega), vpn (show 65 + 3 * p < 89 by omega) (by decide), nI_clamp (show 66 + 3 * p < 2 ^ 31 by omega), vpn (show 66 + 3 * p < 89 by omega) (by decide), true_and, and_true, rf_s, not_true_eq_false, not_false_eq_true, true_implies, false_implies, kl_i, kl_n, kl_l, kl_r, Option.toList, List.cons_append, List.nil_append, if_true, if_false, u2s, lt00, lt01, lt02, lt03, le10, le20, le30, ne10, ne20, ne30, eq00]
  refine hq _ _ (fun x => ?_) (fun a n1 n2 n3 => ?_) (fun k k1 k2 => ?_) ?_ (fun a n1 n2 => ?_) ?_ (a4.on ?_ ?_ rfl)
  · simp only [u2, g1, true_and]
    by_cases x0 : x = 64 + 3 * p
    · rw [if_neg (by omega), if_neg (by omega), if_pos x0, if_pos x0]
    · by_cases x1 : x = 65 + 3 * p
      · rw [if_neg (by omega), if_pos x1, if_neg x0, if_pos x1]
      · by_cases x2 : x = 66 + 3 * p
        · rw [if_pos x2, if_neg x0, if_neg x1, if_pos x2]
        · rw [if_neg x2, if_neg x1, if_neg x0, if_neg x0, if_neg x1, if_neg x2]
  · rw [u2_off _ _ _ n2, u2_off _ _ _ n2, u2_off _ _ _ n2, a1 a n1 n3, u2_off _ _ _ n1]
  · rw [u2_off _ _ _ (by omega), u2_off _ _ _ (by omega), u2_off _ _ _ (by omega), a2 k k1, u2k _ _ _ k2]
  · rw [u2_off _ _ _ (by omega), u2_off _ _ _ (by omega), u2_off _ _ _ (by omega), a2 8 (by decide), u2s]
  · rw [a3 a n2]
  · rw [a3 _ (by omega)]; exact hh
  · rw [u2_off _ _ _ (by omega), u2_off _ _ _ (by omega), u2_off _ _ _ (by omega)]
  · rw [u2_off _ _ _ (by omega), u2_off _ _ _ (by omega), u2_off _ _ _ (by omega)]
theorem s_marry_bad1 (hm : MdS S N P m) {v w : Int32} (hv : v < 0 ∨ nI 6 ≤ v) : CWp S N (d + 2) MX9_marry [.ref m, .int v, .int w] I J P Q ↔ Q none (u2 I m 8 1) J P := by
  rw [c_X9_marry]
  unfold MdS at hm
  simp only [e_X9_marry_0, e_X9_marry_1, e_X9_marry_2, e_X9_marry_5, e_X9_marry_8, e_X9_marry_9, e_X9_marry_12, e_X9_marry_15, e_X9_marry_16, e_X9_marry_19, e_X9_marry_20, e_X9_marry_21, e_X9_marry_24, e_X9_marry_25, e_X9_marry_28, e_X9_marry_29, e_X9_marry_32, e_X9_marry_34, e_X9_marry_35, e_X9_marry_36, e_X9_marry_37, e_X9_marry_40, e_X9_marry_41, e_X9_marry_44, e_X9_marry_46, e_X9_marry_47, e_X9_marry_48, e_X9_marry_49, e_X9_marry_52, e_X9_marry_53, e_X9_marry_56, e_X9_marry_57, e_X9_marry_60, e_X9_marry_61, e_X9_marry_64, e_X9_marry_67, s_isPerson, bad6 hv, hm, true_and, and_true, rf_s, not_true_eq_false, not_false_eq_true, true_implies, false_implies, kl_i, kl_n, kl_l, kl_r, Option.toList, List.cons_append, List.nil_append, if_true, if_false, u2s, lt00, lt01, lt02, lt03, le10, le20, le30, ne10, ne20, ne30, eq00]
theorem s_marry_bad2 (hm : MdS S N P m) {p : Nat} {w : Int32} (hp : p < 6) (hw : w < 0 ∨ nI 6 ≤ w) : CWp S N (d + 2) MX9_marry [.ref m, .int (nI p), .int w] I J P Q ↔ Q none (u2 I m 8 1) J P := by
  rw [c_X9_marry]
  unfold MdS at hm
  simp only [e_X9_marry_0, e_X9_marry_1, e_X9_marry_2, e_X9_marry_5, e_X9_marry_8, e_X9_marry_9, e_X9_marry_12, e_X9_marry_15, e_X9_marry_16, e_X9_marry_19, e_X9_marry_20, e_X9_marry_21, e_X9_marry_24, e_X9_marry_25, e_X9_marry_28, e_X9_marry_29, e_X9_marry_32, e_X9_marry_34, e_X9_marry_35, e_X9_marry_36, e_X9_marry_37, e_X9_marry_40, e_X9_marry_41, e_X9_marry_44, e_X9_marry_46, e_X9_marry_47, e_X9_marry_48, e_X9_marry_49, e_X9_marry_52, e_X9_marry_53, e_X9_marry_56, e_X9_marry_57, e_X9_marry_60, e_X9_marry_61, e_X9_marry_64, e_X9_marry_67, s_isPerson, good6 hp, bad6 hw, hm, ne10, true_and, and_true, rf_s, not_true_eq_false, not_false_eq_true, true_implies, false_implies, kl_i, kl_n, kl_l, kl_r, Option.toList, List.cons_append, List.nil_append, if_true, if_false, u2s, lt00, lt01, lt02, lt03, le10, le20, le30, ne10, ne20, ne30, eq00]
theorem s_marry_same (hm : MdS S N P m) {p : Nat} (hp : p < 6) : CWp S N (d + 2) MX9_marry [.ref m, .int (nI p), .int (nI p)] I J P Q ↔ Q none (u2 I m 8 2) J P := by
  rw [c_X9_marry]
  unfold MdS at hm
  simp only [e_X9_marry_0, e_X9_marry_1, e_X9_marry_2, e_X9_marry_5, e_X9_marry_8, e_X9_marry_9, e_X9_marry_12, e_X9_marry_15, e_X9_marry_16, e_X9_marry_19, e_X9_marry_20, e_X9_marry_21, e_X9_marry_24, e_X9_marry_25, e_X9_marry_28, e_X9_marry_29, e_X9_marry_32, e_X9_marry_34, e_X9_marry_35, e_X9_marry_36, e_X9_marry_37, e_X9_marry_40, e_X9_marry_41, e_X9_marry_44, e_X9_marry_46, e_X9_marry_47, e_X9_marry_48, e_X9_marry_49, e_X9_marry_52, e_X9_marry_53, e_X9_marry_56, e_X9_marry_57, e_X9_marry_60, e_X9_marry_61, e_X9_marry_64, e_X9_marry_67, s_isPerson, good6 hp, hm, ne10, true_and, and_true, rf_s, not_true_eq_false, not_false_eq_true, true_implies, false_implies, kl_i, kl_n, kl_l, kl_r, Option.toList, List.cons_append, List.nil_append, if_true, if_false, u2s, lt00, lt01, lt02, lt03, le10, le20, le30, ne10, ne20, ne30, eq00]
theorem s_marry_taken (hm : MdS S N P m) (hg : I (m + 1) = g) {p q : Nat} (hp : p < 6) (hq6 : q < 6) (hne : p ≠ q) (ht : 0 ≤ g (82 + p) ∨ 0 ≤ g (82 + q)) : CWp S N (d + 2) MX9_marry [.ref m, .int (nI p), .int (nI q)] I J P Q ↔ Q none (u2 I m 8 3) J P := by
  rw [c_X9_marry]
  unfold MdS at hm
  have n1 : (nI p = nI q) = False := eq_false (fun z => hne ((nI_eq (by omega) (by omega)).mp z))
  by_cases h1 : 0 ≤ g (82 + p)
  · have h1' := eq_true h1
    simp only [e_X9_marry_0, e_X9_marry_1, e_X9_marry_2, e_X9_marry_5, e_X9_marry_8, e_X9_marry_9, e_X9_marry_12, e_X9_marry_15, e_X9_marry_16, e_X9_marry_19, e_X9_marry_20, e_X9_marry_21, e_X9_marry_24, e_X9_marry_25, e_X9_marry_28, e_X9_marry_29, e_X9_marry_32, e_X9_marry_34, e_X9_marry_35, e_X9_marry_36, e_X9_marry_37, e_X9_marry_40, e_X9_marry_41, e_X9_marry_44, e_X9_marry_46, e_X9_marry_47, e_X9_marry_48, e_X9_marry_49, e_X9_marry_52, e_X9_marry_53, e_X9_marry_56, e_X9_marry_57, e_X9_marry_60, e_X9_marry_61, e_X9_marry_64, e_X9_marry_67, s_isPerson, good6 hp, good6 hq6, hm, ne10, n1, q82, nI_clamp (show 82 + p < 2 ^ 31 by omega), vpn (show 82 + p < 89 by omega) (by decide), hg, h1', true_and, and_true, rf_s, not_true_eq_false, not_false_eq_true, true_implies, false_implies, kl_i, kl_n, kl_l, kl_r, Option.toList, List.cons_append, List.nil_append, if_true, if_false, u2s, lt00, lt01, lt02, lt03, le10, le20, le30, ne10, ne20, ne30, eq00]
  · have h2 : 0 ≤ g (82 + q) := ht.resolve_left h1
    have h1' := eq_false h1
    have h2' : (g (82 + q) < 0) = False := eq_false (Int32.not_lt.mpr h2)
    simp only [e_X9_marry_0, e_X9_marry_1, e_X9_marry_2, e_X9_marry_5, e_X9_marry_8, e_X9_marry_9, e_X9_marry_12, e_X9_marry_15, e_X9_marry_16, e_X9_marry_19, e_X9_marry_20, e_X9_marry_21, e_X9_marry_24, e_X9_marry_25, e_X9_marry_28, e_X9_marry_29, e_X9_marry_32, e_X9_marry_34, e_X9_marry_35, e_X9_marry_36, e_X9_marry_37, e_X9_marry_40, e_X9_marry_41, e_X9_marry_44, e_X9_marry_46, e_X9_marry_47, e_X9_marry_48, e_X9_marry_49, e_X9_marry_52, e_X9_marry_53, e_X9_marry_56, e_X9_marry_57, e_X9_marry_60, e_X9_marry_61, e_X9_marry_64, e_X9_marry_67, s_isPerson, good6 hp, good6 hq6, hm, ne10, n1, q82, nI_clamp (show 82 + p < 2 ^ 31 by omega), vpn (show 82 + p < 89 by omega) (by decide), nI_clamp (show 82 + q < 2 ^ 31 by omega), vpn (show 82 + q < 89 by omega) (by decide), hg, h1', h2', true_and, and_true, rf_s, not_true_eq_false, not_false_eq_true, true_implies, false_implies, kl_i, kl_n, kl_l, kl_r, Option.toList, List.cons_append, List.nil_append, if_true, if_false, u2s, lt00, lt01, lt02, lt03, le10, le20, le30, ne10, ne20, ne30, eq00]
theorem s_marry_ok (hm : MdS S N P m) (hg : I (m + 1) = g) (hh : J (m + 2) = h) {p q : Nat} (hp6 : p < 6) (hq6 : q < 6) (hne : p ≠ q) (h1 : g (82 + p) < 0) (h2 : g (82 + q) < 0) {pn : Nat} {G : Nat → Nat → Int32} {H : Nat → Nat → Int64} (hp : Pas m I J pn G H)
    (hq : ∀ I' J', (∀ x, I' (m + 1) x = if x = 82 + p then nI q else if x = 82 + q then nI p else g x) → (∀ a, a ≠ m → a ≠ m + 1 → a ≠ m + 5 → I' a = I a) → (∀ k, k ≠ 7 → k ≠ 8 → I' m k = I m k) → I' m 8 = 0 → (∀ a, a ≠ m + 2 → a ≠ m + 6 → J' a = J a) → J' (m + 2) = h → Pas m I' J' (psn pn) (psh pn G g) (psh pn H h) → Q none I' J' P) : CWp S N (d + 2) MX9_marry [.ref m, .int (nI p), .int (nI q)] I J P Q := by
  rw [c_X9_marry]
  have hm0 := hm
  unfold MdS at hm
  have e0 : (u2 I m 8 0) (m + 1) = g := by rw [u2_off _ _ _ (by omega)]; exact hg
  have n1 : (nI p = nI q) = False := eq_false (fun z => hne ((nI_eq (by omega) (by omega)).mp z))
  have h1' : (0 ≤ g (82 + p)) = False := eq_false (Int32.not_le.mpr h1)
  have h2' := eq_true h2
  simp only [e_X9_marry_0, e_X9_marry_1, e_X9_marry_2, e_X9_marry_5, e_X9_marry_8, e_X9_marry_9, e_X9_marry_12, e_X9_marry_15, e_X9_marry_16, e_X9_marry_19, e_X9_marry_20, e_X9_marry_21, e_X9_marry_24, e_X9_marry_25, e_X9_marry_28, e_X9_marry_29, e_X9_marry_32, e_X9_marry_34, e_X9_marry_35, e_X9_marry_36, e_X9_marry_37, e_X9_marry_40, e_X9_marry_41, e_X9_marry_44, e_X9_marry_46, e_X9_marry_47, e_X9_marry_48, e_X9_marry_49, e_X9_marry_52, e_X9_marry_53, e_X9_marry_56, e_X9_marry_57, e_X9_marry_60, e_X9_marry_61, e_X9_marry_64, e_X9_marry_67, e_X9_marry_68, e_X9_marry_69, s_isPerson, good6 hp6, good6 hq6, hm, ne10, n1, q82, nI_clamp (show 82 + p < 2 ^ 31 by omega), vpn (show 82 + p < 89 by omega) (by decide), nI_clamp (show 82 + q < 2 ^ 31 by omega), vpn (show 82 + q < 89 by omega) (by decide), hg, h1', h2', le00, true_and, and_true, rf_s, not_true_eq_false, not_false_eq_true, true_implies, false_implies, kl_i, kl_n, kl_l, kl_r, Option.toList, List.cons_append, List.nil_append, if_true, if_false, u2s, lt00, lt01, lt02, lt03, le10, le20, le30, ne10, ne20, ne30, eq00]
  refine s_changes hm0 (hp.off8 0) (fun I1 J1 a1 a2 a3 a4 => ?_)
  rw [e0, hh] at a4
  have g1 : I1 (m + 1) = g := by rw [a1 _ (by omega) (by omega)]; exact e0
  simp only [e_X9_marry_72, e_X9_marry_73, e_X9_marry_76, e_X9_marry_78, e_X9_marry_79, e_X9_marry_80, e_X9_marry_81, e_X9_marry_82, e_X9_marry_83, e_X9_marry_86, e_X9_marry_88, e_X9_marry_89, e_X9_marry_90, e_X9_marry_91, e_X9_marry_92, hm, q82, nI_clamp (show 82 + p < 2 ^ 31 by omega), vpn (show 82 + p < 89 by omega) (by decide), nI_clamp (show 82 + q < 2 ^ 31 by omega), vpn (show 82 + q < 89 by omega) (by decide), true_and, and_true, rf_s, not_true_eq_false, not_false_eq_true, true_implies, false_implies, kl_i, kl_n, kl_l, kl_r, Option.toList, List.cons_append, List.nil_append, if_true, if_false, u2s, lt00, lt01, lt02, lt03, le10, le20, le30, ne10, ne20, ne30, eq00]
  refine hq _ _ (fun x => ?_) (fun a n1 n2 n3 => ?_) (fun k k1 k2 => ?_) ?_ (fun a n1 n2 => ?_) ?_ (a4.on ?_ ?_ rfl)
  · simp only [u2, g1, true_and]
    by_cases x0 : x = 82 + p
    · rw [if_neg (by omega), if_pos x0, if_pos x0]
    · by_cases x1 : x = 82 + q
      · rw [if_pos x1, if_neg x0, if_pos x1]
      · rw [if_neg x1, if_neg x0, if_neg x0, if_neg x1]
  · rw [u2_off _ _ _ n2, u2_off _ _ _ n2, a1 a n1 n3, u2_off _ _ _ n1]
  · rw [u2_off _ _ _ (by omega), u2_off _ _ _ (by omega), a2 k k1, u2k _ _ _ k2]
  · rw [u2_off _ _ _ (by omega), u2_off _ _ _ (by omega), a2 8 (by decide), u2s]
  · rw [a3 a n2]
  · rw [a3 _ (by omega)]; exact hh
  · rw [u2_off _ _ _ (by omega), u2_off _ _ _ (by omega)]
  · rw [u2_off _ _ _ (by omega), u2_off _ _ _ (by omega)]
theorem s_part_bad (hm : MdS S N P m) {v : Int32} (hv : v < 0 ∨ nI 6 ≤ v) : CWp S N (d + 3) MX9_part [.ref m, .int v] I J P Q ↔ Q (some (.int 0)) (u2 I m 8 1) J P := by
  rw [c_X9_part]
  have hm0 := hm
  unfold MdS at hm
  simp only [e_X9_part_0, e_X9_part_1, e_X9_part_2, e_X9_part_3, e_X9_part_6, e_X9_part_9, e_X9_part_10, e_X9_part_13, e_X9_part_16, e_X9_part_17, s_coupled_bad hm0 hv, hm, true_and, and_true, rf_s, not_true_eq_false, not_false_eq_true, true_implies, false_implies, kl_i, kl_n, kl_l, kl_r, Option.toList, List.cons_append, List.nil_append, if_true, if_false, u2s, lt00, lt01, lt02, lt03, le10, le20, le30, ne10, ne20, ne30, eq00]
theorem s_part_no (hm : MdS S N P m) (hg : I (m + 1) = g) {p : Nat} (hp : p < 6) (hn : g (82 + p) < 0) : CWp S N (d + 3) MX9_part [.ref m, .int (nI p)] I J P Q ↔ Q (some (.int 0)) (u2 I m 8 2) J P := by
  rw [c_X9_part]
  have hm0 := hm
  unfold MdS at hm
  simp only [e_X9_part_0, e_X9_part_1, e_X9_part_2, e_X9_part_3, e_X9_part_6, e_X9_part_9, e_X9_part_10, e_X9_part_13, e_X9_part_16, e_X9_part_17, s_coupled_no hm0 hg hp hn, hm, true_and, and_true, rf_s, not_true_eq_false, not_false_eq_true, true_implies, false_implies, kl_i, kl_n, kl_l, kl_r, Option.toList, List.cons_append, List.nil_append, if_true, if_false, u2s, lt00, lt01, lt02, lt03, le10, le20, le30, ne10, ne20, ne30, eq00]
theorem s_part_ok (hm : MdS S N P m) (hg : I (m + 1) = g) (hh : J (m + 2) = h) {p q : Nat} (hcp : Cp g p q) {pn : Nat} {G : Nat → Nat → Int32} {H : Nat → Nat → Int64} (hp : Pas m I J pn G H)
    (hq : ∀ I' J', (∀ x, I' (m + 1) x = if x = 82 + p then -1 else if x = 82 + q then -1 else g x) → (∀ a, a ≠ m → a ≠ m + 1 → a ≠ m + 5 → I' a = I a) → (∀ k, k ≠ 7 → k ≠ 8 → I' m k = I m k) → I' m 8 = 0 → (∀ a, a ≠ m + 2 → a ≠ m + 6 → J' a = J a) → J' (m + 2) = h → Pas m I' J' (psn pn) (psh pn G g) (psh pn H h) → Q (some (.int (nI q))) I' J' P) : CWp S N (d + 3) MX9_part [.ref m, .int (nI p)] I J P Q := by
  rw [c_X9_part]
  have hm0 := hm
  unfold MdS at hm
  obtain ⟨hp6, hq6, hne, hpq, -⟩ := id hcp
  have e0 : (u2 I m 8 0) (m + 1) = g := by rw [u2_off _ _ _ (by omega)]; exact hg
  simp only [e_X9_part_0, e_X9_part_1, e_X9_part_2, e_X9_part_3, e_X9_part_6, e_X9_part_9, e_X9_part_10, e_X9_part_13, e_X9_part_16, e_X9_part_17, e_X9_part_18, e_X9_part_19, s_coupled_ok hm0 hg hp6 hcp.ge, hm, le00, true_and, and_true, rf_s, not_true_eq_false, not_false_eq_true, true_implies, false_implies, kl_i, kl_n, kl_l, kl_r, Option.toList, List.cons_append, List.nil_append, if_true, if_false, u2s, lt00, lt01, lt02, lt03, le10, le20, le30, ne10, ne20, ne30, eq00]
  refine s_changes hm0 (hp.off8 0) (fun I1 J1 a1 a2 a3 a4 => ?_)
  rw [e0, hh] at a4
  have g1 : I1 (m + 1) = g := by rw [a1 _ (by omega) (by omega)]; exact e0
  simp only [e_X9_part_22, e_X9_part_23, e_X9_part_26, e_X9_part_28, e_X9_part_29, e_X9_part_30, e_X9_part_31, e_X9_part_32, e_X9_part_33, e_X9_part_36, e_X9_part_38, e_X9_part_39, e_X9_part_40, e_X9_part_41, e_X9_part_42, e_X9_part_43, e_X9_part_46, e_X9_part_48, e_X9_part_49, e_X9_part_50, e_X9_part_51, e_X9_part_52, e_X9_part_53, hm, q82, g1, hpq, nI_clamp (show 82 + p < 2 ^ 31 by omega), vpn (show 82 + p < 89 by omega) (by decide), nI_clamp (show 82 + q < 2 ^ 31 by omega), vpn (show 82 + q < 89 by omega) (by decide), true_and, and_true, rf_s, not_true_eq_false, not_false_eq_true, true_implies, false_implies, kl_i, kl_n, kl_l, kl_r, Option.toList, List.cons_append, List.nil_append, if_true, if_false, u2s, lt00, lt01, lt02, lt03, le10, le20, le30, ne10, ne20, ne30, eq00]
  refine hq _ _ (fun x => ?_) (fun a n1 n2 n3 => ?_) (fun k k1 k2 => ?_) ?_ (fun a n1 n2 => ?_) ?_ (a4.on ?_ ?_ rfl)
  · simp only [u2, g1, true_and]
    by_cases x0 : x = 82 + p
    · rw [if_neg (by omega), if_pos x0, if_pos x0]
    · by_cases x1 : x = 82 + q
      · rw [if_pos x1, if_neg x0, if_pos x1]
      · rw [if_neg x1, if_neg x0, if_neg x0, if_neg x1]
  · rw [u2_off _ _ _ n2, u2_off _ _ _ n2, a1 a n1 n3, u2_off _ _ _ n1]
  · rw [u2_off _ _ _ (by omega), u2_off _ _ _ (by omega), a2 k k1, u2k _ _ _ k2]
  · rw [u2_off _ _ _ (by omega), u2_off _ _ _ (by omega), a2 8 (by decide), u2s]
  · rw [a3 a n2]
  · rw [a3 _ (by omega)]; exact hh
  · rw [u2_off _ _ _ (by omega), u2_off _ _ _ (by omega)]
  · rw [u2_off _ _ _ (by omega), u2_off _ _ _ (by omega)]
theorem s_partner_bad (hm : MdS S N P m) {v : Int32} (hv : v < 0 ∨ nI 6 ≤ v) : CWp S N (d + 3) MX9_partner [.ref m, .int v] I J P Q ↔ Q (some (.int 0)) (u2 I m 8 1) J P := by
  rw [c_X9_partner]
  have hm0 := hm
  unfold MdS at hm
  simp only [e_X9_partner_0, e_X9_partner_1, e_X9_partner_2, e_X9_partner_3, e_X9_partner_6, e_X9_partner_9, e_X9_partner_10, e_X9_partner_13, e_X9_partner_16, e_X9_partner_17, e_X9_partner_20, e_X9_partner_21, e_X9_partner_24, e_X9_partner_26, e_X9_partner_27, e_X9_partner_28, e_X9_partner_29, s_coupled_bad hm0 hv, hm, true_and, and_true, rf_s, not_true_eq_false, not_false_eq_true, true_implies, false_implies, kl_i, kl_n, kl_l, kl_r, Option.toList, List.cons_append, List.nil_append, if_true, if_false, u2s, lt00, lt01, lt02, lt03, le10, le20, le30, ne10, ne20, ne30, eq00]
theorem s_partner_no (hm : MdS S N P m) (hg : I (m + 1) = g) {p : Nat} (hp : p < 6) (hn : g (82 + p) < 0) : CWp S N (d + 3) MX9_partner [.ref m, .int (nI p)] I J P Q ↔ Q (some (.int 0)) (u2 I m 8 2) J P := by
  rw [c_X9_partner]
  have hm0 := hm
  unfold MdS at hm
  simp only [e_X9_partner_0, e_X9_partner_1, e_X9_partner_2, e_X9_partner_3, e_X9_partner_6, e_X9_partner_9, e_X9_partner_10, e_X9_partner_13, e_X9_partner_16, e_X9_partner_17, e_X9_partner_20, e_X9_partner_21, e_X9_partner_24, e_X9_partner_26, e_X9_partner_27, e_X9_partner_28, e_X9_partner_29, s_coupled_no hm0 hg hp hn, hm, true_and, and_true, rf_s, not_true_eq_false, not_false_eq_true, true_implies, false_implies, kl_i, kl_n, kl_l, kl_r, Option.toList, List.cons_append, List.nil_append, if_true, if_false, u2s, lt00, lt01, lt02, lt03, le10, le20, le30, ne10, ne20, ne30, eq00]
theorem s_partner_ok (hm : MdS S N P m) (hg : I (m + 1) = g) {p : Nat} (hp : p < 6) (hn : 0 ≤ g (82 + p)) : CWp S N (d + 3) MX9_partner [.ref m, .int (nI p)] I J P Q ↔ Q (some (.int (g (82 + p)))) (u2 I m 8 0) J P := by
  rw [c_X9_partner]
  have hm0 := hm
  unfold MdS at hm
  have e0 : (u2 I m 8 0) (m + 1) = g := by rw [u2_off _ _ _ (by omega)]; exact hg
  simp only [e_X9_partner_0, e_X9_partner_1, e_X9_partner_2, e_X9_partner_3, e_X9_partner_6, e_X9_partner_9, e_X9_partner_10, e_X9_partner_13, e_X9_partner_16, e_X9_partner_17, e_X9_partner_20, e_X9_partner_21, e_X9_partner_24, e_X9_partner_26, e_X9_partner_27, e_X9_partner_28, e_X9_partner_29, s_coupled_ok hm0 hg hp hn, hm, le00, e0, q82, nI_clamp (show 82 + p < 2 ^ 31 by omega), vpn (show 82 + p < 89 by omega) (by decide), true_and, and_true, rf_s, not_true_eq_false, not_false_eq_true, true_implies, false_implies, kl_i, kl_n, kl_l, kl_r, Option.toList, List.cons_append, List.nil_append, if_true, if_false, u2s, lt00, lt01, lt02, lt03, le10, le20, le30, ne10, ne20, ne30, eq00]
theorem s_append_bad (hm : MdS S N P m) {c : Int32} (hc : ¬ (33 ≤ c ∧ c ≤ 126)) : CWp S N (d + 1) MX9_appendCharacter [.ref m, .int c] I J P Q ↔ Q (some (.int 0)) (u2 I m 8 1) J P := by
  rw [c_X9_appendCharacter]
  unfold MdS at hm
  have hc' := eq_false hc
  simp only [e_X9_appendCharacter_0, e_X9_appendCharacter_1, e_X9_appendCharacter_2, e_X9_appendCharacter_4, e_X9_appendCharacter_6, e_X9_appendCharacter_9, e_X9_appendCharacter_12, e_X9_appendCharacter_13, e_X9_appendCharacter_16, e_X9_appendCharacter_18, e_X9_appendCharacter_21, e_X9_appendCharacter_22, e_X9_appendCharacter_25, e_X9_appendCharacter_26, e_X9_appendCharacter_29, e_X9_appendCharacter_30, e_X9_appendCharacter_33, e_X9_appendCharacter_34, e_X9_appendCharacter_37, e_X9_appendCharacter_40, e_X9_appendCharacter_41, s_in, hc', hm, true_and, and_true, rf_s, not_true_eq_false, not_false_eq_true, true_implies, false_implies, kl_i, kl_n, kl_l, kl_r, Option.toList, List.cons_append, List.nil_append, if_true, if_false, u2s, lt00, lt01, lt02, lt03, le10, le20, le30, ne10, ne20, ne30, eq00]
theorem s_append_full (hm : MdS S N P m) {c : Int32} (hc : 33 ≤ c ∧ c ≤ 126) (h10 : I m 10 = 80) : CWp S N (d + 1) MX9_appendCharacter [.ref m, .int c] I J P Q ↔ Q (some (.int 0)) (u2 I m 8 2) J P := by
  rw [c_X9_appendCharacter]
  unfold MdS at hm
  have hc' := eq_true hc
  simp only [e_X9_appendCharacter_0, e_X9_appendCharacter_1, e_X9_appendCharacter_2, e_X9_appendCharacter_4, e_X9_appendCharacter_6, e_X9_appendCharacter_9, e_X9_appendCharacter_12, e_X9_appendCharacter_13, e_X9_appendCharacter_16, e_X9_appendCharacter_18, e_X9_appendCharacter_21, e_X9_appendCharacter_22, e_X9_appendCharacter_25, e_X9_appendCharacter_26, e_X9_appendCharacter_29, e_X9_appendCharacter_30, e_X9_appendCharacter_33, e_X9_appendCharacter_34, e_X9_appendCharacter_37, e_X9_appendCharacter_40, e_X9_appendCharacter_41, s_in, hc', hm, h10, true_and, and_true, rf_s, not_true_eq_false, not_false_eq_true, true_implies, false_implies, kl_i, kl_n, kl_l, kl_r, Option.toList, List.cons_append, List.nil_append, if_true, if_false, u2s, lt00, lt01, lt02, lt03, le10, le20, le30, ne10, ne20, ne30, eq00]
theorem s_append_ok (hm : MdS S N P m) {c : Int32} (hc : 33 ≤ c ∧ c ≤ 126) {n : Nat} (hn : n < 80) (h10 : I m 10 = nI n) : CWp S N (d + 1) MX9_appendCharacter [.ref m, .int c] I J P Q ↔ Q (some (.int (nI (n + 1)))) (u2 (u2 (u2 I m 8 0) (m + 7) n c) m 10 (nI (n + 1))) J P := by
  rw [c_X9_appendCharacter]
  unfold MdS at hm
  have hc' := eq_true hc
  have n80 : (nI n = 80) = False := eq_false (fun z => by have := (nI_eq (a := n) (b := 80) (by omega) (by decide)).mp z; omega)
  have e1 : ∀ v : Int32, (u2 I m 8 v) m 10 = nI n := fun v => by rw [u2k _ _ _ (by decide)]; exact h10
  have e2 : ∀ (v : Int32) (k : Nat) (w : Int32), (u2 (u2 I m 8 v) (m + 7) k w) m 10 = nI n := fun v k w => by rw [u2_off _ _ _ (by omega)]; exact e1 v
  simp only [e_X9_appendCharacter_0, e_X9_appendCharacter_1, e_X9_appendCharacter_2, e_X9_appendCharacter_4, e_X9_appendCharacter_6, e_X9_appendCharacter_9, e_X9_appendCharacter_12, e_X9_appendCharacter_13, e_X9_appendCharacter_16, e_X9_appendCharacter_18, e_X9_appendCharacter_21, e_X9_appendCharacter_22, e_X9_appendCharacter_25, e_X9_appendCharacter_26, e_X9_appendCharacter_29, e_X9_appendCharacter_30, e_X9_appendCharacter_33, e_X9_appendCharacter_34, e_X9_appendCharacter_37, e_X9_appendCharacter_40, e_X9_appendCharacter_41, e_X9_appendCharacter_42, e_X9_appendCharacter_43, e_X9_appendCharacter_46, e_X9_appendCharacter_47, e_X9_appendCharacter_50, e_X9_appendCharacter_51, e_X9_appendCharacter_52, e_X9_appendCharacter_53, e_X9_appendCharacter_54, e_X9_appendCharacter_57, e_X9_appendCharacter_58, e_X9_appendCharacter_59, e_X9_appendCharacter_62, e_X9_appendCharacter_63, e_X9_appendCharacter_66, s_in, hc', hm, h10, n80, le00, e1, e2, nI_1, nI_clamp (show n < 2 ^ 31 by omega), vpn (show n < 80 by omega) (by decide), true_and, and_true, rf_s, not_true_eq_false, not_false_eq_true, true_implies, false_implies, kl_i, kl_n, kl_l, kl_r, Option.toList, List.cons_append, List.nil_append, if_true, if_false, u2s, lt00, lt01, lt02, lt03, le10, le20, le30, ne10, ne20, ne30, eq00]
end MTE

/-! the workbench's questions, where they answer -/
section WT3
variable {S N : Nat → Nat} {d : Nat} {I : IM} {J : JM} {P : PM} {Q : Option Value → IM → JM → PM → Prop} {x : Nat} {πd π πs : Nat → Nat} {πh : Nat → Nat → Nat} {g : Nat → Int32} {h : Nat → Int64} {nb nc nk : Nat}
theorem w_fault (hw : WbS S N P x πd π πs πh) : CWp S N d MX8_faultPosition [.ref x] I J P Q ↔ Q (some (.int (I (x + 1) 2))) I J P := by
  rw [c_X8_faultPosition]
  have hw' := hw.f
  have hs := hw.rt.1
  simp only [e_X8_faultPosition_0, e_X8_faultPosition_1, e_X8_faultPosition_4, e_X8_faultPosition_7, hw', hs, true_and, and_true, rf_s, not_true_eq_false, not_false_eq_true, true_implies, false_implies, kl_i, kl_n, kl_l, kl_r, Option.toList, List.cons_append, List.nil_append, if_true, if_false, u2s, lt00, lt01, lt02, lt03, le10, le20, le30, ne10, ne20, ne30, eq00]
theorem w_bracketCount (hw : WbS S N P x πd π πs πh) (hr : Led I J (x + 29) π g h nb nc nk) : CWp S N d MX8_bracketCount [.ref x] I J P Q ↔ Q (some (.int (nI nb))) I J P := by
  rw [c_X8_bracketCount]
  have hw' := hw.f
  have hl' := hw.le.f
  have hru := hw.le.r.f
  have h1 := hr.1.1.1
  simp only [e_X8_bracketCount_0, e_X8_bracketCount_1, e_X8_bracketCount_4, e_X8_bracketCount_7, e_X8_bracketCount_10, hw', hl', hru, h1, true_and, and_true, rf_s, not_true_eq_false, not_false_eq_true, true_implies, false_implies, kl_i, kl_n, kl_l, kl_r, Option.toList, List.cons_append, List.nil_append, if_true, if_false, u2s, lt00, lt01, lt02, lt03, le10, le20, le30, ne10, ne20, ne30, eq00]
theorem w_chargeCount (hw : WbS S N P x πd π πs πh) (hr : Led I J (x + 29) π g h nb nc nk) : CWp S N d MX8_chargeCount [.ref x] I J P Q ↔ Q (some (.int (nI nc))) I J P := by
  rw [c_X8_chargeCount]
  have hw' := hw.f
  have hl' := hw.le.f
  have hru := hw.le.r.f
  have h1 := hr.1.1.2.1
  simp only [e_X8_chargeCount_0, e_X8_chargeCount_1, e_X8_chargeCount_4, e_X8_chargeCount_7, e_X8_chargeCount_10, hw', hl', hru, h1, true_and, and_true, rf_s, not_true_eq_false, not_false_eq_true, true_implies, false_implies, kl_i, kl_n, kl_l, kl_r, Option.toList, List.cons_append, List.nil_append, if_true, if_false, u2s, lt00, lt01, lt02, lt03, le10, le20, le30, ne10, ne20, ne30, eq00]
theorem w_creditCount (hw : WbS S N P x πd π πs πh) (hr : Led I J (x + 29) π g h nb nc nk) : CWp S N d MX8_creditCount [.ref x] I J P Q ↔ Q (some (.int (nI nk))) I J P := by
  rw [c_X8_creditCount]
  have hw' := hw.f
  have hl' := hw.le.f
  have hru := hw.le.r.f
  have h1 := hr.1.1.2.2
  simp only [e_X8_creditCount_0, e_X8_creditCount_1, e_X8_creditCount_4, e_X8_creditCount_7, e_X8_creditCount_10, hw', hl', hru, h1, true_and, and_true, rf_s, not_true_eq_false, not_false_eq_true, true_implies, false_implies, kl_i, kl_n, kl_l, kl_r, Option.toList, List.cons_append, List.nil_append, if_true, if_false, u2s, lt00, lt01, lt02, lt03, le10, le20, le30, ne10, ne20, ne30, eq00]
theorem w_years (hw : WbS S N P x πd π πs πh) (hr : Led I J (x + 29) π g h nb nc nk) : CWp S N d MX8_years [.ref x] I J P Q ↔ Q (some (.int (g 88))) I J P := by
  rw [c_X8_years]
  have hw' := hw.f
  have hl' := hw.le.f
  have h1 := hr.2.1
  simp only [e_X8_years_0, e_X8_years_1, e_X8_years_4, e_X8_years_7, hw', hl', h1, true_and, and_true, rf_s, not_true_eq_false, not_false_eq_true, true_implies, false_implies, kl_i, kl_n, kl_l, kl_r, Option.toList, List.cons_append, List.nil_append, if_true, if_false, u2s, lt00, lt01, lt02, lt03, le10, le20, le30, ne10, ne20, ne30, eq00]
theorem w_bracket (hw : WbS S N P x πd π πs πh) (hg : Gd g nb nc nk) (hr : Led I J (x + 29) π g h nb nc nk) {k j : Nat} (hk : k < nb) (hj : j < 2) : CWp S N (d + 1) MX8_bracket [.ref x, .int (nI k), .int (nI j)] I J P Q ↔ Q (some (.int (g (1 + 2 * k + j)))) I J P := by
  rw [c_X8_bracket]
  have hw' := hw.f
  have hl' := hw.le.f
  have hru := hw.le.r
  unfold RuS at hru
  have h1 := hr.1.1.1
  have hnb := hg.1.1
  obtain ⟨b1, b2⟩ := hr.1.2.1 k hk
  rcases (show j = 0 ∨ j = 1 by omega) with rfl | rfl
  · have z : nI 0 = (0 : Int32) := rfl
    rw [z]
    simp only [e_X8_bracket_0, e_X8_bracket_1, e_X8_bracket_2, e_X8_bracket_3, e_X8_bracket_6, e_X8_bracket_9, e_X8_bracket_12, e_X8_bracket_15, e_X8_bracket_16, e_X8_bracket_17, e_X8_bracket_18, e_X8_bracket_19, e_X8_bracket_22, e_X8_bracket_23, e_X8_bracket_26, e_X8_bracket_27, e_X8_bracket_30, e_X8_bracket_33, e_X8_bracket_36, e_X8_bracket_37, e_X8_bracket_38, e_X8_bracket_41, e_X8_bracket_42, e_X8_bracket_45, e_X8_bracket_48, e_X8_bracket_51, e_X8_bracket_52, e_X8_bracket_53, hw', hl', hru, h1, k_rI hk (show nb < 2 ^ 31 by omega), k_rR (show (0 : Int32) ≤ 0 by decide) (show (0 : Int32) ≤ 1 by decide), nI_clamp (show k < 2 ^ 31 by omega), vpn (show k < 6 by omega) (by decide), b1, true_and, and_true, rf_s, not_true_eq_false, not_false_eq_true, true_implies, false_implies, kl_i, kl_n, kl_l, kl_r, Option.toList, List.cons_append, List.nil_append, if_true, if_false, u2s, lt00, lt01, lt02, lt03, le10, le20, le30, ne10, ne20, ne30, eq00]
    rfl
  · have z : nI 1 = (1 : Int32) := rfl
    rw [z, show 1 + 2 * k + 1 = 2 + 2 * k by omega]
    simp only [e_X8_bracket_0, e_X8_bracket_1, e_X8_bracket_2, e_X8_bracket_3, e_X8_bracket_6, e_X8_bracket_9, e_X8_bracket_12, e_X8_bracket_15, e_X8_bracket_16, e_X8_bracket_17, e_X8_bracket_18, e_X8_bracket_19, e_X8_bracket_22, e_X8_bracket_23, e_X8_bracket_26, e_X8_bracket_27, e_X8_bracket_30, e_X8_bracket_33, e_X8_bracket_36, e_X8_bracket_37, e_X8_bracket_38, e_X8_bracket_41, e_X8_bracket_42, e_X8_bracket_45, e_X8_bracket_48, e_X8_bracket_51, e_X8_bracket_52, e_X8_bracket_53, hw', hl', hru, h1, k_rI hk (show nb < 2 ^ 31 by omega), k_rR (show (0 : Int32) ≤ 1 by decide) (show (1 : Int32) ≤ 1 by decide), nI_clamp (show k < 2 ^ 31 by omega), vpn (show k < 6 by omega) (by decide), b2, true_and, and_true, rf_s, not_true_eq_false, not_false_eq_true, true_implies, false_implies, kl_i, kl_n, kl_l, kl_r, Option.toList, List.cons_append, List.nil_append, if_true, if_false, u2s, lt00, lt01, lt02, lt03, le10, le20, le30, ne10, ne20, ne30, eq00]
theorem w_allowance (hw : WbS S N P x πd π πs πh) (hr : Led I J (x + 29) π g h nb nc nk) {j : Nat} (hj : j < 5) : CWp S N (d + 1) MX8_allowance [.ref x, .int (nI j)] I J P Q ↔ Q (some (.int (g (13 + j)))) I J P := by
  rw [c_X8_allowance]
  have hw' := hw.f
  have hl' := hw.le.f
  have hru := hw.le.r
  unfold RuS at hru
  have b1 := hr.1.2.2.1 j hj
  have g1 : ∀ {Q' : Option Value → IM → JM → PM → Prop}, CWp S N d MX8_requireRange [.ref x, .int (nI j), .int 0, .int 4] I J P Q' ↔ Q' none I J P := fun {Q'} => k_rR (nI_pos' (show j < 2 ^ 31 by omega)) (nI_le (a := j) (b := 4) (by omega) (by decide))
  simp only [e_X8_allowance_0, e_X8_allowance_1, e_X8_allowance_2, e_X8_allowance_3, e_X8_allowance_4, e_X8_allowance_7, e_X8_allowance_8, e_X8_allowance_11, e_X8_allowance_14, e_X8_allowance_17, e_X8_allowance_18, e_X8_allowance_19, hw', hl', hru, g1, nI_clamp (show j < 2 ^ 31 by omega), vpn hj (by decide), b1, true_and, and_true, rf_s, not_true_eq_false, not_false_eq_true, true_implies, false_implies, kl_i, kl_n, kl_l, kl_r, Option.toList, List.cons_append, List.nil_append, if_true, if_false, u2s, lt00, lt01, lt02, lt03, le10, le20, le30, ne10, ne20, ne30, eq00]
theorem w_charge (hw : WbS S N P x πd π πs πh) (hg : Gd g nb nc nk) (hr : Led I J (x + 29) π g h nb nc nk) {k j : Nat} (hk : k < nc) (hj : j < 2) : CWp S N (d + 1) MX8_charge [.ref x, .int (nI k), .int (nI j)] I J P Q ↔ Q (some (.int (g (19 + 2 * k + j)))) I J P := by
  rw [c_X8_charge]
  have hw' := hw.f
  have hl' := hw.le.f
  have hru := hw.le.r
  unfold RuS at hru
  have h1 := hr.1.1.2.1
  have hnc := hg.1.2.1
  obtain ⟨b1, b2⟩ := hr.1.2.2.2.1 k hk
  rcases (show j = 0 ∨ j = 1 by omega) with rfl | rfl
  · have z : nI 0 = (0 : Int32) := rfl
    rw [z]
    simp only [e_X8_charge_0, e_X8_charge_1, e_X8_charge_2, e_X8_charge_3, e_X8_charge_6, e_X8_charge_9, e_X8_charge_12, e_X8_charge_15, e_X8_charge_16, e_X8_charge_17, e_X8_charge_18, e_X8_charge_19, e_X8_charge_22, e_X8_charge_23, e_X8_charge_26, e_X8_charge_27, e_X8_charge_30, e_X8_charge_33, e_X8_charge_36, e_X8_charge_37, e_X8_charge_38, e_X8_charge_41, e_X8_charge_42, e_X8_charge_45, e_X8_charge_48, e_X8_charge_51, e_X8_charge_52, e_X8_charge_53, hw', hl', hru, h1, k_rI hk (show nc < 2 ^ 31 by omega), k_rR (show (0 : Int32) ≤ 0 by decide) (show (0 : Int32) ≤ 1 by decide), nI_clamp (show k < 2 ^ 31 by omega), vpn (show k < 4 by omega) (by decide), b1, true_and, and_true, rf_s, not_true_eq_false, not_false_eq_true, true_implies, false_implies, kl_i, kl_n, kl_l, kl_r, Option.toList, List.cons_append, List.nil_append, if_true, if_false, u2s, lt00, lt01, lt02, lt03, le10, le20, le30, ne10, ne20, ne30, eq00]
    rfl
  · have z : nI 1 = (1 : Int32) := rfl
    rw [z, show 19 + 2 * k + 1 = 20 + 2 * k by omega]
    simp only [e_X8_charge_0, e_X8_charge_1, e_X8_charge_2, e_X8_charge_3, e_X8_charge_6, e_X8_charge_9, e_X8_charge_12, e_X8_charge_15, e_X8_charge_16, e_X8_charge_17, e_X8_charge_18, e_X8_charge_19, e_X8_charge_22, e_X8_charge_23, e_X8_charge_26, e_X8_charge_27, e_X8_charge_30, e_X8_charge_33, e_X8_charge_36, e_X8_charge_37, e_X8_charge_38, e_X8_charge_41, e_X8_charge_42, e_X8_charge_45, e_X8_charge_48, e_X8_charge_51, e_X8_charge_52, e_X8_charge_53, hw', hl', hru, h1, k_rI hk (show nc < 2 ^ 31 by omega), k_rR (show (0 : Int32) ≤ 1 by decide) (show (1 : Int32) ≤ 1 by decide), nI_clamp (show k < 2 ^ 31 by omega), vpn (show k < 4 by omega) (by decide), b2, true_and, and_true, rf_s, not_true_eq_false, not_false_eq_true, true_implies, false_implies, kl_i, kl_n, kl_l, kl_r, Option.toList, List.cons_append, List.nil_append, if_true, if_false, u2s, lt00, lt01, lt02, lt03, le10, le20, le30, ne10, ne20, ne30, eq00]
theorem w_credit (hw : WbS S N P x πd π πs πh) (hg : Gd g nb nc nk) (hr : Led I J (x + 29) π g h nb nc nk) {k j : Nat} (hk : k < nk) (hj : j < 6) : CWp S N (d + 1) MX8_credit [.ref x, .int (nI k), .int (nI j)] I J P Q ↔ Q (some (.int (g (28 + 6 * k + j)))) I J P := by
  rw [c_X8_credit]
  have hw' := hw.f
  have hl' := hw.le.f
  have hru := hw.le.r
  have h1 := hr.1.1.2.2
  have hnk := hg.1.2.2.1
  have hk6 : k < 6 := by omega
  have c1 := cr_row hru hk6
  obtain ⟨-, p2⟩ := hru.2.2.2.2.1 k hk6
  have b1 := (hr.1.2.2.2.2 k hk).1 j hj
  rw [show x + 29 + 1 + 8 + 3 * π k = x + 29 + 1 + 7 + 3 * π k + 1 by omega] at b1
  unfold RuS at hru
  have g1 : ∀ {Q' : Option Value → IM → JM → PM → Prop}, CWp S N d MX8_requireRange [.ref x, .int (nI j), .int 0, .int 5] I J P Q' ↔ Q' none I J P := fun {Q'} => k_rR (nI_pos' (show j < 2 ^ 31 by omega)) (nI_le (a := j) (b := 5) (by omega) (by decide))
  simp only [e_X8_credit_0, e_X8_credit_1, e_X8_credit_2, e_X8_credit_3, e_X8_credit_6, e_X8_credit_9, e_X8_credit_12, e_X8_credit_15, e_X8_credit_16, e_X8_credit_17, e_X8_credit_18, e_X8_credit_19, e_X8_credit_22, e_X8_credit_23, e_X8_credit_26, e_X8_credit_29, e_X8_credit_32, e_X8_credit_33, e_X8_credit_34, e_X8_credit_37, e_X8_credit_38, e_X8_credit_39, hw', hl', hru, h1, k_rI hk (show nk < 2 ^ 31 by omega), g1, c1, p2, nI_clamp (show k < 2 ^ 31 by omega), vpn hk6 (by decide), nI_clamp (show j < 2 ^ 31 by omega), vpn hj (by decide), b1, true_or, or_true, true_and, and_true, rf_s, not_true_eq_false, not_false_eq_true, true_implies, false_implies, kl_i, kl_n, kl_l, kl_r, Option.toList, List.cons_append, List.nil_append, if_true, if_false, u2s, lt00, lt01, lt02, lt03, le10, le20, le30, ne10, ne20, ne30, eq00]
theorem w_personData (hw : WbS S N P x πd π πs πh) (hr : Led I J (x + 29) π g h nb nc nk) {p j : Nat} (hp : p < 6) (hj : j < 3) : CWp S N (d + 1) MX8_personData [.ref x, .int (nI p), .int (nI j)] I J P Q ↔ Q (some (.int (g (64 + 3 * p + j)))) I J P := by
  rw [c_X8_personData]
  have hw' := hw.f
  have hl' := hw.le.f
  obtain ⟨b1, b2, b3, -⟩ := hr.2.2 p hp
  have g1 : ∀ {Q' : Option Value → IM → JM → PM → Prop}, CWp S N d MX8_requireRange [.ref x, .int (nI j), .int 0, .int 2] I J P Q' ↔ Q' none I J P := fun {Q'} => k_rR (nI_pos' (show j < 2 ^ 31 by omega)) (nI_le (a := j) (b := 2) (by omega) (by decide))
  have e21 : ((2 : Int32) = 1) = False := by decide
  have e11 : ((1 : Int32) = 1) = True := by decide
  rcases (show j = 0 ∨ j = 1 ∨ j = 2 by omega) with rfl | rfl | rfl
  · have z : nI 0 = (0 : Int32) := rfl
    rw [z] at g1 ⊢
    simp only [e_X8_personData_0, e_X8_personData_1, e_X8_personData_2, e_X8_personData_4, e_X8_personData_7, e_X8_personData_8, e_X8_personData_9, e_X8_personData_10, e_X8_personData_11, e_X8_personData_14, e_X8_personData_15, e_X8_personData_18, e_X8_personData_19, e_X8_personData_22, e_X8_personData_25, e_X8_personData_26, e_X8_personData_27, e_X8_personData_28, e_X8_personData_29, e_X8_personData_30, e_X8_personData_33, e_X8_personData_34, e_X8_personData_37, e_X8_personData_40, e_X8_personData_41, e_X8_personData_42, e_X8_personData_45, e_X8_personData_46, e_X8_personData_49, e_X8_personData_52, e_X8_personData_53, e_X8_personData_54, hw', hl', k_rI6 hp, g1, nI_clamp (show p < 2 ^ 31 by omega), vpn hp (by decide), b1, true_and, and_true, rf_s, not_true_eq_false, not_false_eq_true, true_implies, false_implies, kl_i, kl_n, kl_l, kl_r, Option.toList, List.cons_append, List.nil_append, if_true, if_false, u2s, lt00, lt01, lt02, lt03, le10, le20, le30, ne10, ne20, ne30, eq00]
    rfl
  · have z : nI 1 = (1 : Int32) := rfl
    rw [z] at g1 ⊢
    rw [show 64 + 3 * p + 1 = 65 + 3 * p by omega]
    simp only [e_X8_personData_0, e_X8_personData_1, e_X8_personData_2, e_X8_personData_4, e_X8_personData_7, e_X8_personData_8, e_X8_personData_9, e_X8_personData_10, e_X8_personData_11, e_X8_personData_14, e_X8_personData_15, e_X8_personData_18, e_X8_personData_19, e_X8_personData_22, e_X8_personData_25, e_X8_personData_26, e_X8_personData_27, e_X8_personData_28, e_X8_personData_29, e_X8_personData_30, e_X8_personData_33, e_X8_personData_34, e_X8_personData_37, e_X8_personData_40, e_X8_personData_41, e_X8_personData_42, e_X8_personData_45, e_X8_personData_46, e_X8_personData_49, e_X8_personData_52, e_X8_personData_53, e_X8_personData_54, hw', hl', k_rI6 hp, g1, e11, nI_clamp (show p < 2 ^ 31 by omega), vpn hp (by decide), b2, true_and, and_true, rf_s, not_true_eq_false, not_false_eq_true, true_implies, false_implies, kl_i, kl_n, kl_l, kl_r, Option.toList, List.cons_append, List.nil_append, if_true, if_false, u2s, lt00, lt01, lt02, lt03, le10, le20, le30, ne10, ne20, ne30, eq00]
  · have z : nI 2 = (2 : Int32) := rfl
    rw [z] at g1 ⊢
    rw [show 64 + 3 * p + 2 = 66 + 3 * p by omega]
    simp only [e_X8_personData_0, e_X8_personData_1, e_X8_personData_2, e_X8_personData_4, e_X8_personData_7, e_X8_personData_8, e_X8_personData_9, e_X8_personData_10, e_X8_personData_11, e_X8_personData_14, e_X8_personData_15, e_X8_personData_18, e_X8_personData_19, e_X8_personData_22, e_X8_personData_25, e_X8_personData_26, e_X8_personData_27, e_X8_personData_28, e_X8_personData_29, e_X8_personData_30, e_X8_personData_33, e_X8_personData_34, e_X8_personData_37, e_X8_personData_40, e_X8_personData_41, e_X8_personData_42, e_X8_personData_45, e_X8_personData_46, e_X8_personData_49, e_X8_personData_52, e_X8_personData_53, e_X8_personData_54, hw', hl', k_rI6 hp, g1, e21, nI_clamp (show p < 2 ^ 31 by omega), vpn hp (by decide), b3, true_and, and_true, rf_s, not_true_eq_false, not_false_eq_true, true_implies, false_implies, kl_i, kl_n, kl_l, kl_r, Option.toList, List.cons_append, List.nil_append, if_true, if_false, u2s, lt00, lt01, lt02, lt03, le10, le20, le30, ne10, ne20, ne30, eq00]
theorem k_rP (hw : WbS S N P x πd π πs πh) (hr : Led I J (x + 29) π g h nb nc nk) {r q : Nat} (hcp : Cp g r q) : CWp S N (d + 1) MX8_requirePartner [.ref x, .int (nI r)] I J P Q ↔ Q (some (.int (nI q))) I J P := by
  rw [c_X8_requirePartner]
  have hw' := hw.f
  have hl' := hw.le.f
  have hp6 := hcp.1
  have hpt := led_partner hr hp6
  have hgq := hcp.2.2.2.1
  have hne : ¬ nI q = -1 := fun z => by
    have := hcp.ge
    rw [hgq, z] at this
    exact absurd this (by decide)
  simp only [e_X8_requirePartner_0, e_X8_requirePartner_1, e_X8_requirePartner_2, e_X8_requirePartner_4, e_X8_requirePartner_7, e_X8_requirePartner_8, e_X8_requirePartner_11, e_X8_requirePartner_14, e_X8_requirePartner_15, e_X8_requirePartner_16, e_X8_requirePartner_17, e_X8_requirePartner_18, e_X8_requirePartner_19, e_X8_requirePartner_33, e_X8_requirePartner_34, hw', hl', k_rI6 hp6, nI_clamp (show r < 2 ^ 31 by omega), vpn hp6 (by decide), hpt, hgq, hne, true_and, and_true, rf_s, not_true_eq_false, not_false_eq_true, true_implies, false_implies, kl_i, kl_n, kl_l, kl_r, Option.toList, List.cons_append, List.nil_append, if_true, if_false, u2s, lt00, lt01, lt02, lt03, le10, le20, le30, ne10, ne20, ne30, eq00]
theorem w_partner (hw : WbS S N P x πd π πs πh) (hr : Led I J (x + 29) π g h nb nc nk) {r q : Nat} (hcp : Cp g r q) : CWp S N (d + 2) MX8_partner [.ref x, .int (nI r)] I J P Q ↔ Q (some (.int (nI q))) I J P := by
  rw [c_X8_partner]
  have hw' := hw.f
  simp only [e_X8_partner_0, e_X8_partner_1, e_X8_partner_2, e_X8_partner_5, hw', k_rP hw hr hcp, true_and, and_true, rf_s, not_true_eq_false, not_false_eq_true, true_implies, false_implies, kl_i, kl_n, kl_l, kl_r, Option.toList, List.cons_append, List.nil_append, if_true, if_false, u2s, lt00, lt01, lt02, lt03, le10, le20, le30, ne10, ne20, ne30, eq00]
theorem w_tax (hw : WbS S N P x πd π πs πh) (hg : Gd g nb nc nk) (hr : Led I J (x + 29) π g h nb nc nk) {p : Nat} (hp : p < 6)
    (hq : ∀ I' J', Fr (x + 271) (x + 303) I I' J J' → Q (some (.long (TxA g h nb nc nk p (g (66 + 3 * p))))) I' J' P) : CWp S N (d + 4) MX8_tax [.ref x, .int (nI p)] I J P Q := by
  rw [c_X8_tax]
  have hw' := hw.f
  simp only [e_X8_tax_0, e_X8_tax_1, e_X8_tax_2, e_X8_tax_4, e_X8_tax_7, e_X8_tax_8, e_X8_tax_9, hw', k_rI6 hp, true_and, and_true, rf_s, not_true_eq_false, not_false_eq_true, true_implies, false_implies, kl_i, kl_n, kl_l, kl_r, Option.toList, List.cons_append, List.nil_append, if_true, if_false, u2s, lt00, lt01, lt02, lt03, le10, le20, le30, ne10, ne20, ne30, eq00]
  refine k_assess (d := d) hw hg hr hp (fun I1 J1 f1 f2 f3 f4 f5 => ?_)
  have hs := hw.as.f.1
  simp only [e_X8_tax_12, e_X8_tax_15, hs, f2, true_and, and_true, rf_s, not_true_eq_false, not_false_eq_true, true_implies, false_implies, kl_i, kl_n, kl_l, kl_r, Option.toList, List.cons_append, List.nil_append, if_true, if_false, u2s, lt00, lt01, lt02, lt03, le10, le20, le30, ne10, ne20, ne30, eq00]
  exact hq I1 J1 (f1.w (Nat.le_refl _) (by omega))
theorem w_taxPart (hw : WbS S N P x πd π πs πh) (hg : Gd g nb nc nk) (hr : Led I J (x + 29) π g h nb nc nk) {p j : Nat} (hp : p < 6) (hj : j < 6)
    (hq : ∀ I' J', Fr (x + 271) (x + 303) I I' J J' → Q (some (.long (TpF g nb nc (g (64 + 3 * p) + g (65 + 3 * p)) 1 j))) I' J' P) : CWp S N (d + 4) MX8_taxPart [.ref x, .int (nI p), .int (nI j)] I J P Q := by
  rw [c_X8_taxPart]
  have hw' := hw.f
  have g1 : ∀ {d : Nat} {Q' : Option Value → IM → JM → PM → Prop}, CWp S N d MX8_requireRange [.ref x, .int (nI j), .int 0, .int 5] I J P Q' ↔ Q' none I J P := fun {d Q'} => k_rR (nI_pos' (show j < 2 ^ 31 by omega)) (nI_le (a := j) (b := 5) (by omega) (by decide))
  simp only [e_X8_taxPart_0, e_X8_taxPart_1, e_X8_taxPart_2, e_X8_taxPart_4, e_X8_taxPart_7, e_X8_taxPart_8, e_X8_taxPart_9, e_X8_taxPart_10, e_X8_taxPart_11, e_X8_taxPart_14, e_X8_taxPart_15, e_X8_taxPart_16, hw', k_rI6 hp, g1, true_and, and_true, rf_s, not_true_eq_false, not_false_eq_true, true_implies, false_implies, kl_i, kl_n, kl_l, kl_r, Option.toList, List.cons_append, List.nil_append, if_true, if_false, u2s, lt00, lt01, lt02, lt03, le10, le20, le30, ne10, ne20, ne30, eq00]
  refine k_assess (d := d) hw hg hr hp (fun I1 J1 f1 f2 f3 f4 f5 => ?_)
  have hs := hw.as.f
  simp only [e_X8_taxPart_19, e_X8_taxPart_22, e_X8_taxPart_23, e_X8_taxPart_24, hs, nI_clamp (show j < 2 ^ 31 by omega), vpn hj (by decide), f3 j hj, true_and, and_true, rf_s, not_true_eq_false, not_false_eq_true, true_implies, false_implies, kl_i, kl_n, kl_l, kl_r, Option.toList, List.cons_append, List.nil_append, if_true, if_false, u2s, lt00, lt01, lt02, lt03, le10, le20, le30, ne10, ne20, ne30, eq00]
  exact hq I1 J1 (f1.w (Nat.le_refl _) (by omega))
theorem w_creditPart (hw : WbS S N P x πd π πs πh) (hg : Gd g nb nc nk) (hr : Led I J (x + 29) π g h nb nc nk) {p k j : Nat} (hp : p < 6) (hk : k < nk) (hj : j < 5)
    (hq : ∀ I' J', Fr (x + 271) (x + 303) I I' J J' → Q (some (.long (Tct g nb nc (Br1 h p) (g (64 + 3 * p)) (g (64 + 3 * p) + g (65 + 3 * p)) (g (66 + 3 * p)) 1 k j))) I' J' P) : CWp S N (d + 4) MX8_creditPart [.ref x, .int (nI p), .int (nI k), .int (nI j)] I J P Q := by
  rw [c_X8_creditPart]
  have hw' := hw.f
  have hl' := hw.le.f
  have hru := hw.le.r.f
  have h1 := hr.1.1.2.2
  have hnk := hg.1.2.2.1
  have g1 : ∀ {d : Nat} {Q' : Option Value → IM → JM → PM → Prop}, CWp S N d MX8_requireRange [.ref x, .int (nI j), .int 0, .int 4] I J P Q' ↔ Q' none I J P := fun {d Q'} => k_rR (nI_pos' (show j < 2 ^ 31 by omega)) (nI_le (a := j) (b := 4) (by omega) (by decide))
  simp only [e_X8_creditPart_0, e_X8_creditPart_1, e_X8_creditPart_2, e_X8_creditPart_4, e_X8_creditPart_7, e_X8_creditPart_8, e_X8_creditPart_9, e_X8_creditPart_10, e_X8_creditPart_13, e_X8_creditPart_16, e_X8_creditPart_19, e_X8_creditPart_22, e_X8_creditPart_23, e_X8_creditPart_24, e_X8_creditPart_25, e_X8_creditPart_26, e_X8_creditPart_29, e_X8_creditPart_30, e_X8_creditPart_31, hw', hl', hru, h1, k_rI6 hp, k_rI hk (show nk < 2 ^ 31 by omega), g1, true_and, and_true, rf_s, not_true_eq_false, not_false_eq_true, true_implies, false_implies, kl_i, kl_n, kl_l, kl_r, Option.toList, List.cons_append, List.nil_append, if_true, if_false, u2s, lt00, lt01, lt02, lt03, le10, le20, le30, ne10, ne20, ne30, eq00]
  refine k_assess (d := d) hw hg hr hp (fun I1 J1 f1 f2 f3 f4 f5 => ?_)
  have hs := hw.as.f
  obtain ⟨c1, c2, c3⟩ := hw.as.2.2.2.2 k (by omega)
  simp only [e_X8_creditPart_34, e_X8_creditPart_37, e_X8_creditPart_38, e_X8_creditPart_39, e_X8_creditPart_40, e_X8_creditPart_41, hs, c1, c2, c3, nI_clamp (show k < 2 ^ 31 by omega), vpn (show k < 6 by omega) (by decide), nI_clamp (show j < 2 ^ 31 by omega), vpn hj (by decide), f4 k j hk hj, true_or, or_true, true_and, and_true, rf_s, not_true_eq_false, not_false_eq_true, true_implies, false_implies, kl_i, kl_n, kl_l, kl_r, Option.toList, List.cons_append, List.nil_append, if_true, if_false, u2s, lt00, lt01, lt02, lt03, le10, le20, le30, ne10, ne20, ne30, eq00]
  exact hq I1 J1 (f1.w (Nat.le_refl _) (by omega))
theorem w_carried (hw : WbS S N P x πd π πs πh) (hg : Gd g nb nc nk) (hr : Led I J (x + 29) π g h nb nc nk) {p k : Nat} (hp : p < 6) (hk : k < nk) : CWp S N (d + 1) MX8_carried [.ref x, .int (nI p), .int (nI k)] I J P Q ↔ Q (some (.long (h (6 * p + k)))) I J P := by
  rw [c_X8_carried]
  have hw' := hw.f
  have hl' := hw.le.f
  have hru := hw.le.r
  have h1 := hr.1.1.2.2
  have hnk := hg.1.2.2.1
  have hk6 : k < 6 := by omega
  have c1 := cr_row hru hk6
  obtain ⟨-, p2⟩ := hru.2.2.2.2.1 k hk6
  have b1 := (hr.1.2.2.2.2 k hk).2 p hp
  rw [show x + 29 + 1 + 9 + 3 * π k = x + 29 + 1 + 7 + 3 * π k + 2 by omega] at b1
  unfold RuS at hru
  simp only [e_X8_carried_0, e_X8_carried_1, e_X8_carried_2, e_X8_carried_4, e_X8_carried_7, e_X8_carried_8, e_X8_carried_9, e_X8_carried_10, e_X8_carried_13, e_X8_carried_16, e_X8_carried_19, e_X8_carried_22, e_X8_carried_23, e_X8_carried_26, e_X8_carried_29, e_X8_carried_32, e_X8_carried_33, e_X8_carried_34, e_X8_carried_37, e_X8_carried_38, e_X8_carried_39, hw', hl', hru, h1, k_rI6 hp, k_rI hk (show nk < 2 ^ 31 by omega), c1, p2, nI_clamp (show k < 2 ^ 31 by omega), vpn hk6 (by decide), nI_clamp (show p < 2 ^ 31 by omega), vpn hp (by decide), b1, true_or, or_true, true_and, and_true, rf_s, not_true_eq_false, not_false_eq_true, true_implies, false_implies, kl_i, kl_n, kl_l, kl_r, Option.toList, List.cons_append, List.nil_append, if_true, if_false, u2s, lt00, lt01, lt02, lt03, le10, le20, le30, ne10, ne20, ne30, eq00]
theorem w_jointTax (hw : WbS S N P x πd π πs πh) (hg : Gd g nb nc nk) (hr : Led I J (x + 29) π g h nb nc nk) {r q : Nat} (hcp : Cp g r q)
    (hq : ∀ I' J', Fr (x + 271) (x + 303) I I' J J' → Q (some (.long (TxJ g h nb nc nk (lo r q) (hi r q)))) I' J' P) : CWp S N (d + 5) MX8_jointTax [.ref x, .int (nI r)] I J P Q := by
  rw [c_X8_jointTax]
  have hw' := hw.f
  have hs := hw.co.1
  simp only [e_X8_jointTax_0, e_X8_jointTax_1, e_X8_jointTax_4, e_X8_jointTax_5, e_X8_jointTax_8, e_X8_jointTax_9, e_X8_jointTax_10, e_X8_jointTax_11, e_X8_jointTax_14, hw', hs, k_rP hw hr hcp, true_and, and_true, rf_s, not_true_eq_false, not_false_eq_true, true_implies, false_implies, kl_i, kl_n, kl_l, kl_r, Option.toList, List.cons_append, List.nil_append, if_true, if_false, u2s, lt00, lt01, lt02, lt03, le10, le20, le30, ne10, ne20, ne30, eq00]
  refine k_settleC (d := d) hw hg hr hcp (fun I1 J1 f1 f2 f3 => ?_)
  have h4 := f3.2.2.2.1
  simp only [e_X8_jointTax_17, e_X8_jointTax_18, e_X8_jointTax_21, e_X8_jointTax_24, hw', hs, h4, true_and, and_true, rf_s, not_true_eq_false, not_false_eq_true, true_implies, false_implies, kl_i, kl_n, kl_l, kl_r, Option.toList, List.cons_append, List.nil_append, if_true, if_false, u2s, lt00, lt01, lt02, lt03, le10, le20, le30, ne10, ne20, ne30, eq00]
  exact hq I1 J1 (f1.w (by omega) (by omega))
theorem w_separateTax (hw : WbS S N P x πd π πs πh) (hg : Gd g nb nc nk) (hr : Led I J (x + 29) π g h nb nc nk) {r q : Nat} (hcp : Cp g r q)
    (hq : ∀ I' J', Fr (x + 271) (x + 303) I I' J J' → Q (some (.long (Tdv g h nb nc nk (lo r q) (hi r q)).1)) I' J' P) : CWp S N (d + 5) MX8_separateTax [.ref x, .int (nI r)] I J P Q := by
  rw [c_X8_separateTax]
  have hw' := hw.f
  have hs := hw.co.1
  simp only [e_X8_separateTax_0, e_X8_separateTax_1, e_X8_separateTax_4, e_X8_separateTax_5, e_X8_separateTax_8, e_X8_separateTax_9, e_X8_separateTax_10, e_X8_separateTax_11, e_X8_separateTax_14, hw', hs, k_rP hw hr hcp, true_and, and_true, rf_s, not_true_eq_false, not_false_eq_true, true_implies, false_implies, kl_i, kl_n, kl_l, kl_r, Option.toList, List.cons_append, List.nil_append, if_true, if_false, u2s, lt00, lt01, lt02, lt03, le10, le20, le30, ne10, ne20, ne30, eq00]
  refine k_settleC (d := d) hw hg hr hcp (fun I1 J1 f1 f2 f3 => ?_)
  have h4 := f3.2.2.2.2.1
  simp only [e_X8_separateTax_17, e_X8_separateTax_18, e_X8_separateTax_21, e_X8_separateTax_24, hw', hs, h4, true_and, and_true, rf_s, not_true_eq_false, not_false_eq_true, true_implies, false_implies, kl_i, kl_n, kl_l, kl_r, Option.toList, List.cons_append, List.nil_append, if_true, if_false, u2s, lt00, lt01, lt02, lt03, le10, le20, le30, ne10, ne20, ne30, eq00]
  exact hq I1 J1 (f1.w (by omega) (by omega))
theorem w_division (hw : WbS S N P x πd π πs πh) (hg : Gd g nb nc nk) (hr : Led I J (x + 29) π g h nb nc nk) {r q : Nat} (hcp : Cp g r q)
    (hq : ∀ I' J', Fr (x + 271) (x + 303) I I' J J' → Q (some (.int (nI (Tdv g h nb nc nk (lo r q) (hi r q)).2))) I' J' P) : CWp S N (d + 5) MX8_division [.ref x, .int (nI r)] I J P Q := by
  rw [c_X8_division]
  have hw' := hw.f
  have hs := hw.co.1
  simp only [e_X8_division_0, e_X8_division_1, e_X8_division_4, e_X8_division_5, e_X8_division_8, e_X8_division_9, e_X8_division_10, e_X8_division_11, e_X8_division_14, hw', hs, k_rP hw hr hcp, true_and, and_true, rf_s, not_true_eq_false, not_false_eq_true, true_implies, false_implies, kl_i, kl_n, kl_l, kl_r, Option.toList, List.cons_append, List.nil_append, if_true, if_false, u2s, lt00, lt01, lt02, lt03, le10, le20, le30, ne10, ne20, ne30, eq00]
  refine k_settleC (d := d) hw hg hr hcp (fun I1 J1 f1 f2 f3 => ?_)
  have h4 := f3.2.2.2.2.2
  simp only [e_X8_division_17, e_X8_division_18, e_X8_division_21, e_X8_division_24, hw', hs, h4, true_and, and_true, rf_s, not_true_eq_false, not_false_eq_true, true_implies, false_implies, kl_i, kl_n, kl_l, kl_r, Option.toList, List.cons_append, List.nil_append, if_true, if_false, u2s, lt00, lt01, lt02, lt03, le10, le20, le30, ne10, ne20, ne30, eq00]
  exact hq I1 J1 (f1.w (by omega) (by omega))
theorem w_choosesJoint (hw : WbS S N P x πd π πs πh) (hg : Gd g nb nc nk) (hr : Led I J (x + 29) π g h nb nc nk) {r q : Nat} (hcp : Cp g r q)
    (hq : ∀ I' J', Fr (x + 271) (x + 303) I I' J J' → Q (some (.int (if TxJ g h nb nc nk (lo r q) (hi r q) < (Tdv g h nb nc nk (lo r q) (hi r q)).1 then 1 else 0))) I' J' P) : CWp S N (d + 5) MX8_choosesJoint [.ref x, .int (nI r)] I J P Q := by
  rw [c_X8_choosesJoint]
  have hw' := hw.f
  have hs := hw.co.1
  simp only [e_X8_choosesJoint_0, e_X8_choosesJoint_1, e_X8_choosesJoint_4, e_X8_choosesJoint_5, e_X8_choosesJoint_8, e_X8_choosesJoint_9, e_X8_choosesJoint_10, e_X8_choosesJoint_11, e_X8_choosesJoint_14, hw', hs, k_rP hw hr hcp, true_and, and_true, rf_s, not_true_eq_false, not_false_eq_true, true_implies, false_implies, kl_i, kl_n, kl_l, kl_r, Option.toList, List.cons_append, List.nil_append, if_true, if_false, u2s, lt00, lt01, lt02, lt03, le10, le20, le30, ne10, ne20, ne30, eq00]
  refine k_settleC (d := d) hw hg hr hcp (fun I1 J1 f1 f2 f3 => ?_)
  simp only [e_X8_choosesJoint_17, e_X8_choosesJoint_18, e_X8_choosesJoint_21, e_X8_choosesJoint_24 isB0, e_X8_choosesJoint_24 isB1, e_X8_choosesJoint_24 isB_ite, hw', hs, k_prefers hw.co f3, true_and, and_true, rf_s, not_true_eq_false, not_false_eq_true, true_implies, false_implies, kl_i, kl_n, kl_l, kl_r, Option.toList, List.cons_append, List.nil_append, if_true, if_false, u2s, lt00, lt01, lt02, lt03, le10, le20, le30, ne10, ne20, ne30, eq00]
  exact hq I1 J1 (f1.w (by omega) (by omega))
theorem w_householdTax (hw : WbS S N P x πd π πs πh) (hg : Gd g nb nc nk) (hr : Led I J (x + 29) π g h nb nc nk) {p : Nat} (hp : p < 6)
    (hq : ∀ I' J', Fr (x + 271) (x + 303) I I' J J' → Q (some (.long (HhV g h nb nc nk p))) I' J' P) : CWp S N (d + 6) MX8_householdTax [.ref x, .int (nI p)] I J P Q := by
  rw [c_X8_householdTax]
  have hw' := hw.f
  simp only [e_X8_householdTax_0, e_X8_householdTax_1, e_X8_householdTax_2, e_X8_householdTax_4, e_X8_householdTax_7, e_X8_householdTax_8, e_X8_householdTax_9, hw', k_rI6 hp, true_and, and_true, rf_s, not_true_eq_false, not_false_eq_true, true_implies, false_implies, kl_i, kl_n, kl_l, kl_r, Option.toList, List.cons_append, List.nil_append, if_true, if_false, u2s, lt00, lt01, lt02, lt03, le10, le20, le30, ne10, ne20, ne30, eq00]
  refine k_chosen (d := d) hw hg hr hp (fun I1 J1 f1 f2 => ?_)
  simp only [e_X8_householdTax_12, true_and, and_true, rf_s, not_true_eq_false, not_false_eq_true, true_implies, false_implies, kl_i, kl_n, kl_l, kl_r, Option.toList, List.cons_append, List.nil_append, if_true, if_false, u2s, lt00, lt01, lt02, lt03, le10, le20, le30, ne10, ne20, ne30, eq00]
  exact hq I1 J1 f1
theorem w_curve (hw : WbS S N P x πd π πs πh) (hg : Gd g nb nc nk) (hr : Led I J (x + 29) π g h nb nc nk) {p e : Nat} (hp : p < 6) (he : e ≤ 9999)
    (hq : ∀ I' J', Fr (x + 271) (x + 303) I I' J J' → Q (some (.long (TxE g h nb nc nk p e))) I' J' P) : CWp S N (d + 4) MX8_curve [.ref x, .int (nI p), .int (nI e)] I J P Q := by
  rw [c_X8_curve]
  have hw' := hw.f
  have hl' := hw.le.f
  have hs := hw.ex.1
  have g1 : ∀ {d : Nat} {Q' : Option Value → IM → JM → PM → Prop}, CWp S N d MX8_requireRange [.ref x, .int (nI e), .int 0, .int 9999] I J P Q' ↔ Q' none I J P := fun {d Q'} => k_rR (nI_pos' (show e < 2 ^ 31 by omega)) (nI_le (a := e) (b := 9999) (by omega) (by decide))
  simp only [e_X8_curve_0, e_X8_curve_1, e_X8_curve_2, e_X8_curve_4, e_X8_curve_7, e_X8_curve_8, e_X8_curve_9, e_X8_curve_10, e_X8_curve_13, e_X8_curve_16, e_X8_curve_17, e_X8_curve_20, e_X8_curve_21, e_X8_curve_24, e_X8_curve_25, hw', hs, k_rI6 hp, g1, true_and, and_true, rf_s, not_true_eq_false, not_false_eq_true, true_implies, false_implies, kl_i, kl_n, kl_l, kl_r, Option.toList, List.cons_append, List.nil_append, if_true, if_false, u2s, lt00, lt01, lt02, lt03, le10, le20, le30, ne10, ne20, ne30, eq00]
  refine k_turnTo (d := d + 2) hw.ex hw.le (by omega) hg hr hp (fun I1 J1 e0 f0 f1 f2 f3 => ?_)
  simp only [e_X8_curve_28, e_X8_curve_29, e_X8_curve_32, e_X8_curve_33, e_X8_curve_36, e_X8_curve_39, e_X8_curve_40, hw', hl', hs, true_and, and_true, rf_s, not_true_eq_false, not_false_eq_true, true_implies, false_implies, kl_i, kl_n, kl_l, kl_r, Option.toList, List.cons_append, List.nil_append, if_true, if_false, u2s, lt00, lt01, lt02, lt03, le10, le20, le30, ne10, ne20, ne30, eq00]
  refine k_taxAt (d := d) hw.ex hw.le (by omega) hg hp he f2 f3 (fun I2 J2 a1 a2 a3 => ?_)
  simp only [e_X8_curve_43, true_and, and_true, rf_s, not_true_eq_false, not_false_eq_true, true_implies, false_implies, kl_i, kl_n, kl_l, kl_r, Option.toList, List.cons_append, List.nil_append, if_true, if_false, u2s, lt00, lt01, lt02, lt03, le10, le20, le30, ne10, ne20, ne30, eq00]
  exact hq I2 J2 ((f1.tr a1).w (by omega) (by omega))
theorem w_marginalRate (hw : WbS S N P x πd π πs πh) (hg : Gd g nb nc nk) (hr : Led I J (x + 29) π g h nb nc nk) {p e : Nat} (hp : p < 6) (he : e ≤ 9998)
    (hq : ∀ I' J', Fr (x + 271) (x + 303) I I' J J' → Q (some (.long (TxE g h nb nc nk p (e + 1) - TxE g h nb nc nk p e))) I' J' P) : CWp S N (d + 4) MX8_marginalRate [.ref x, .int (nI p), .int (nI e)] I J P Q := by
  rw [c_X8_marginalRate]
  have hw' := hw.f
  have hl' := hw.le.f
  have hs := hw.ex.1
  have g1 : ∀ {d : Nat} {Q' : Option Value → IM → JM → PM → Prop}, CWp S N d MX8_requireRange [.ref x, .int (nI e), .int 0, .int 9998] I J P Q' ↔ Q' none I J P := fun {d Q'} => k_rR (nI_pos' (show e < 2 ^ 31 by omega)) (nI_le (a := e) (b := 9998) (by omega) (by decide))
  simp only [e_X8_marginalRate_0, e_X8_marginalRate_1, e_X8_marginalRate_2, e_X8_marginalRate_4, e_X8_marginalRate_7, e_X8_marginalRate_8, e_X8_marginalRate_9, e_X8_marginalRate_10, e_X8_marginalRate_13, e_X8_marginalRate_16, e_X8_marginalRate_17, e_X8_marginalRate_20, e_X8_marginalRate_21, e_X8_marginalRate_24, e_X8_marginalRate_25, hw', hs, k_rI6 hp, g1, true_and, and_true, rf_s, not_true_eq_false, not_false_eq_true, true_implies, false_implies, kl_i, kl_n, kl_l, kl_r, Option.toList, List.cons_append, List.nil_append, if_true, if_false, u2s, lt00, lt01, lt02, lt03, le10, le20, le30, ne10, ne20, ne30, eq00]
  refine k_turnTo (d := d + 2) hw.ex hw.le (by omega) hg hr hp (fun I1 J1 e0 f0 f1 f2 f3 => ?_)
  simp only [e_X8_marginalRate_28, e_X8_marginalRate_29, e_X8_marginalRate_32, e_X8_marginalRate_33, e_X8_marginalRate_36, e_X8_marginalRate_39, e_X8_marginalRate_40, e_X8_marginalRate_41, e_X8_marginalRate_42, hw', hl', hs, nI_1, true_and, and_true, rf_s, not_true_eq_false, not_false_eq_true, true_implies, false_implies, kl_i, kl_n, kl_l, kl_r, Option.toList, List.cons_append, List.nil_append, if_true, if_false, u2s, lt00, lt01, lt02, lt03, le10, le20, le30, ne10, ne20, ne30, eq00]
  refine k_taxAt (d := d) hw.ex hw.le (by omega) hg hp (show e + 1 ≤ 9999 by omega) f2 f3 (fun I2 J2 a1 a2 a3 => ?_)
  simp only [e_X8_marginalRate_45, e_X8_marginalRate_46, e_X8_marginalRate_49, e_X8_marginalRate_50, e_X8_marginalRate_53, e_X8_marginalRate_56, e_X8_marginalRate_57, hw', hl', hs, true_and, and_true, rf_s, not_true_eq_false, not_false_eq_true, true_implies, false_implies, kl_i, kl_n, kl_l, kl_r, Option.toList, List.cons_append, List.nil_append, if_true, if_false, u2s, lt00, lt01, lt02, lt03, le10, le20, le30, ne10, ne20, ne30, eq00]
  refine k_taxAt (d := d) hw.ex hw.le (by omega) hg hp (show e ≤ 9999 by omega) a2 a3 (fun I3 J3 b1 b2 b3 => ?_)
  simp only [e_X8_marginalRate_60, e_X8_marginalRate_61, true_and, and_true, rf_s, not_true_eq_false, not_false_eq_true, true_implies, false_implies, kl_i, kl_n, kl_l, kl_r, Option.toList, List.cons_append, List.nil_append, if_true, if_false, u2s, lt00, lt01, lt02, lt03, le10, le20, le30, ne10, ne20, ne30, eq00]
  exact hq I3 J3 (((f1.tr a1).tr b1).w (by omega) (by omega))
theorem w_kinks (hw : WbS S N P x πd π πs πh) (hg : Gd g nb nc nk) (hr : Led I J (x + 29) π g h nb nc nk) {p : Nat} (hp : p < 6)
    (hq : ∀ I' J', Fr (x + 271) (x + 303) I I' J J' → Q (some (.int (nI (KcF (TxE g h nb nc nk p) 9998 1 0)))) I' J' P) : CWp S N (d + 6) MX8_kinks [.ref x, .int (nI p)] I J P Q := by
  rw [c_X8_kinks]
  have hw' := hw.f
  have hl' := hw.le.f
  have hs := hw.ex.1
  simp only [e_X8_kinks_0, e_X8_kinks_1, e_X8_kinks_2, e_X8_kinks_4, e_X8_kinks_7, e_X8_kinks_8, e_X8_kinks_11, e_X8_kinks_12, e_X8_kinks_15, e_X8_kinks_16, hw', hs, k_rI6 hp, true_and, and_true, rf_s, not_true_eq_false, not_false_eq_true, true_implies, false_implies, kl_i, kl_n, kl_l, kl_r, Option.toList, List.cons_append, List.nil_append, if_true, if_false, u2s, lt00, lt01, lt02, lt03, le10, le20, le30, ne10, ne20, ne30, eq00]
  refine k_turnTo (d := d + 4) hw.ex hw.le (by omega) hg hr hp (fun I1 J1 e0 f0 f1 f2 f3 => ?_)
  simp only [e_X8_kinks_19, e_X8_kinks_20, e_X8_kinks_23, e_X8_kinks_24, e_X8_kinks_27, e_X8_kinks_30, hw', hl', hs, true_and, and_true, rf_s, not_true_eq_false, not_false_eq_true, true_implies, false_implies, kl_i, kl_n, kl_l, kl_r, Option.toList, List.cons_append, List.nil_append, if_true, if_false, u2s, lt00, lt01, lt02, lt03, le10, le20, le30, ne10, ne20, ne30, eq00]
  refine k_countKinks (d := d) hw.ex hw.le (by omega) hg hp f2 f3 (fun I2 J2 e2 a1 a2 a3 => ?_)
  simp only [e_X8_kinks_33, true_and, and_true, rf_s, not_true_eq_false, not_false_eq_true, true_implies, false_implies, kl_i, kl_n, kl_l, kl_r, Option.toList, List.cons_append, List.nil_append, if_true, if_false, u2s, lt00, lt01, lt02, lt03, le10, le20, le30, ne10, ne20, ne30, eq00]
  exact hq I2 J2 ((f1.tr a1).w (by omega) (by omega))
theorem w_steepest (hw : WbS S N P x πd π πs πh) (hg : Gd g nb nc nk) (hr : Led I J (x + 29) π g h nb nc nk) {p : Nat} (hp : p < 6)
    (hq : ∀ I' J', Fr (x + 271) (x + 303) I I' J J' → Q (some (.int (nI (StF (TxE g h nb nc nk p) 9998 1 0 (TxE g h nb nc nk p 1 - TxE g h nb nc nk p 0))))) I' J' P) : CWp S N (d + 6) MX8_steepest [.ref x, .int (nI p)] I J P Q := by
  rw [c_X8_steepest]
  have hw' := hw.f
  have hl' := hw.le.f
  have hs := hw.ex.1
  simp only [e_X8_steepest_0, e_X8_steepest_1, e_X8_steepest_2, e_X8_steepest_4, e_X8_steepest_7, e_X8_steepest_8, e_X8_steepest_11, e_X8_steepest_12, e_X8_steepest_15, e_X8_steepest_16, hw', hs, k_rI6 hp, true_and, and_true, rf_s, not_true_eq_false, not_false_eq_true, true_implies, false_implies, kl_i, kl_n, kl_l, kl_r, Option.toList, List.cons_append, List.nil_append, if_true, if_false, u2s, lt00, lt01, lt02, lt03, le10, le20, le30, ne10, ne20, ne30, eq00]
  refine k_turnTo (d := d + 4) hw.ex hw.le (by omega) hg hr hp (fun I1 J1 e0 f0 f1 f2 f3 => ?_)
  simp only [e_X8_steepest_19, e_X8_steepest_20, e_X8_steepest_23, e_X8_steepest_24, e_X8_steepest_27, e_X8_steepest_30, hw', hl', hs, true_and, and_true, rf_s, not_true_eq_false, not_false_eq_true, true_implies, false_implies, kl_i, kl_n, kl_l, kl_r, Option.toList, List.cons_append, List.nil_append, if_true, if_false, u2s, lt00, lt01, lt02, lt03, le10, le20, le30, ne10, ne20, ne30, eq00]
  refine k_steepest (d := d + 1) hw.ex hw.le (by omega) hg hp f2 f3 (fun I2 J2 e2 a1 a2 a3 => ?_)
  simp only [e_X8_steepest_33, true_and, and_true, rf_s, not_true_eq_false, not_false_eq_true, true_implies, false_implies, kl_i, kl_n, kl_l, kl_r, Option.toList, List.cons_append, List.nil_append, if_true, if_false, u2s, lt00, lt01, lt02, lt03, le10, le20, le30, ne10, ne20, ne30, eq00]
  exact hq I2 J2 ((f1.tr a1).w (by omega) (by omega))
theorem w_nextKink (hw : WbS S N P x πd π πs πh) (hg : Gd g nb nc nk) (hr : Led I J (x + 29) π g h nb nc nk) {p : Nat} (hp : p < 6) {v : Int32} {e0 k : Nat} (hs0 : NkS v e0) (hk : NkF (TxE g h nb nc nk p) (9999 - e0) e0 = some k)
    (hq : ∀ I' J', Fr (x + 271) (x + 303) I I' J J' → Q (some (.int (nI k))) I' J' P) : CWp S N (d + 6) MX8_nextKink [.ref x, .int (nI p), .int v] I J P Q := by
  rw [c_X8_nextKink]
  have hw' := hw.f
  have hl' := hw.le.f
  have hs := hw.ex.1
  obtain ⟨k1, k2, -⟩ := KcF_some (9999 - e0) e0 0 hk
  have hle := hs0.le
  have hne : ¬ nI k = -1 := fun z => by
    have g1 : ¬ nI k < 0 := nI_pos (by omega)
    rw [z] at g1
    exact g1 (by decide)
  simp only [e_X8_nextKink_0, e_X8_nextKink_1, e_X8_nextKink_2, e_X8_nextKink_4, e_X8_nextKink_7, e_X8_nextKink_8, e_X8_nextKink_11, e_X8_nextKink_12, e_X8_nextKink_15, e_X8_nextKink_16, hw', hs, k_rI6 hp, true_and, and_true, rf_s, not_true_eq_false, not_false_eq_true, true_implies, false_implies, kl_i, kl_n, kl_l, kl_r, Option.toList, List.cons_append, List.nil_append, if_true, if_false, u2s, lt00, lt01, lt02, lt03, le10, le20, le30, ne10, ne20, ne30, eq00]
  refine k_turnTo (d := d + 4) hw.ex hw.le (by omega) hg hr hp (fun I1 J1 e1 f0 f1 f2 f3 => ?_)
  simp only [e_X8_nextKink_19, e_X8_nextKink_20, e_X8_nextKink_23, e_X8_nextKink_24, e_X8_nextKink_27, e_X8_nextKink_30, e_X8_nextKink_31, hw', hl', hs, true_and, and_true, rf_s, not_true_eq_false, not_false_eq_true, true_implies, false_implies, kl_i, kl_n, kl_l, kl_r, Option.toList, List.cons_append, List.nil_append, if_true, if_false, u2s, lt00, lt01, lt02, lt03, le10, le20, le30, ne10, ne20, ne30, eq00]
  refine k_kinkAbove (d := d + 1) hw.ex hw.le (by omega) hg hp f2 f3 hs0 (fun I2 J2 e2 a1 a2 a3 => ?_)
  rw [hk]
  simp only [e_X8_nextKink_34, e_X8_nextKink_35, e_X8_nextKink_36, e_X8_nextKink_37, e_X8_nextKink_50, e_X8_nextKink_51, hne, true_and, and_true, rf_s, not_true_eq_false, not_false_eq_true, true_implies, false_implies, kl_i, kl_n, kl_l, kl_r, Option.toList, List.cons_append, List.nil_append, if_true, if_false, u2s, lt00, lt01, lt02, lt03, le10, le20, le30, ne10, ne20, ne30, eq00]
  exact hq I2 J2 ((f1.tr a1).w (by omega) (by omega))
theorem w_kinkCause (hw : WbS S N P x πd π πs πh) (hg : Gd g nb nc nk) (hr : Led I J (x + 29) π g h nb nc nk) {p w : Nat} (hp : p < 6) (h1 : 1 ≤ w) (h2 : w < 9999) (hk : ¬ flat (TxE g h nb nc nk p) w) (hcc : CcF (PvF g h nb nc p) w (3 + nk) 0 < 2 ^ 31)
    (hq : ∀ I' J', Fr (x + 271) (x + 303) I I' J J' → Q (some (.int (nI (CcF (PvF g h nb nc p) w (3 + nk) 0)))) I' J' P) : CWp S N (d + 6) MX8_kinkCause [.ref x, .int (nI p), .int (nI w)] I J P Q := by
  rw [c_X8_kinkCause]
  have hw' := hw.f
  have hl' := hw.le.f
  have hs := hw.ex.1
  have hne : ¬ nI (CcF (PvF g h nb nc p) w (3 + nk) 0) = -1 := fun z => by
    have g1 := nI_pos hcc
    rw [z] at g1
    exact g1 (by decide)
  simp only [e_X8_kinkCause_0, e_X8_kinkCause_1, e_X8_kinkCause_2, e_X8_kinkCause_4, e_X8_kinkCause_7, e_X8_kinkCause_8, e_X8_kinkCause_11, e_X8_kinkCause_12, e_X8_kinkCause_15, e_X8_kinkCause_16, hw', hs, k_rI6 hp, true_and, and_true, rf_s, not_true_eq_false, not_false_eq_true, true_implies, false_implies, kl_i, kl_n, kl_l, kl_r, Option.toList, List.cons_append, List.nil_append, if_true, if_false, u2s, lt00, lt01, lt02, lt03, le10, le20, le30, ne10, ne20, ne30, eq00]
  refine k_turnTo (d := d + 4) hw.ex hw.le (by omega) hg hr hp (fun I1 J1 e1 f0 f1 f2 f3 => ?_)
  simp only [e_X8_kinkCause_19, e_X8_kinkCause_20, e_X8_kinkCause_23, e_X8_kinkCause_24, e_X8_kinkCause_27, e_X8_kinkCause_30, e_X8_kinkCause_31, hw', hl', hs, true_and, and_true, rf_s, not_true_eq_false, not_false_eq_true, true_implies, false_implies, kl_i, kl_n, kl_l, kl_r, Option.toList, List.cons_append, List.nil_append, if_true, if_false, u2s, lt00, lt01, lt02, lt03, le10, le20, le30, ne10, ne20, ne30, eq00]
  refine k_causeAt_in (d := d) hw.ex hw.le (by omega) hg hp h1 h2 f2 f3 (fun I2 J2 e2 a1 a2 a3 => ?_)
  rw [if_neg hk]
  simp only [e_X8_kinkCause_34, e_X8_kinkCause_35, e_X8_kinkCause_36, e_X8_kinkCause_37, e_X8_kinkCause_51, e_X8_kinkCause_52, hne, true_and, and_true, rf_s, not_true_eq_false, not_false_eq_true, true_implies, false_implies, kl_i, kl_n, kl_l, kl_r, Option.toList, List.cons_append, List.nil_append, if_true, if_false, u2s, lt00, lt01, lt02, lt03, le10, le20, le30, ne10, ne20, ne30, eq00]
  exact hq I2 J2 ((f1.tr a1).w (by omega) (by omega))
end WT3

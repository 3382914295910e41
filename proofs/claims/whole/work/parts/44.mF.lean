/-! the model's explorer -/
/-- the curve; a part of it -/
def TxE (g : Nat → Int32) (h : Nat → Int64) (nb nc nk p : Nat) (e : Nat) : Int64 := Trs g nb nc (Br1 h p) (nI e) (nI e + g (65 + 3 * p)) (g (66 + 3 * p)) 1 nk
def PvF (g : Nat → Int32) (h : Nat → Int64) (nb nc p j : Nat) (e : Nat) : Int64 := if j < 3 then TpF g nb nc (nI e + g (65 + 3 * p)) 1 (j + 2) else TxE g h nb nc (j - 3) p e
/-- no bend at e -/
abbrev flat (T : Nat → Int64) (e : Nat) : Prop := T e - T (e - 1) = T (e + 1) - T e
def KcF (T : Nat → Int64) : Nat → Nat → Nat → Nat
  | 0, _, c => c
  | n + 1, e, c => KcF T n (e + 1) (if flat T e then c else c + 1)
def NkF (T : Nat → Int64) : Nat → Nat → Option Nat
  | 0, _ => none
  | n + 1, e => if flat T e then NkF T n (e + 1) else some e
def StF (T : Nat → Int64) : Nat → Nat → Nat → Int64 → Nat
  | 0, _, b, _ => b
  | n + 1, e, b, v => if v < T (e + 1) - T e then StF T n (e + 1) e (T (e + 1) - T e) else StF T n (e + 1) b v
def CcF (F : Nat → Nat → Int64) (e : Nat) : Nat → Nat → Nat
  | 0, j => j
  | n + 1, j => if flat (F j) e then CcF F e n (j + 1) else j
theorem nIp (e : Nat) : nI e + 1 = nI (e + 1) := nI_1 e
section MTF
variable {S N : Nat → Nat} {d : Nat} {I : IM} {J : JM} {P : PM} {Q : Option Value → IM → JM → PM → Prop} {m : Nat} {g : Nat → Int32} {h : Nat → Int64} {nb nc nk : Nat}
theorem s_taxAt (hm : MdS S N P m) (hg : I (m + 1) = g) (hh : J (m + 2) = h) (hc : Cnt g nb nc nk) {p e : Nat} (hp : p < 6)
    (hq : ∀ J', Sc m J J' → Res g m nb nc nk (Br1 h p) (nI e) (nI e + g (65 + 3 * p)) (g (66 + 3 * p)) 1 J' → Q (some (.long (TxE g h nb nc nk p e))) I J' P) : CWp S N (d + 4) MX9_taxAt [.ref m, .int (nI p), .int (nI e)] I J P Q := by
  rw [c_X9_taxAt]
  have hm0 := hm
  unfold MdS at hm
  simp only [e_X9_taxAt_0, e_X9_taxAt_1, e_X9_taxAt_2, e_X9_taxAt_3, e_X9_taxAt_4, e_X9_taxAt_5, e_X9_taxAt_6, e_X9_taxAt_9, hm, s_of2 hm0 hg hp, true_and, and_true, rf_s, not_true_eq_false, not_false_eq_true, true_implies, false_implies, kl_i, kl_n, kl_l, kl_r, Option.toList, List.cons_append, List.nil_append, if_true, if_false, u2s, lt00, lt01, lt02, lt03, le10, le20, le30, ne10, ne20, ne30, eq00]
  subst hg
  subst hh
  refine s_alone hm0 hc hp (fun J1 a1 a2 => ?_)
  simp only [e_X9_taxAt_12, true_and, and_true, rf_s, not_true_eq_false, not_false_eq_true, true_implies, false_implies, kl_i, kl_n, kl_l, kl_r, Option.toList, List.cons_append, List.nil_append, if_true, if_false, u2s, lt00, lt01, lt02, lt03, le10, le20, le30, ne10, ne20, ne30, eq00]
  exact hq J1 a1 a2
theorem s_marginal (hm : MdS S N P m) (hg : I (m + 1) = g) (hh : J (m + 2) = h) (hc : Cnt g nb nc nk) {p e : Nat} (hp : p < 6)
    (hq : ∀ J', Sc m J J' → Q (some (.long (TxE g h nb nc nk p (e + 1) - TxE g h nb nc nk p e))) I J' P) : CWp S N (d + 5) MX9_marginal [.ref m, .int (nI p), .int (nI e)] I J P Q := by
  rw [c_X9_marginal]
  have hm0 := hm
  unfold MdS at hm
  simp only [e_X9_marginal_0, e_X9_marginal_1, e_X9_marginal_2, e_X9_marginal_3, e_X9_marginal_4, e_X9_marginal_5, hm, nIp, true_and, and_true, rf_s, not_true_eq_false, not_false_eq_true, true_implies, false_implies, kl_i, kl_n, kl_l, kl_r, Option.toList, List.cons_append, List.nil_append, if_true, if_false, u2s, lt00, lt01, lt02, lt03, le10, le20, le30, ne10, ne20, ne30, eq00]
  refine s_taxAt hm0 hg hh hc hp (fun J1 a1 _ => ?_)
  simp only [e_X9_marginal_8, e_X9_marginal_9, e_X9_marginal_10, e_X9_marginal_11, hm, true_and, and_true, rf_s, not_true_eq_false, not_false_eq_true, true_implies, false_implies, kl_i, kl_n, kl_l, kl_r, Option.toList, List.cons_append, List.nil_append, if_true, if_false, u2s, lt00, lt01, lt02, lt03, le10, le20, le30, ne10, ne20, ne30, eq00]
  refine s_taxAt (h := h) hm0 hg (by rw [a1.h]; exact hh) hc hp (fun J2 a2 _ => ?_)
  simp only [e_X9_marginal_14, e_X9_marginal_15, hm, true_and, and_true, rf_s, not_true_eq_false, not_false_eq_true, true_implies, false_implies, kl_i, kl_n, kl_l, kl_r, Option.toList, List.cons_append, List.nil_append, if_true, if_false, u2s, lt00, lt01, lt02, lt03, le10, le20, le30, ne10, ne20, ne30, eq00]
  exact hq J2 (a1.tr a2)
theorem s_isKink_out (hm : MdS S N P m) {v e : Int32} (he : ¬ (1 ≤ e ∧ e ≤ 9998)) : CWp S N (d + 1) MX9_isKink [.ref m, .int v, .int e] I J P Q ↔ Q (some (.int 0)) I J P := by
  rw [c_X9_isKink]
  unfold MdS at hm
  have he' := eq_false he
  simp only [e_X9_isKink_0, e_X9_isKink_1, e_X9_isKink_2, e_X9_isKink_5, e_X9_isKink_8, e_X9_isKink_33, e_X9_isKink_34 isB0, e_X9_isKink_34 isB1, e_X9_isKink_34 isB_ite, s_in, he', true_and, and_true, rf_s, not_true_eq_false, not_false_eq_true, true_implies, false_implies, kl_i, kl_n, kl_l, kl_r, Option.toList, List.cons_append, List.nil_append, if_true, if_false, u2s, lt00, lt01, lt02, lt03, le10, le20, le30, ne10, ne20, ne30, eq00]
theorem s_isKink_in (hm : MdS S N P m) (hg : I (m + 1) = g) (hh : J (m + 2) = h) (hc : Cnt g nb nc nk) {p e : Nat} (hp : p < 6) (h1 : 1 ≤ e) (h2 : e < 9999)
    (hq : ∀ J', Sc m J J' → Q (some (.int (if flat (TxE g h nb nc nk p) e then 0 else 1))) I J' P) : CWp S N (d + 6) MX9_isKink [.ref m, .int (nI p), .int (nI e)] I J P Q := by
  rw [c_X9_isKink]
  have hm0 := hm
  unfold MdS at hm
  obtain ⟨e, rfl⟩ : ∃ e', e = e' + 1 := ⟨e - 1, by omega⟩
  have he' : (1 ≤ nI (e + 1) ∧ nI (e + 1) ≤ 9998) = True := eq_true ⟨nI_le (a := 1) (b := e + 1) (by omega) (by omega), nI_le (a := e + 1) (b := 9998) (by omega) (by decide)⟩
  simp only [e_X9_isKink_0, e_X9_isKink_1, e_X9_isKink_2, e_X9_isKink_5, e_X9_isKink_8, e_X9_isKink_11, e_X9_isKink_12, e_X9_isKink_13, e_X9_isKink_14, e_X9_isKink_15, e_X9_isKink_16, hm, s_in, he', nI_pred, true_and, and_true, rf_s, not_true_eq_false, not_false_eq_true, true_implies, false_implies, kl_i, kl_n, kl_l, kl_r, Option.toList, List.cons_append, List.nil_append, if_true, if_false, u2s, lt00, lt01, lt02, lt03, le10, le20, le30, ne10, ne20, ne30, eq00]
  refine s_marginal hm0 hg hh hc hp (fun J1 a1 => ?_)
  simp only [e_X9_isKink_19, e_X9_isKink_20, e_X9_isKink_21, e_X9_isKink_22, hm, true_and, and_true, rf_s, not_true_eq_false, not_false_eq_true, true_implies, false_implies, kl_i, kl_n, kl_l, kl_r, Option.toList, List.cons_append, List.nil_append, if_true, if_false, u2s, lt00, lt01, lt02, lt03, le10, le20, le30, ne10, ne20, ne30, eq00]
  refine s_marginal (h := h) hm0 hg (by rw [a1.h]; exact hh) hc hp (fun J2 a2 => ?_)
  have h9 := hq J2 (a1.tr a2)
  by_cases hf : flat (TxE g h nb nc nk p) (e + 1)
  · rw [if_pos hf] at h9
    have hf' : (TxE g h nb nc nk p (e + 1) - TxE g h nb nc nk p e = TxE g h nb nc nk p (e + 1 + 1) - TxE g h nb nc nk p (e + 1)) = True := eq_true hf
    simp only [e_X9_isKink_25, e_X9_isKink_26, e_X9_isKink_29, e_X9_isKink_30, e_X9_isKink_33, e_X9_isKink_34 isB0, e_X9_isKink_34 isB1, e_X9_isKink_34 isB_ite, lc_eq, hf', true_and, and_true, rf_s, not_true_eq_false, not_false_eq_true, true_implies, false_implies, kl_i, kl_n, kl_l, kl_r, Option.toList, List.cons_append, List.nil_append, if_true, if_false, u2s, lt00, lt01, lt02, lt03, le10, le20, le30, ne10, ne20, ne30, eq00]
    exact h9
  · rw [if_neg hf] at h9
    have hf' : (TxE g h nb nc nk p (e + 1) - TxE g h nb nc nk p e = TxE g h nb nc nk p (e + 1 + 1) - TxE g h nb nc nk p (e + 1)) = False := eq_false hf
    simp only [e_X9_isKink_25, e_X9_isKink_26, e_X9_isKink_29, e_X9_isKink_30, e_X9_isKink_33, e_X9_isKink_34 isB0, e_X9_isKink_34 isB1, e_X9_isKink_34 isB_ite, lc_eq, hf', true_and, and_true, rf_s, not_true_eq_false, not_false_eq_true, true_implies, false_implies, kl_i, kl_n, kl_l, kl_r, Option.toList, List.cons_append, List.nil_append, if_true, if_false, u2s, lt00, lt01, lt02, lt03, le10, le20, le30, ne10, ne20, ne30, eq00]
    exact h9
theorem s_curve_bad1 (hm : MdS S N P m) {v e : Int32} (hv : v < 0 ∨ nI 6 ≤ v) : CWp S N (d + 2) MX9_curve [.ref m, .int v, .int e] I J P Q ↔ Q (some (.long 0)) (u2 I m 8 1) J P := by
  rw [c_X9_curve]
  unfold MdS at hm
  simp only [e_X9_curve_0, e_X9_curve_1, e_X9_curve_2, e_X9_curve_5, e_X9_curve_8, e_X9_curve_9, e_X9_curve_10, e_X9_curve_13, e_X9_curve_16, e_X9_curve_19, e_X9_curve_20, e_X9_curve_23, e_X9_curve_24, e_X9_curve_27, e_X9_curve_28, e_X9_curve_31, e_X9_curve_32, e_X9_curve_35, e_X9_curve_38, e_X9_curve_39, e_X9_curve_42, e_X9_curve_43, e_X9_curve_44, e_X9_curve_45, e_X9_curve_48, s_isPerson, bad6 hv, hm, true_and, and_true, rf_s, not_true_eq_false, not_false_eq_true, true_implies, false_implies, kl_i, kl_n, kl_l, kl_r, Option.toList, List.cons_append, List.nil_append, if_true, if_false, u2s, lt00, lt01, lt02, lt03, le10, le20, le30, ne10, ne20, ne30, eq00]
theorem s_curve_bad2 (hm : MdS S N P m) {p : Nat} {e : Int32} (hp : p < 6) (he : e < 0 ∨ nI 10000 ≤ e) : CWp S N (d + 2) MX9_curve [.ref m, .int (nI p), .int e] I J P Q ↔ Q (some (.long 0)) (u2 I m 8 2) J P := by
  rw [c_X9_curve]
  unfold MdS at hm
  have b := badj 9999 (by decide) he
  rw [show nI 9999 = (9999 : Int32) from rfl] at b
  simp only [e_X9_curve_0, e_X9_curve_1, e_X9_curve_2, e_X9_curve_5, e_X9_curve_8, e_X9_curve_9, e_X9_curve_10, e_X9_curve_13, e_X9_curve_16, e_X9_curve_19, e_X9_curve_20, e_X9_curve_23, e_X9_curve_24, e_X9_curve_27, e_X9_curve_28, e_X9_curve_31, e_X9_curve_32, e_X9_curve_35, e_X9_curve_38, e_X9_curve_39, e_X9_curve_42, e_X9_curve_43, e_X9_curve_44, e_X9_curve_45, e_X9_curve_48, s_isPerson, good6 hp, s_in, b, hm, true_and, and_true, rf_s, not_true_eq_false, not_false_eq_true, true_implies, false_implies, kl_i, kl_n, kl_l, kl_r, Option.toList, List.cons_append, List.nil_append, if_true, if_false, u2s, lt00, lt01, lt02, lt03, le10, le20, le30, ne10, ne20, ne30, eq00]
theorem s_curve_ok (hm : MdS S N P m) (hg : I (m + 1) = g) (hh : J (m + 2) = h) (hc : Cnt g nb nc nk) {p e : Nat} (hp : p < 6) (he : e ≤ 9999)
    (hq : ∀ J', Sc m J J' → Q (some (.long (TxE g h nb nc nk p e))) (u2 I m 8 0) J' P) : CWp S N (d + 5) MX9_curve [.ref m, .int (nI p), .int (nI e)] I J P Q := by
  rw [c_X9_curve]
  have hm0 := hm
  unfold MdS at hm
  have b : (0 ≤ nI e ∧ nI e ≤ nI 9999) = True := goodj 9999 (by decide) he
  rw [show nI 9999 = (9999 : Int32) from rfl] at b
  simp only [e_X9_curve_0, e_X9_curve_1, e_X9_curve_2, e_X9_curve_5, e_X9_curve_8, e_X9_curve_9, e_X9_curve_10, e_X9_curve_13, e_X9_curve_16, e_X9_curve_19, e_X9_curve_20, e_X9_curve_23, e_X9_curve_24, e_X9_curve_27, e_X9_curve_28, e_X9_curve_31, e_X9_curve_32, e_X9_curve_35, e_X9_curve_38, e_X9_curve_39, e_X9_curve_42, e_X9_curve_43, e_X9_curve_44, e_X9_curve_45, s_isPerson, good6 hp, s_in, b, hm, le00, true_and, and_true, rf_s, not_true_eq_false, not_false_eq_true, true_implies, false_implies, kl_i, kl_n, kl_l, kl_r, Option.toList, List.cons_append, List.nil_append, if_true, if_false, u2s, lt00, lt01, lt02, lt03, le10, le20, le30, ne10, ne20, ne30, eq00]
  refine s_taxAt (h := h) hm0 (by rw [u2_off _ _ _ (by omega)]; exact hg) hh hc hp (fun J1 a1 _ => ?_)
  simp only [e_X9_curve_48, true_and, and_true, rf_s, not_true_eq_false, not_false_eq_true, true_implies, false_implies, kl_i, kl_n, kl_l, kl_r, Option.toList, List.cons_append, List.nil_append, if_true, if_false, u2s, lt00, lt01, lt02, lt03, le10, le20, le30, ne10, ne20, ne30, eq00]
  exact hq J1 a1
theorem s_marginalRate_bad1 (hm : MdS S N P m) {v e : Int32} (hv : v < 0 ∨ nI 6 ≤ v) : CWp S N (d + 2) MX9_marginalRate [.ref m, .int v, .int e] I J P Q ↔ Q (some (.long 0)) (u2 I m 8 1) J P := by
  rw [c_X9_marginalRate]
  unfold MdS at hm
  simp only [e_X9_marginalRate_0, e_X9_marginalRate_1, e_X9_marginalRate_2, e_X9_marginalRate_5, e_X9_marginalRate_8, e_X9_marginalRate_9, e_X9_marginalRate_10, e_X9_marginalRate_13, e_X9_marginalRate_16, e_X9_marginalRate_19, e_X9_marginalRate_20, e_X9_marginalRate_23, e_X9_marginalRate_24, e_X9_marginalRate_27, e_X9_marginalRate_28, e_X9_marginalRate_31, e_X9_marginalRate_32, e_X9_marginalRate_35, e_X9_marginalRate_38, e_X9_marginalRate_39, e_X9_marginalRate_42, e_X9_marginalRate_43, e_X9_marginalRate_44, e_X9_marginalRate_45, e_X9_marginalRate_48, s_isPerson, bad6 hv, hm, true_and, and_true, rf_s, not_true_eq_false, not_false_eq_true, true_implies, false_implies, kl_i, kl_n, kl_l, kl_r, Option.toList, List.cons_append, List.nil_append, if_true, if_false, u2s, lt00, lt01, lt02, lt03, le10, le20, le30, ne10, ne20, ne30, eq00]
theorem s_marginalRate_bad2 (hm : MdS S N P m) {p : Nat} {e : Int32} (hp : p < 6) (he : e < 0 ∨ nI 9999 ≤ e) : CWp S N (d + 2) MX9_marginalRate [.ref m, .int (nI p), .int e] I J P Q ↔ Q (some (.long 0)) (u2 I m 8 2) J P := by
  rw [c_X9_marginalRate]
  unfold MdS at hm
  have b := badj 9998 (by decide) he
  rw [show nI 9998 = (9998 : Int32) from rfl] at b
  simp only [e_X9_marginalRate_0, e_X9_marginalRate_1, e_X9_marginalRate_2, e_X9_marginalRate_5, e_X9_marginalRate_8, e_X9_marginalRate_9, e_X9_marginalRate_10, e_X9_marginalRate_13, e_X9_marginalRate_16, e_X9_marginalRate_19, e_X9_marginalRate_20, e_X9_marginalRate_23, e_X9_marginalRate_24, e_X9_marginalRate_27, e_X9_marginalRate_28, e_X9_marginalRate_31, e_X9_marginalRate_32, e_X9_marginalRate_35, e_X9_marginalRate_38, e_X9_marginalRate_39, e_X9_marginalRate_42, e_X9_marginalRate_43, e_X9_marginalRate_44, e_X9_marginalRate_45, e_X9_marginalRate_48, s_isPerson, good6 hp, s_in, b, hm, true_and, and_true, rf_s, not_true_eq_false, not_false_eq_true, true_implies, false_implies, kl_i, kl_n, kl_l, kl_r, Option.toList, List.cons_append, List.nil_append, if_true, if_false, u2s, lt00, lt01, lt02, lt03, le10, le20, le30, ne10, ne20, ne30, eq00]
theorem s_marginalRate_ok (hm : MdS S N P m) (hg : I (m + 1) = g) (hh : J (m + 2) = h) (hc : Cnt g nb nc nk) {p e : Nat} (hp : p < 6) (he : e ≤ 9998)
    (hq : ∀ J', Sc m J J' → Q (some (.long (TxE g h nb nc nk p (e + 1) - TxE g h nb nc nk p e))) (u2 I m 8 0) J' P) : CWp S N (d + 6) MX9_marginalRate [.ref m, .int (nI p), .int (nI e)] I J P Q := by
  rw [c_X9_marginalRate]
  have hm0 := hm
  unfold MdS at hm
  have b : (0 ≤ nI e ∧ nI e ≤ nI 9998) = True := goodj 9998 (by decide) he
  rw [show nI 9998 = (9998 : Int32) from rfl] at b
  simp only [e_X9_marginalRate_0, e_X9_marginalRate_1, e_X9_marginalRate_2, e_X9_marginalRate_5, e_X9_marginalRate_8, e_X9_marginalRate_9, e_X9_marginalRate_10, e_X9_marginalRate_13, e_X9_marginalRate_16, e_X9_marginalRate_19, e_X9_marginalRate_20, e_X9_marginalRate_23, e_X9_marginalRate_24, e_X9_marginalRate_27, e_X9_marginalRate_28, e_X9_marginalRate_31, e_X9_marginalRate_32, e_X9_marginalRate_35, e_X9_marginalRate_38, e_X9_marginalRate_39, e_X9_marginalRate_42, e_X9_marginalRate_43, e_X9_marginalRate_44, e_X9_marginalRate_45, s_isPerson, good6 hp, s_in, b, hm, le00, true_and, and_true, rf_s, not_true_eq_false, not_false_eq_true, true_implies, false_implies, kl_i, kl_n, kl_l, kl_r, Option.toList, List.cons_append, List.nil_append, if_true, if_false, u2s, lt00, lt01, lt02, lt03, le10, le20, le30, ne10, ne20, ne30, eq00]
  refine s_marginal (h := h) hm0 (by rw [u2_off _ _ _ (by omega)]; exact hg) hh hc hp (fun J1 a1 => ?_)
  simp only [e_X9_marginalRate_48, true_and, and_true, rf_s, not_true_eq_false, not_false_eq_true, true_implies, false_implies, kl_i, kl_n, kl_l, kl_r, Option.toList, List.cons_append, List.nil_append, if_true, if_false, u2s, lt00, lt01, lt02, lt03, le10, le20, le30, ne10, ne20, ne30, eq00]
  exact hq J1 a1
theorem s_kinks_bad (hm : MdS S N P m) {v : Int32} (hv : v < 0 ∨ nI 6 ≤ v) : CWp S N (d + 2) MX9_kinks [.ref m, .int v] I J P Q ↔ Q (some (.int 0)) (u2 (u2 I m 8 0) m 8 1) J P := by
  rw [c_X9_kinks]
  have hm0 := hm
  unfold MdS at hm
  simp only [e_X9_kinks_0, e_X9_kinks_1, e_X9_kinks_2, e_X9_kinks_5, e_X9_kinks_6, e_X9_kinks_9, e_X9_kinks_12, e_X9_kinks_13, e_X9_kinks_14, e_X9_kinks_17, s_isPerson, bad6 hv, s_fails hm0, hm, true_and, and_true, rf_s, not_true_eq_false, not_false_eq_true, true_implies, false_implies, kl_i, kl_n, kl_l, kl_r, Option.toList, List.cons_append, List.nil_append, if_true, if_false, u2s, lt00, lt01, lt02, lt03, le10, le20, le30, ne10, ne20, ne30, eq00]
theorem kk_loop (hm : MdS S N P m) (hg : I (m + 1) = g) (hc : Cnt g nb nc nk) {p : Nat} (hp : p < 6) : ∀ (n e : Nat), e + n = 9999 → 1 ≤ e → ∀ (J : JM) (c : Nat) (x8 x9 : Option Value), J (m + 2) = h → (∀ J', Sc m J J' → Q (some (.int (nI (KcF (TxE g h nb nc nk p) n e c)))) I J' P) →
    Wp S N (d + 5) MX9_kinks 38 [some (.ref m), some (.int (nI p)), some (.int (nI c)), some (.long (TxE g h nb nc nk p e - TxE g h nb nc nk p (e - 1))), none, some (.long (TxE g h nb nc nk p e)), none, some (.int (nI e)), x8, x9] [] I J P Q := by
  have hm0 := hm
  unfold MdS at hm
  intro n
  induction n with
  | zero =>
    intro e he h1 J c x8 x9 hh hq
    have he : e = 9999 := by omega
    subst he
    have g1 : (9999 : Int32) ≤ nI 9999 := by decide
    simp only [e_X9_kinks_38, e_X9_kinks_40, e_X9_kinks_43, e_X9_kinks_91, e_X9_kinks_92, g1, true_and, and_true, rf_s, not_true_eq_false, not_false_eq_true, true_implies, false_implies, kl_i, kl_n, kl_l, kl_r, Option.toList, List.cons_append, List.nil_append, if_true, if_false, u2s, lt00, lt01, lt02, lt03, le10, le20, le30, ne10, ne20, ne30, eq00]
    exact hq J Sc.rf
  | succ n ih =>
    intro e he h1 J c x8 x9 hh hq
    have g1 : ¬ (9999 : Int32) ≤ nI e := nI_ge (a := e) (b := 9999) (by omega) (by decide)
    rw [KcF] at hq
    simp only [e_X9_kinks_38, e_X9_kinks_40, e_X9_kinks_43, e_X9_kinks_46, e_X9_kinks_47, e_X9_kinks_48, e_X9_kinks_50, e_X9_kinks_51, e_X9_kinks_52, hm, g1, nIp, true_and, and_true, rf_s, not_true_eq_false, not_false_eq_true, true_implies, false_implies, kl_i, kl_n, kl_l, kl_r, Option.toList, List.cons_append, List.nil_append, if_true, if_false, u2s, lt00, lt01, lt02, lt03, le10, le20, le30, ne10, ne20, ne30, eq00]
    refine s_taxAt (h := h) hm0 hg hh hc hp (fun J1 a1 _ => ?_)
    by_cases hf : flat (TxE g h nb nc nk p) e
    · rw [if_pos hf] at hq
      have hf' : (TxE g h nb nc nk p (e + 1) - TxE g h nb nc nk p e = TxE g h nb nc nk p e - TxE g h nb nc nk p (e - 1)) = True := eq_true hf.symm
      have z : nI c + 0 = nI c := by rw [show (0 : Int32) = nI 0 from rfl, nI_add, Nat.add_zero]
      simp only [e_X9_kinks_55, e_X9_kinks_57, e_X9_kinks_58, e_X9_kinks_60, e_X9_kinks_62, e_X9_kinks_63, e_X9_kinks_64, e_X9_kinks_65, e_X9_kinks_68, e_X9_kinks_69, e_X9_kinks_72, e_X9_kinks_73, e_X9_kinks_74, e_X9_kinks_75, e_X9_kinks_77, e_X9_kinks_79, e_X9_kinks_80, e_X9_kinks_81, e_X9_kinks_83, e_X9_kinks_85, e_X9_kinks_88, hm, lc_eq, hf', nIp, z, true_and, and_true, rf_s, not_true_eq_false, not_false_eq_true, true_implies, false_implies, kl_i, kl_n, kl_l, kl_r, Option.toList, List.cons_append, List.nil_append, if_true, if_false, u2s, lt00, lt01, lt02, lt03, le10, le20, le30, ne10, ne20, ne30, eq00]
      exact ih (e + 1) (by omega) (by omega) J1 _ _ _ (by rw [a1.h]; exact hh) (fun J' a2 => hq J' (a1.tr a2))
    · rw [if_neg hf] at hq
      have hf' : (TxE g h nb nc nk p (e + 1) - TxE g h nb nc nk p e = TxE g h nb nc nk p e - TxE g h nb nc nk p (e - 1)) = False := eq_false (fun z => hf z.symm)
      simp only [e_X9_kinks_55, e_X9_kinks_57, e_X9_kinks_58, e_X9_kinks_60, e_X9_kinks_62, e_X9_kinks_63, e_X9_kinks_64, e_X9_kinks_65, e_X9_kinks_68, e_X9_kinks_69, e_X9_kinks_72, e_X9_kinks_73, e_X9_kinks_74, e_X9_kinks_75, e_X9_kinks_77, e_X9_kinks_79, e_X9_kinks_80, e_X9_kinks_81, e_X9_kinks_83, e_X9_kinks_85, e_X9_kinks_88, hm, lc_eq, hf', nIp, true_and, and_true, rf_s, not_true_eq_false, not_false_eq_true, true_implies, false_implies, kl_i, kl_n, kl_l, kl_r, Option.toList, List.cons_append, List.nil_append, if_true, if_false, u2s, lt00, lt01, lt02, lt03, le10, le20, le30, ne10, ne20, ne30, eq00]
      exact ih (e + 1) (by omega) (by omega) J1 _ _ _ (by rw [a1.h]; exact hh) (fun J' a2 => hq J' (a1.tr a2))
theorem s_kinks_ok (hm : MdS S N P m) (hg : I (m + 1) = g) (hh : J (m + 2) = h) (hc : Cnt g nb nc nk) {p : Nat} (hp : p < 6)
    (hq : ∀ J', Sc m J J' → Q (some (.int (nI (KcF (TxE g h nb nc nk p) 9998 1 0)))) (u2 I m 8 0) J' P) : CWp S N (d + 6) MX9_kinks [.ref m, .int (nI p)] I J P Q := by
  rw [c_X9_kinks]
  have hm0 := hm
  unfold MdS at hm
  have hg2 : (u2 I m 8 0) (m + 1) = g := by rw [u2_off _ _ _ (by omega)]; exact hg
  simp only [e_X9_kinks_0, e_X9_kinks_1, e_X9_kinks_2, e_X9_kinks_5, e_X9_kinks_6, e_X9_kinks_9, e_X9_kinks_12, e_X9_kinks_13, e_X9_kinks_14, e_X9_kinks_17, e_X9_kinks_18, e_X9_kinks_19, e_X9_kinks_20, e_X9_kinks_21, e_X9_kinks_22, e_X9_kinks_23, hm, s_isPerson, good6 hp, ne10, true_and, and_true, rf_s, not_true_eq_false, not_false_eq_true, true_implies, false_implies, kl_i, kl_n, kl_l, kl_r, Option.toList, List.cons_append, List.nil_append, if_true, if_false, u2s, lt00, lt01, lt02, lt03, le10, le20, le30, ne10, ne20, ne30, eq00]
  refine s_marginal (h := h) (e := 0) hm0 hg2 hh hc hp (fun J1 a1 => ?_)
  simp only [e_X9_kinks_26, e_X9_kinks_27, e_X9_kinks_28, e_X9_kinks_29, e_X9_kinks_30, hm, true_and, and_true, rf_s, not_true_eq_false, not_false_eq_true, true_implies, false_implies, kl_i, kl_n, kl_l, kl_r, Option.toList, List.cons_append, List.nil_append, if_true, if_false, u2s, lt00, lt01, lt02, lt03, le10, le20, le30, ne10, ne20, ne30, eq00]
  refine s_taxAt (h := h) (e := 1) hm0 hg2 (by rw [a1.h]; exact hh) hc hp (fun J2 a2 _ => ?_)
  simp only [e_X9_kinks_33, e_X9_kinks_35, e_X9_kinks_36, hm, true_and, and_true, rf_s, not_true_eq_false, not_false_eq_true, true_implies, false_implies, kl_i, kl_n, kl_l, kl_r, Option.toList, List.cons_append, List.nil_append, if_true, if_false, u2s, lt00, lt01, lt02, lt03, le10, le20, le30, ne10, ne20, ne30, eq00]
  exact kk_loop (d := d + 1) (h := h) hm0 hg2 hc hp 9998 1 rfl (by decide) J2 0 _ _ (by rw [a2.h, a1.h]; exact hh) (fun J' a3 => hq J' ((a1.tr a2).tr a3))
theorem s_steepest_bad (hm : MdS S N P m) {v : Int32} (hv : v < 0 ∨ nI 6 ≤ v) : CWp S N (d + 2) MX9_steepest [.ref m, .int v] I J P Q ↔ Q (some (.int 0)) (u2 (u2 I m 8 0) m 8 1) J P := by
  rw [c_X9_steepest]
  have hm0 := hm
  unfold MdS at hm
  simp only [e_X9_steepest_0, e_X9_steepest_1, e_X9_steepest_2, e_X9_steepest_5, e_X9_steepest_6, e_X9_steepest_9, e_X9_steepest_12, e_X9_steepest_13, e_X9_steepest_14, e_X9_steepest_17, s_isPerson, bad6 hv, s_fails hm0, hm, true_and, and_true, rf_s, not_true_eq_false, not_false_eq_true, true_implies, false_implies, kl_i, kl_n, kl_l, kl_r, Option.toList, List.cons_append, List.nil_append, if_true, if_false, u2s, lt00, lt01, lt02, lt03, le10, le20, le30, ne10, ne20, ne30, eq00]
theorem st_loop (hm : MdS S N P m) (hg : I (m + 1) = g) (hc : Cnt g nb nc nk) {p : Nat} (hp : p < 6) : ∀ (n e : Nat), e + n = 9999 → ∀ (J : JM) (b : Nat) (v : Int64) (x8 x9 : Option Value), J (m + 2) = h → (∀ J', Sc m J J' → Q (some (.int (nI (StF (TxE g h nb nc nk p) n e b v)))) I J' P) →
    Wp S N (d + 5) MX9_steepest 38 [some (.ref m), some (.int (nI p)), some (.int (nI b)), some (.long v), none, some (.long (TxE g h nb nc nk p e)), none, some (.int (nI e)), x8, x9] [] I J P Q := by
  have hm0 := hm
  unfold MdS at hm
  intro n
  induction n with
  | zero =>
    intro e he J b v x8 x9 hh hq
    have he : e = 9999 := by omega
    subst he
    have g1 : (9999 : Int32) ≤ nI 9999 := by decide
    simp only [e_X9_steepest_38, e_X9_steepest_40, e_X9_steepest_43, e_X9_steepest_86, e_X9_steepest_87, g1, true_and, and_true, rf_s, not_true_eq_false, not_false_eq_true, true_implies, false_implies, kl_i, kl_n, kl_l, kl_r, Option.toList, List.cons_append, List.nil_append, if_true, if_false, u2s, lt00, lt01, lt02, lt03, le10, le20, le30, ne10, ne20, ne30, eq00]
    exact hq J Sc.rf
  | succ n ih =>
    intro e he J b v x8 x9 hh hq
    have g1 : ¬ (9999 : Int32) ≤ nI e := nI_ge (a := e) (b := 9999) (by omega) (by decide)
    rw [StF] at hq
    simp only [e_X9_steepest_38, e_X9_steepest_40, e_X9_steepest_43, e_X9_steepest_46, e_X9_steepest_47, e_X9_steepest_48, e_X9_steepest_50, e_X9_steepest_51, e_X9_steepest_52, hm, g1, nIp, true_and, and_true, rf_s, not_true_eq_false, not_false_eq_true, true_implies, false_implies, kl_i, kl_n, kl_l, kl_r, Option.toList, List.cons_append, List.nil_append, if_true, if_false, u2s, lt00, lt01, lt02, lt03, le10, le20, le30, ne10, ne20, ne30, eq00]
    refine s_taxAt (h := h) hm0 hg hh hc hp (fun J1 a1 _ => ?_)
    by_cases hf : v < TxE g h nb nc nk p (e + 1) - TxE g h nb nc nk p e
    · rw [if_pos hf] at hq
      have hf' := eq_true hf
      simp only [e_X9_steepest_55, e_X9_steepest_57, e_X9_steepest_59, e_X9_steepest_61, e_X9_steepest_62, e_X9_steepest_63, e_X9_steepest_64, e_X9_steepest_67, e_X9_steepest_69, e_X9_steepest_71, e_X9_steepest_72, e_X9_steepest_73, e_X9_steepest_75, e_X9_steepest_76, e_X9_steepest_78, e_X9_steepest_80, e_X9_steepest_83, hm, lc_le, hf', nIp, true_and, and_true, rf_s, not_true_eq_false, not_false_eq_true, true_implies, false_implies, kl_i, kl_n, kl_l, kl_r, Option.toList, List.cons_append, List.nil_append, if_true, if_false, u2s, lt00, lt01, lt02, lt03, le10, le20, le30, ne10, ne20, ne30, eq00]
      exact ih (e + 1) (by omega) J1 _ _ _ _ (by rw [a1.h]; exact hh) (fun J' a2 => hq J' (a1.tr a2))
    · rw [if_neg hf] at hq
      have hf' := eq_false hf
      simp only [e_X9_steepest_55, e_X9_steepest_57, e_X9_steepest_59, e_X9_steepest_61, e_X9_steepest_62, e_X9_steepest_63, e_X9_steepest_64, e_X9_steepest_67, e_X9_steepest_69, e_X9_steepest_71, e_X9_steepest_72, e_X9_steepest_73, e_X9_steepest_75, e_X9_steepest_76, e_X9_steepest_78, e_X9_steepest_80, e_X9_steepest_83, hm, lc_le, hf', nIp, true_and, and_true, rf_s, not_true_eq_false, not_false_eq_true, true_implies, false_implies, kl_i, kl_n, kl_l, kl_r, Option.toList, List.cons_append, List.nil_append, if_true, if_false, u2s, lt00, lt01, lt02, lt03, le10, le20, le30, ne10, ne20, ne30, eq00]
      exact ih (e + 1) (by omega) J1 _ _ _ _ (by rw [a1.h]; exact hh) (fun J' a2 => hq J' (a1.tr a2))
theorem s_steepest_ok (hm : MdS S N P m) (hg : I (m + 1) = g) (hh : J (m + 2) = h) (hc : Cnt g nb nc nk) {p : Nat} (hp : p < 6)
    (hq : ∀ J', Sc m J J' → Q (some (.int (nI (StF (TxE g h nb nc nk p) 9998 1 0 (TxE g h nb nc nk p 1 - TxE g h nb nc nk p 0))))) (u2 I m 8 0) J' P) : CWp S N (d + 6) MX9_steepest [.ref m, .int (nI p)] I J P Q := by
  rw [c_X9_steepest]
  have hm0 := hm
  unfold MdS at hm
  have hg2 : (u2 I m 8 0) (m + 1) = g := by rw [u2_off _ _ _ (by omega)]; exact hg
  simp only [e_X9_steepest_0, e_X9_steepest_1, e_X9_steepest_2, e_X9_steepest_5, e_X9_steepest_6, e_X9_steepest_9, e_X9_steepest_12, e_X9_steepest_13, e_X9_steepest_14, e_X9_steepest_17, e_X9_steepest_18, e_X9_steepest_19, e_X9_steepest_20, e_X9_steepest_21, e_X9_steepest_22, e_X9_steepest_23, hm, s_isPerson, good6 hp, ne10, true_and, and_true, rf_s, not_true_eq_false, not_false_eq_true, true_implies, false_implies, kl_i, kl_n, kl_l, kl_r, Option.toList, List.cons_append, List.nil_append, if_true, if_false, u2s, lt00, lt01, lt02, lt03, le10, le20, le30, ne10, ne20, ne30, eq00]
  refine s_marginal (h := h) (e := 0) hm0 hg2 hh hc hp (fun J1 a1 => ?_)
  simp only [e_X9_steepest_26, e_X9_steepest_27, e_X9_steepest_28, e_X9_steepest_29, e_X9_steepest_30, hm, true_and, and_true, rf_s, not_true_eq_false, not_false_eq_true, true_implies, false_implies, kl_i, kl_n, kl_l, kl_r, Option.toList, List.cons_append, List.nil_append, if_true, if_false, u2s, lt00, lt01, lt02, lt03, le10, le20, le30, ne10, ne20, ne30, eq00]
  refine s_taxAt (h := h) (e := 1) hm0 hg2 (by rw [a1.h]; exact hh) hc hp (fun J2 a2 _ => ?_)
  simp only [e_X9_steepest_33, e_X9_steepest_35, e_X9_steepest_36, hm, true_and, and_true, rf_s, not_true_eq_false, not_false_eq_true, true_implies, false_implies, kl_i, kl_n, kl_l, kl_r, Option.toList, List.cons_append, List.nil_append, if_true, if_false, u2s, lt00, lt01, lt02, lt03, le10, le20, le30, ne10, ne20, ne30, eq00]
  exact st_loop (d := d + 1) (h := h) hm0 hg2 hc hp 9998 1 rfl J2 0 _ _ _ (by rw [a2.h, a1.h]; exact hh) (fun J' a3 => hq J' ((a1.tr a2).tr a3))
theorem s_nextKink_bad (hm : MdS S N P m) {v e : Int32} (hv : v < 0 ∨ nI 6 ≤ v) : CWp S N (d + 2) MX9_nextKink [.ref m, .int v, .int e] I J P Q ↔ Q (some (.int 0)) (u2 (u2 I m 8 0) m 8 1) J P := by
  rw [c_X9_nextKink]
  have hm0 := hm
  unfold MdS at hm
  simp only [e_X9_nextKink_0, e_X9_nextKink_1, e_X9_nextKink_2, e_X9_nextKink_5, e_X9_nextKink_6, e_X9_nextKink_9, e_X9_nextKink_12, e_X9_nextKink_13, e_X9_nextKink_14, e_X9_nextKink_17, s_isPerson, bad6 hv, s_fails hm0, hm, true_and, and_true, rf_s, not_true_eq_false, not_false_eq_true, true_implies, false_implies, kl_i, kl_n, kl_l, kl_r, Option.toList, List.cons_append, List.nil_append, if_true, if_false, u2s, lt00, lt01, lt02, lt03, le10, le20, le30, ne10, ne20, ne30, eq00]
theorem nk_loop (hm : MdS S N P m) (hg : I (m + 1) = g) (hc : Cnt g nb nc nk) {p : Nat} (hp : p < 6) {v : Int32} : ∀ (n e : Nat), e + n = 9999 → 1 ≤ e → ∀ (J : JM), J (m + 2) = h →
    (∀ J' k, NkF (TxE g h nb nc nk p) n e = some k → Sc m J J' → Q (some (.int (nI k))) I J' P) → (∀ J', NkF (TxE g h nb nc nk p) n e = none → Sc m J J' → Q (some (.int 0)) (u2 I m 8 2) J' P) →
    Wp S N (d + 7) MX9_nextKink 44 [some (.ref m), some (.int (nI p)), some (.int v), some (.int (nI e))] [] I J P Q := by
  have hm0 := hm
  unfold MdS at hm
  intro n
  induction n with
  | zero =>
    intro e he h1 J hh hq1 hq2
    have he : e = 9999 := by omega
    subst he
    have g1 : (9999 : Int32) ≤ nI 9999 := by decide
    simp only [e_X9_nextKink_44, e_X9_nextKink_45, e_X9_nextKink_48, e_X9_nextKink_68, e_X9_nextKink_69, e_X9_nextKink_70, e_X9_nextKink_73, s_fails hm0, hm, g1, true_and, and_true, rf_s, not_true_eq_false, not_false_eq_true, true_implies, false_implies, kl_i, kl_n, kl_l, kl_r, Option.toList, List.cons_append, List.nil_append, if_true, if_false, u2s, lt00, lt01, lt02, lt03, le10, le20, le30, ne10, ne20, ne30, eq00]
    exact hq2 J rfl Sc.rf
  | succ n ih =>
    intro e he h1 J hh hq1 hq2
    have g1 : ¬ (9999 : Int32) ≤ nI e := nI_ge (a := e) (b := 9999) (by omega) (by decide)
    rw [NkF] at hq1 hq2
    simp only [e_X9_nextKink_44, e_X9_nextKink_45, e_X9_nextKink_48, e_X9_nextKink_51, e_X9_nextKink_52, e_X9_nextKink_53, e_X9_nextKink_54, hm, g1, true_and, and_true, rf_s, not_true_eq_false, not_false_eq_true, true_implies, false_implies, kl_i, kl_n, kl_l, kl_r, Option.toList, List.cons_append, List.nil_append, if_true, if_false, u2s, lt00, lt01, lt02, lt03, le10, le20, le30, ne10, ne20, ne30, eq00]
    refine s_isKink_in (h := h) hm0 hg hh hc hp h1 (by omega) (fun J1 a1 => ?_)
    by_cases hf : flat (TxE g h nb nc nk p) e
    · rw [if_pos hf] at hq1 hq2
      rw [if_pos hf]
      simp only [e_X9_nextKink_57, e_X9_nextKink_60, e_X9_nextKink_61, e_X9_nextKink_62, e_X9_nextKink_65, nIp, true_and, and_true, rf_s, not_true_eq_false, not_false_eq_true, true_implies, false_implies, kl_i, kl_n, kl_l, kl_r, Option.toList, List.cons_append, List.nil_append, if_true, if_false, u2s, lt00, lt01, lt02, lt03, le10, le20, le30, ne10, ne20, ne30, eq00]
      exact ih (e + 1) (by omega) (by omega) J1 (by rw [a1.h]; exact hh) (fun J' k hk a2 => hq1 J' k hk (a1.tr a2)) (fun J' hk a2 => hq2 J' hk (a1.tr a2))
    · rw [if_neg hf] at hq1 hq2
      rw [if_neg hf]
      simp only [e_X9_nextKink_57, e_X9_nextKink_60, e_X9_nextKink_61, ne10, true_and, and_true, rf_s, not_true_eq_false, not_false_eq_true, true_implies, false_implies, kl_i, kl_n, kl_l, kl_r, Option.toList, List.cons_append, List.nil_append, if_true, if_false, u2s, lt00, lt01, lt02, lt03, le10, le20, le30, ne10, ne20, ne30, eq00]
      exact hq1 J1 e rfl a1
/-- where the search for the next kink begins -/
def NkS (v : Int32) (e : Nat) : Prop := (v < 1 ∧ e = 1) ∨ (∃ k, v = nI k ∧ 1 ≤ k ∧ k < 9998 ∧ e = k + 1) ∨ (9998 ≤ v ∧ e = 9999)
theorem NkS.le {v : Int32} {e : Nat} (hs : NkS v e) : 1 ≤ e ∧ e ≤ 9999 := by
  rcases hs with ⟨h1, rfl⟩ | ⟨k, rfl, h1, h2, rfl⟩ | ⟨h1, rfl⟩
  · decide
  · omega
  · decide
theorem s_nextKink_ok (hm : MdS S N P m) (hg : I (m + 1) = g) (hh : J (m + 2) = h) (hc : Cnt g nb nc nk) {p : Nat} (hp : p < 6) {v : Int32} {e : Nat} (hs : NkS v e)
    (hq1 : ∀ J' k, NkF (TxE g h nb nc nk p) (9999 - e) e = some k → Sc m J J' → Q (some (.int (nI k))) (u2 I m 8 0) J' P) (hq2 : ∀ J', NkF (TxE g h nb nc nk p) (9999 - e) e = none → Sc m J J' → Q (some (.int 0)) (u2 (u2 I m 8 0) m 8 2) J' P) : CWp S N (d + 7) MX9_nextKink [.ref m, .int (nI p), .int v] I J P Q := by
  rw [c_X9_nextKink]
  have hm0 := hm
  unfold MdS at hm
  have hg2 : (u2 I m 8 0) (m + 1) = g := by rw [u2_off _ _ _ (by omega)]; exact hg
  have hle := hs.le
  have fin := nk_loop (S := S) (N := N) (d := d) (P := P) (Q := Q) (h := h) hm0 hg2 hc hp (v := v) (9999 - e) e (by omega) hle.1 J hh hq1 hq2
  rcases hs with ⟨h1, rfl⟩ | ⟨k, rfl, h1, h2, rfl⟩ | ⟨h1, rfl⟩
  · have h1' : (1 ≤ v) = False := eq_false (Int32.not_le.mpr h1)
    simp only [e_X9_nextKink_0, e_X9_nextKink_1, e_X9_nextKink_2, e_X9_nextKink_5, e_X9_nextKink_6, e_X9_nextKink_9, e_X9_nextKink_12, e_X9_nextKink_13, e_X9_nextKink_14, e_X9_nextKink_17, e_X9_nextKink_18, e_X9_nextKink_19, e_X9_nextKink_20, e_X9_nextKink_23, e_X9_nextKink_24, e_X9_nextKink_27, e_X9_nextKink_28, e_X9_nextKink_31, e_X9_nextKink_34, e_X9_nextKink_35, e_X9_nextKink_36, e_X9_nextKink_37, e_X9_nextKink_40, e_X9_nextKink_43, hm, s_isPerson, good6 hp, ne10, h1', true_and, and_true, rf_s, not_true_eq_false, not_false_eq_true, true_implies, false_implies, kl_i, kl_n, kl_l, kl_r, Option.toList, List.cons_append, List.nil_append, if_true, if_false, u2s, lt00, lt01, lt02, lt03, le10, le20, le30, ne10, ne20, ne30, eq00]
    exact fin
  · have h1' : (1 ≤ nI k) = True := eq_true (nI_le (a := 1) h1 (by omega))
    have h2' : (9998 ≤ nI k) = False := eq_false (nI_ge (b := 9998) h2 (by decide))
    simp only [e_X9_nextKink_0, e_X9_nextKink_1, e_X9_nextKink_2, e_X9_nextKink_5, e_X9_nextKink_6, e_X9_nextKink_9, e_X9_nextKink_12, e_X9_nextKink_13, e_X9_nextKink_14, e_X9_nextKink_17, e_X9_nextKink_18, e_X9_nextKink_19, e_X9_nextKink_20, e_X9_nextKink_23, e_X9_nextKink_24, e_X9_nextKink_27, e_X9_nextKink_28, e_X9_nextKink_31, e_X9_nextKink_34, e_X9_nextKink_35, e_X9_nextKink_36, e_X9_nextKink_37, e_X9_nextKink_40, e_X9_nextKink_43, hm, s_isPerson, good6 hp, ne10, h1', h2', nIp, true_and, and_true, rf_s, not_true_eq_false, not_false_eq_true, true_implies, false_implies, kl_i, kl_n, kl_l, kl_r, Option.toList, List.cons_append, List.nil_append, if_true, if_false, u2s, lt00, lt01, lt02, lt03, le10, le20, le30, ne10, ne20, ne30, eq00]
    exact fin
  · have h1' : (1 ≤ v) = True := eq_true (Int32.le_trans (by decide) h1)
    have h2' : (9998 ≤ v) = True := eq_true h1
    simp only [e_X9_nextKink_0, e_X9_nextKink_1, e_X9_nextKink_2, e_X9_nextKink_5, e_X9_nextKink_6, e_X9_nextKink_9, e_X9_nextKink_12, e_X9_nextKink_13, e_X9_nextKink_14, e_X9_nextKink_17, e_X9_nextKink_18, e_X9_nextKink_19, e_X9_nextKink_20, e_X9_nextKink_23, e_X9_nextKink_24, e_X9_nextKink_27, e_X9_nextKink_28, e_X9_nextKink_31, e_X9_nextKink_34, e_X9_nextKink_35, e_X9_nextKink_36, e_X9_nextKink_37, e_X9_nextKink_40, e_X9_nextKink_43, hm, s_isPerson, good6 hp, ne10, h1', h2', nIp, true_and, and_true, rf_s, not_true_eq_false, not_false_eq_true, true_implies, false_implies, kl_i, kl_n, kl_l, kl_r, Option.toList, List.cons_append, List.nil_append, if_true, if_false, u2s, lt00, lt01, lt02, lt03, le10, le20, le30, ne10, ne20, ne30, eq00]
    exact fin
theorem s_partAt (hm : MdS S N P m) (hg : I (m + 1) = g) (hh : J (m + 2) = h) (hc : Cnt g nb nc nk) {p e j : Nat} (hp : p < 6) (hj : j < 4 + nk)
    (hq : ∀ J', Sc m J J' → Q (some (.long (PvF g h nb nc p j e))) I J' P) : CWp S N (d + 5) MX9_partAt [.ref m, .int (nI p), .int (nI e), .int (nI j)] I J P Q := by
  rw [c_X9_partAt]
  have hm0 := hm
  unfold MdS at hm
  have h6 := hc.2.2.1
  simp only [e_X9_partAt_0, e_X9_partAt_1, e_X9_partAt_2, e_X9_partAt_3, hm, true_and, and_true, rf_s, not_true_eq_false, not_false_eq_true, true_implies, false_implies, kl_i, kl_n, kl_l, kl_r, Option.toList, List.cons_append, List.nil_append, if_true, if_false, u2s, lt00, lt01, lt02, lt03, le10, le20, le30, ne10, ne20, ne30, eq00]
  refine s_taxAt (h := h) hm0 hg hh hc hp (fun J1 a1 a2 => ?_)
  have h9 := hq J1 a1
  unfold PvF at h9
  by_cases h4 : j < 4
  · have g1 : ¬ (4 : Int32) ≤ nI j := nI_ge (b := 4) h4 (by decide)
    have q1 : nI j + 2 = nI (j + 2) := by rw [show (2 : Int32) = nI 2 from rfl, nI_add]
    have v : J1 (m + 9) (j + 2) = (if j < 3 then TpF g nb nc (nI e + g (65 + 3 * p)) 1 (j + 2) else TxE g h nb nc (j - 3) p e) := by
      rw [a2.part (show j + 2 < 6 by omega)]
      by_cases h3 : j < 3
      · rw [if_pos h3]
      · have : j = 3 := by omega
        subst this
        rfl
    rw [← v] at h9
    simp only [e_X9_partAt_6, e_X9_partAt_7, e_X9_partAt_8, e_X9_partAt_9, e_X9_partAt_12, e_X9_partAt_13, e_X9_partAt_16, e_X9_partAt_17, e_X9_partAt_18, e_X9_partAt_19, e_X9_partAt_20, e_X9_partAt_23, e_X9_partAt_24, e_X9_partAt_27, e_X9_partAt_28, e_X9_partAt_29, e_X9_partAt_30, e_X9_partAt_31, hm, g1, q1, nI_clamp (show j + 2 < 2 ^ 31 by omega), vpn (show j + 2 < 6 by omega) (by decide), true_and, and_true, rf_s, not_true_eq_false, not_false_eq_true, true_implies, false_implies, kl_i, kl_n, kl_l, kl_r, Option.toList, List.cons_append, List.nil_append, if_true, if_false, u2s, lt00, lt01, lt02, lt03, le10, le20, le30, ne10, ne20, ne30, eq00]
    exact h9
  · have g1 : (4 : Int32) ≤ nI j := nI_le (a := 4) (by omega) (by omega)
    have q1 : nI j - 4 = nI (j - 4) := by rw [show (4 : Int32) = nI 4 from rfl, pk_sub (by omega)]
    have v : J1 (m + 13) (j - 4) = (if j < 3 then TpF g nb nc (nI e + g (65 + 3 * p)) 1 (j + 2) else TxE g h nb nc (j - 3) p e) := by
      rw [if_neg (by omega), (a2.2.2 (j - 4) (by omega)).2.2, show j - 4 + 1 = j - 3 by omega]
      rfl
    rw [← v] at h9
    simp only [e_X9_partAt_6, e_X9_partAt_7, e_X9_partAt_8, e_X9_partAt_9, e_X9_partAt_12, e_X9_partAt_13, e_X9_partAt_16, e_X9_partAt_17, e_X9_partAt_18, e_X9_partAt_19, e_X9_partAt_20, e_X9_partAt_23, e_X9_partAt_24, e_X9_partAt_27, e_X9_partAt_28, e_X9_partAt_29, e_X9_partAt_30, e_X9_partAt_31, hm, g1, q1, nI_clamp (show j - 4 < 2 ^ 31 by omega), vpn (show j - 4 < 6 by omega) (by decide), true_and, and_true, rf_s, not_true_eq_false, not_false_eq_true, true_implies, false_implies, kl_i, kl_n, kl_l, kl_r, Option.toList, List.cons_append, List.nil_append, if_true, if_false, u2s, lt00, lt01, lt02, lt03, le10, le20, le30, ne10, ne20, ne30, eq00]
    exact h9
theorem kc_loop (hm : MdS S N P m) (hg : I (m + 1) = g) (hc : Cnt g nb nc nk) {p e : Nat} (hp : p < 6) (he : 1 ≤ e) (hk : ¬ flat (TxE g h nb nc nk p) e) : ∀ (n j : Nat), j + n = 3 + nk → ∀ (J : JM), J (m + 2) = h → (∀ J', Sc m J J' → Q (some (.int (nI (CcF (PvF g h nb nc p) e n j)))) I J' P) →
    Wp S N (d + 6) MX9_kinkCause 40 [some (.ref m), some (.int (nI p)), some (.int (nI e)), some (.int (nI j))] [] I J P Q := by
  have hm0 := hm
  unfold MdS at hm
  obtain ⟨e, rfl⟩ : ∃ e', e = e' + 1 := ⟨e - 1, by omega⟩
  intro n
  induction n with
  | zero =>
    intro j hj J hh hq
    have hj : j = 3 + nk := by omega
    subst hj
    simp only [e_X9_kinkCause_40, e_X9_kinkCause_41, e_X9_kinkCause_42, e_X9_kinkCause_43, e_X9_kinkCause_44, hm, true_and, and_true, rf_s, not_true_eq_false, not_false_eq_true, true_implies, false_implies, kl_i, kl_n, kl_l, kl_r, Option.toList, List.cons_append, List.nil_append, if_true, if_false, u2s, lt00, lt01, lt02, lt03, le10, le20, le30, ne10, ne20, ne30, eq00]
    refine s_partAt (h := h) hm0 hg hh hc hp (by omega) (fun J1 a1 => ?_)
    simp only [e_X9_kinkCause_47, e_X9_kinkCause_48, e_X9_kinkCause_49, e_X9_kinkCause_50, e_X9_kinkCause_51, e_X9_kinkCause_52, e_X9_kinkCause_53, hm, nI_pred, true_and, and_true, rf_s, not_true_eq_false, not_false_eq_true, true_implies, false_implies, kl_i, kl_n, kl_l, kl_r, Option.toList, List.cons_append, List.nil_append, if_true, if_false, u2s, lt00, lt01, lt02, lt03, le10, le20, le30, ne10, ne20, ne30, eq00]
    refine s_partAt (h := h) hm0 hg (by rw [a1.h]; exact hh) hc hp (by omega) (fun J2 a2 => ?_)
    simp only [e_X9_kinkCause_56, e_X9_kinkCause_57, e_X9_kinkCause_58, e_X9_kinkCause_59, e_X9_kinkCause_60, e_X9_kinkCause_61, e_X9_kinkCause_62, e_X9_kinkCause_63, hm, nIp, true_and, and_true, rf_s, not_true_eq_false, not_false_eq_true, true_implies, false_implies, kl_i, kl_n, kl_l, kl_r, Option.toList, List.cons_append, List.nil_append, if_true, if_false, u2s, lt00, lt01, lt02, lt03, le10, le20, le30, ne10, ne20, ne30, eq00]
    refine s_partAt (h := h) hm0 hg (by rw [a2.h, a1.h]; exact hh) hc hp (by omega) (fun J3 a3 => ?_)
    simp only [e_X9_kinkCause_66, e_X9_kinkCause_67, e_X9_kinkCause_68, e_X9_kinkCause_69, e_X9_kinkCause_70, hm, true_and, and_true, rf_s, not_true_eq_false, not_false_eq_true, true_implies, false_implies, kl_i, kl_n, kl_l, kl_r, Option.toList, List.cons_append, List.nil_append, if_true, if_false, u2s, lt00, lt01, lt02, lt03, le10, le20, le30, ne10, ne20, ne30, eq00]
    refine s_partAt (h := h) hm0 hg (by rw [a3.h, a2.h, a1.h]; exact hh) hc hp (by omega) (fun J4 a4 => ?_)
    have hpv : ∀ x, PvF g h nb nc p (3 + nk) x = TxE g h nb nc nk p x := fun x => by unfold PvF; rw [if_neg (by omega), show 3 + nk - 3 = nk by omega]
    have hf' : (TxE g h nb nc nk p (e + 1) - TxE g h nb nc nk p e = TxE g h nb nc nk p (e + 1 + 1) - TxE g h nb nc nk p (e + 1)) = False := eq_false hk
    simp only [e_X9_kinkCause_73, e_X9_kinkCause_74, e_X9_kinkCause_75, e_X9_kinkCause_84, e_X9_kinkCause_85, hpv, lc_eq, hf', true_and, and_true, rf_s, not_true_eq_false, not_false_eq_true, true_implies, false_implies, kl_i, kl_n, kl_l, kl_r, Option.toList, List.cons_append, List.nil_append, if_true, if_false, u2s, lt00, lt01, lt02, lt03, le10, le20, le30, ne10, ne20, ne30, eq00]
    exact hq J4 (((a1.tr a2).tr a3).tr a4)
  | succ n ih =>
    intro j hj J hh hq
    rw [CcF] at hq
    simp only [e_X9_kinkCause_40, e_X9_kinkCause_41, e_X9_kinkCause_42, e_X9_kinkCause_43, e_X9_kinkCause_44, hm, true_and, and_true, rf_s, not_true_eq_false, not_false_eq_true, true_implies, false_implies, kl_i, kl_n, kl_l, kl_r, Option.toList, List.cons_append, List.nil_append, if_true, if_false, u2s, lt00, lt01, lt02, lt03, le10, le20, le30, ne10, ne20, ne30, eq00]
    refine s_partAt (h := h) hm0 hg hh hc hp (by omega) (fun J1 a1 => ?_)
    simp only [e_X9_kinkCause_47, e_X9_kinkCause_48, e_X9_kinkCause_49, e_X9_kinkCause_50, e_X9_kinkCause_51, e_X9_kinkCause_52, e_X9_kinkCause_53, hm, nI_pred, true_and, and_true, rf_s, not_true_eq_false, not_false_eq_true, true_implies, false_implies, kl_i, kl_n, kl_l, kl_r, Option.toList, List.cons_append, List.nil_append, if_true, if_false, u2s, lt00, lt01, lt02, lt03, le10, le20, le30, ne10, ne20, ne30, eq00]
    refine s_partAt (h := h) hm0 hg (by rw [a1.h]; exact hh) hc hp (by omega) (fun J2 a2 => ?_)
    simp only [e_X9_kinkCause_56, e_X9_kinkCause_57, e_X9_kinkCause_58, e_X9_kinkCause_59, e_X9_kinkCause_60, e_X9_kinkCause_61, e_X9_kinkCause_62, e_X9_kinkCause_63, hm, nIp, true_and, and_true, rf_s, not_true_eq_false, not_false_eq_true, true_implies, false_implies, kl_i, kl_n, kl_l, kl_r, Option.toList, List.cons_append, List.nil_append, if_true, if_false, u2s, lt00, lt01, lt02, lt03, le10, le20, le30, ne10, ne20, ne30, eq00]
    refine s_partAt (h := h) hm0 hg (by rw [a2.h, a1.h]; exact hh) hc hp (by omega) (fun J3 a3 => ?_)
    simp only [e_X9_kinkCause_66, e_X9_kinkCause_67, e_X9_kinkCause_68, e_X9_kinkCause_69, e_X9_kinkCause_70, hm, true_and, and_true, rf_s, not_true_eq_false, not_false_eq_true, true_implies, false_implies, kl_i, kl_n, kl_l, kl_r, Option.toList, List.cons_append, List.nil_append, if_true, if_false, u2s, lt00, lt01, lt02, lt03, le10, le20, le30, ne10, ne20, ne30, eq00]
    refine s_partAt (h := h) hm0 hg (by rw [a3.h, a2.h, a1.h]; exact hh) hc hp (by omega) (fun J4 a4 => ?_)
    by_cases hf : flat (PvF g h nb nc p j) (e + 1)
    · rw [if_pos hf] at hq
      have hf' : (PvF g h nb nc p j (e + 1) - PvF g h nb nc p j e = PvF g h nb nc p j (e + 1 + 1) - PvF g h nb nc p j (e + 1)) = True := eq_true hf
      simp only [e_X9_kinkCause_73, e_X9_kinkCause_74, e_X9_kinkCause_75, e_X9_kinkCause_78, e_X9_kinkCause_81, lc_eq, hf', nIp, true_and, and_true, rf_s, not_true_eq_false, not_false_eq_true, true_implies, false_implies, kl_i, kl_n, kl_l, kl_r, Option.toList, List.cons_append, List.nil_append, if_true, if_false, u2s, lt00, lt01, lt02, lt03, le10, le20, le30, ne10, ne20, ne30, eq00]
      exact ih (j + 1) (by omega) J4 (by rw [a4.h, a3.h, a2.h, a1.h]; exact hh) (fun J' a5 => hq J' ((((a1.tr a2).tr a3).tr a4).tr a5))
    · rw [if_neg hf] at hq
      have hf' : (PvF g h nb nc p j (e + 1) - PvF g h nb nc p j e = PvF g h nb nc p j (e + 1 + 1) - PvF g h nb nc p j (e + 1)) = False := eq_false hf
      simp only [e_X9_kinkCause_73, e_X9_kinkCause_74, e_X9_kinkCause_75, e_X9_kinkCause_84, e_X9_kinkCause_85, lc_eq, hf', true_and, and_true, rf_s, not_true_eq_false, not_false_eq_true, true_implies, false_implies, kl_i, kl_n, kl_l, kl_r, Option.toList, List.cons_append, List.nil_append, if_true, if_false, u2s, lt00, lt01, lt02, lt03, le10, le20, le30, ne10, ne20, ne30, eq00]
      exact hq J4 (((a1.tr a2).tr a3).tr a4)
theorem s_kinkCause_bad (hm : MdS S N P m) {v e : Int32} (hv : v < 0 ∨ nI 6 ≤ v) : CWp S N (d + 2) MX9_kinkCause [.ref m, .int v, .int e] I J P Q ↔ Q (some (.int 0)) (u2 I m 8 1) J P := by
  rw [c_X9_kinkCause]
  have hm0 := hm
  unfold MdS at hm
  simp only [e_X9_kinkCause_0, e_X9_kinkCause_1, e_X9_kinkCause_2, e_X9_kinkCause_5, e_X9_kinkCause_8, e_X9_kinkCause_9, e_X9_kinkCause_12, e_X9_kinkCause_13, e_X9_kinkCause_14, e_X9_kinkCause_15, e_X9_kinkCause_18, e_X9_kinkCause_21, e_X9_kinkCause_22, e_X9_kinkCause_25, e_X9_kinkCause_26, e_X9_kinkCause_29, e_X9_kinkCause_30, e_X9_kinkCause_33, e_X9_kinkCause_36, e_X9_kinkCause_37, s_isPerson, bad6 hv, hm, ne10, true_and, and_true, rf_s, not_true_eq_false, not_false_eq_true, true_implies, false_implies, kl_i, kl_n, kl_l, kl_r, Option.toList, List.cons_append, List.nil_append, if_true, if_false, u2s, lt00, lt01, lt02, lt03, le10, le20, le30, ne10, ne20, ne30, eq00]
theorem s_kinkCause_out (hm : MdS S N P m) {p : Nat} {e : Int32} (hp : p < 6) (he : ¬ (1 ≤ e ∧ e ≤ 9998)) : CWp S N (d + 2) MX9_kinkCause [.ref m, .int (nI p), .int e] I J P Q ↔ Q (some (.int 0)) (u2 I m 8 2) J P := by
  rw [c_X9_kinkCause]
  have hm0 := hm
  unfold MdS at hm
  simp only [e_X9_kinkCause_0, e_X9_kinkCause_1, e_X9_kinkCause_2, e_X9_kinkCause_5, e_X9_kinkCause_8, e_X9_kinkCause_9, e_X9_kinkCause_12, e_X9_kinkCause_13, e_X9_kinkCause_14, e_X9_kinkCause_15, e_X9_kinkCause_18, e_X9_kinkCause_21, e_X9_kinkCause_22, e_X9_kinkCause_25, e_X9_kinkCause_26, e_X9_kinkCause_29, e_X9_kinkCause_30, e_X9_kinkCause_33, e_X9_kinkCause_36, e_X9_kinkCause_37, s_isPerson, good6 hp, hm, ne10, s_isKink_out hm0 he, true_and, and_true, rf_s, not_true_eq_false, not_false_eq_true, true_implies, false_implies, kl_i, kl_n, kl_l, kl_r, Option.toList, List.cons_append, List.nil_append, if_true, if_false, u2s, lt00, lt01, lt02, lt03, le10, le20, le30, ne10, ne20, ne30, eq00]
theorem s_kinkCause_flat (hm : MdS S N P m) (hg : I (m + 1) = g) (hh : J (m + 2) = h) (hc : Cnt g nb nc nk) {p e : Nat} (hp : p < 6) (h1 : 1 ≤ e) (h2 : e < 9999) (hk : flat (TxE g h nb nc nk p) e)
    (hq : ∀ J', Sc m J J' → Q (some (.int 0)) (u2 I m 8 2) J' P) : CWp S N (d + 7) MX9_kinkCause [.ref m, .int (nI p), .int (nI e)] I J P Q := by
  rw [c_X9_kinkCause]
  have hm0 := hm
  unfold MdS at hm
  simp only [e_X9_kinkCause_0, e_X9_kinkCause_1, e_X9_kinkCause_2, e_X9_kinkCause_5, e_X9_kinkCause_8, e_X9_kinkCause_9, e_X9_kinkCause_12, e_X9_kinkCause_13, e_X9_kinkCause_14, e_X9_kinkCause_15, s_isPerson, good6 hp, hm, ne10, true_and, and_true, rf_s, not_true_eq_false, not_false_eq_true, true_implies, false_implies, kl_i, kl_n, kl_l, kl_r, Option.toList, List.cons_append, List.nil_append, if_true, if_false, u2s, lt00, lt01, lt02, lt03, le10, le20, le30, ne10, ne20, ne30, eq00]
  refine s_isKink_in (h := h) hm0 hg hh hc hp h1 h2 (fun J1 a1 => ?_)
  rw [if_pos hk]
  simp only [e_X9_kinkCause_18, e_X9_kinkCause_21, e_X9_kinkCause_22, e_X9_kinkCause_25, e_X9_kinkCause_26, e_X9_kinkCause_29, e_X9_kinkCause_30, e_X9_kinkCause_33, e_X9_kinkCause_36, e_X9_kinkCause_37, hm, true_and, and_true, rf_s, not_true_eq_false, not_false_eq_true, true_implies, false_implies, kl_i, kl_n, kl_l, kl_r, Option.toList, List.cons_append, List.nil_append, if_true, if_false, u2s, lt00, lt01, lt02, lt03, le10, le20, le30, ne10, ne20, ne30, eq00]
  exact hq J1 a1
theorem s_kinkCause_ok (hm : MdS S N P m) (hg : I (m + 1) = g) (hh : J (m + 2) = h) (hc : Cnt g nb nc nk) {p e : Nat} (hp : p < 6) (h1 : 1 ≤ e) (h2 : e < 9999) (hk : ¬ flat (TxE g h nb nc nk p) e)
    (hq : ∀ J', Sc m J J' → Q (some (.int (nI (CcF (PvF g h nb nc p) e (3 + nk) 0)))) (u2 I m 8 0) J' P) : CWp S N (d + 7) MX9_kinkCause [.ref m, .int (nI p), .int (nI e)] I J P Q := by
  rw [c_X9_kinkCause]
  have hm0 := hm
  unfold MdS at hm
  have hg2 : (u2 I m 8 0) (m + 1) = g := by rw [u2_off _ _ _ (by omega)]; exact hg
  simp only [e_X9_kinkCause_0, e_X9_kinkCause_1, e_X9_kinkCause_2, e_X9_kinkCause_5, e_X9_kinkCause_8, e_X9_kinkCause_9, e_X9_kinkCause_12, e_X9_kinkCause_13, e_X9_kinkCause_14, e_X9_kinkCause_15, s_isPerson, good6 hp, hm, ne10, true_and, and_true, rf_s, not_true_eq_false, not_false_eq_true, true_implies, false_implies, kl_i, kl_n, kl_l, kl_r, Option.toList, List.cons_append, List.nil_append, if_true, if_false, u2s, lt00, lt01, lt02, lt03, le10, le20, le30, ne10, ne20, ne30, eq00]
  refine s_isKink_in (h := h) hm0 hg hh hc hp h1 h2 (fun J1 a1 => ?_)
  rw [if_neg hk]
  simp only [e_X9_kinkCause_18, e_X9_kinkCause_21, e_X9_kinkCause_22, e_X9_kinkCause_25, e_X9_kinkCause_26, e_X9_kinkCause_29, e_X9_kinkCause_30, e_X9_kinkCause_33, e_X9_kinkCause_36, e_X9_kinkCause_37, e_X9_kinkCause_38, e_X9_kinkCause_39, hm, ne10, le00, true_and, and_true, rf_s, not_true_eq_false, not_false_eq_true, true_implies, false_implies, kl_i, kl_n, kl_l, kl_r, Option.toList, List.cons_append, List.nil_append, if_true, if_false, u2s, lt00, lt01, lt02, lt03, le10, le20, le30, ne10, ne20, ne30, eq00]
  exact kc_loop (d := d + 1) hm0 hg2 hc hp h1 hk (3 + nk) 0 (by omega) J1 (by rw [a1.h]; exact hh) (fun J' a2 => hq J' (a1.tr a2))
end MTF

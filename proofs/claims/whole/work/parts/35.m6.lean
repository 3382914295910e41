/-! the model's questions about taxes -/
theorem lt00 : ((0 : Int32) < 0) = False := by decide
theorem lt01 : ((0 : Int32) < 1) = True := by decide
theorem lt02 : ((0 : Int32) < 2) = True := by decide
theorem lt03 : ((0 : Int32) < 3) = True := by decide
theorem le10 : ((1 : Int32) ≤ 0) = False := by decide
theorem le20 : ((2 : Int32) ≤ 0) = False := by decide
theorem le30 : ((3 : Int32) ≤ 0) = False := by decide
theorem ne10 : ((1 : Int32) = 0) = False := by decide
theorem ne20 : ((2 : Int32) = 0) = False := by decide
theorem ne30 : ((3 : Int32) = 0) = False := by decide
theorem eq00 : ((0 : Int32) = 0) = True := by decide
theorem le00 : ((0 : Int32) ≤ 0) = True := by decide
/-- a place among n, or not one -/
theorem place (v : Int32) {n : Nat} (hn : n < 2 ^ 31) : (∃ k, k < n ∧ v = nI k) ∨ (v < 0 ∨ nI n ≤ v) := by
  rcases pk_ix v hn with h | h | h
  · exact Or.inr (Or.inl h)
  · exact Or.inr (Or.inr h)
  · exact Or.inl h
theorem bad6 {v : Int32} (h : v < 0 ∨ nI 6 ≤ v) : (0 ≤ v ∧ v ≤ 5) = False := eq_false (fun q => by
  rcases h with h | h
  · exact Int32.not_le.mpr h q.1
  · have h1 := Int32.le_iff_toInt_le.mp h
    have h2 := Int32.le_iff_toInt_le.mp q.2
    rw [nI_toInt (by decide)] at h1
    have h3 : (5 : Int32).toInt = 5 := rfl
    omega)
theorem good6 {p : Nat} (h : p < 6) : (0 ≤ nI p ∧ nI p ≤ 5) = True := eq_true ⟨nI_pos' (by omega), nI_le (a := p) (b := 5) (by omega) (by decide)⟩
theorem badk {v : Int32} {n : Nat} (hn : n ≤ 6) (h : v < 0 ∨ nI n ≤ v) : (0 ≤ v ∧ v ≤ nI n - 1) = False := eq_false (fun q => by
  rcases h with h | h
  · exact Int32.not_le.mpr h q.1
  · cases n with
    | zero =>
      have h1 := Int32.le_iff_toInt_le.mp q.1
      have h2 := Int32.le_iff_toInt_le.mp q.2
      have h3 : (nI 0 - 1).toInt = -1 := by decide
      have h4 : (0 : Int32).toInt = 0 := rfl
      omega
    | succ n =>
      rw [nI_pred] at q
      have h1 := Int32.le_iff_toInt_le.mp h
      have h2 := Int32.le_iff_toInt_le.mp q.2
      rw [nI_toInt (by omega)] at h1 h2
      omega)
theorem goodk {k n : Nat} (hn : n ≤ 6) (h : k < n) : (0 ≤ nI k ∧ nI k ≤ nI n - 1) = True := eq_true ⟨nI_pos' (by omega), by
  cases n with
  | zero => omega
  | succ n => rw [nI_pred]; exact nI_le (by omega) (by omega)⟩
/-- a number from 0 to n (a part), or not -/
theorem badj {v : Int32} (n : Nat) (hn : n < 2 ^ 31 - 1) (h : v < 0 ∨ nI (n + 1) ≤ v) : (0 ≤ v ∧ v ≤ nI n) = False := eq_false (fun q => by
  rcases h with h | h
  · exact Int32.not_le.mpr h q.1
  · have h1 := Int32.le_iff_toInt_le.mp h
    have h2 := Int32.le_iff_toInt_le.mp q.2
    rw [nI_toInt (by omega)] at h1 h2
    omega)
theorem goodj {k : Nat} (n : Nat) (hn : n < 2 ^ 31) (h : k ≤ n) : (0 ≤ nI k ∧ nI k ≤ nI n) = True := eq_true ⟨nI_pos' (by omega), nI_le h hn⟩
/-- a case's parts by number -/
def TpF (g : Nat → Int32) (nb nc : Nat) (x f : Int32) (j : Nat) : Int64 := if j = 0 then Tp0 g x f else if j = 1 then Tp1 g x f else if j = 2 then Tp2 g nb x f else if j = 3 then Tp3 g x f else if j = 4 then Tp4 g nb x f else Tp5 g nb nc x f
theorem Res.part {g : Nat → Int32} {m nb nc nk : Nat} {br : Nat → Int64} {e x dd f : Int32} {J : JM} (h : Res g m nb nc nk br e x dd f J) {j : Nat} (hj : j < 6) : J (m + 9) j = TpF g nb nc x f j := by
  obtain ⟨⟨h0, h1, h2, h3, h4, h5⟩, -, -⟩ := h
  unfold TpF
  rcases (show j = 0 ∨ j = 1 ∨ j = 2 ∨ j = 3 ∨ j = 4 ∨ j = 5 by omega) with rfl | rfl | rfl | rfl | rfl | rfl <;> simp [*]
/-- what a credit leaves: lost (kind 0), carried (kind 2) -/
def Tun (g : Nat → Int32) (nb nc : Nat) (br : Nat → Int64) (e x dd f : Int32) (k kind : Nat) : Int64 := if g (28 + 6 * k) = nI kind then Tval g k e x dd f + (if kind = 2 then br k else 0) - Tuse g br k e x dd f (Trs g nb nc br e x dd f k) else 0
/-- what creditPart tells -/
def Tct (g : Nat → Int32) (nb nc : Nat) (br : Nat → Int64) (e x dd f : Int32) (k j : Nat) : Int64 := if j = 0 then Tval g k e x dd f else if j = 1 then Tuse g br k e x dd f (Trs g nb nc br e x dd f k) else if j = 2 then Tun g nb nc br e x dd f k 0 else if j = 3 then Tun g nb nc br e x dd f k 2 else Trs g nb nc br e x dd f (k + 1)
section MT6
variable {S N : Nat → Nat} {d : Nat} {I : IM} {J : JM} {P : PM} {Q : Option Value → IM → JM → PM → Prop} {m : Nat} {g : Nat → Int32} {h : Nat → Int64} {nb nc nk : Nat}
theorem s_isCredit (hm : MdS S N P m) (hg : I (m + 1) = g) (h27 : g 27 = nI nk) {v : Int32} : CWp S N (d + 1) MX9_isCredit [.ref m, .int v] I J P Q ↔ Q (some (.int (if 0 ≤ v ∧ v ≤ nI nk - 1 then 1 else 0))) I J P := by
  rw [c_X9_isCredit]
  unfold MdS at hm
  have i0 : vp_in (27 : Int32) 89 := vp_in_nI (n := 27) (by decide) (by decide)
  have e0 : (27 : Int32).toNatClampNeg = 27 := rfl
  simp only [e_X9_isCredit_0, e_X9_isCredit_1, e_X9_isCredit_2, e_X9_isCredit_3, e_X9_isCredit_6, e_X9_isCredit_8, e_X9_isCredit_9, e_X9_isCredit_10, e_X9_isCredit_11, e_X9_isCredit_14 isB0, e_X9_isCredit_14 isB1, e_X9_isCredit_14 isB_ite, hm, i0, e0, hg, h27, s_in, true_and, and_true, rf_s, not_true_eq_false, not_false_eq_true, true_implies, false_implies, kl_i, kl_n, kl_l, kl_r, Option.toList, List.cons_append, List.nil_append, if_true, if_false, u2s, lt00, lt01, lt02, lt03, le10, le20, le30, ne10, ne20, ne30, eq00]
theorem s_coupled_bad (hm : MdS S N P m) {v : Int32} (hv : v < 0 ∨ nI 6 ≤ v) : CWp S N (d + 2) MX9_coupled [.ref m, .int v] I J P Q ↔ Q (some (.int 1)) I J P := by
  rw [c_X9_coupled]
  simp only [e_X9_coupled_0, e_X9_coupled_1, e_X9_coupled_4, e_X9_coupled_7, e_X9_coupled_8, e_X9_coupled_11, e_X9_coupled_12, e_X9_coupled_15, e_X9_coupled_17, e_X9_coupled_18, e_X9_coupled_19, e_X9_coupled_20, e_X9_coupled_23, e_X9_coupled_24, e_X9_coupled_27, e_X9_coupled_28, s_isPerson, bad6 hv, true_and, and_true, rf_s, not_true_eq_false, not_false_eq_true, true_implies, false_implies, kl_i, kl_n, kl_l, kl_r, Option.toList, List.cons_append, List.nil_append, if_true, if_false, u2s, lt00, lt01, lt02, lt03, le10, le20, le30, ne10, ne20, ne30, eq00]
theorem s_coupled_no (hm : MdS S N P m) (hg : I (m + 1) = g) {p : Nat} (hp : p < 6) (hn : g (82 + p) < 0) : CWp S N (d + 2) MX9_coupled [.ref m, .int (nI p)] I J P Q ↔ Q (some (.int 2)) I J P := by
  rw [c_X9_coupled]
  unfold MdS at hm
  have h1 : ¬ 0 ≤ g (82 + p) := Int32.not_le.mpr hn
  simp only [e_X9_coupled_0, e_X9_coupled_1, e_X9_coupled_4, e_X9_coupled_7, e_X9_coupled_8, e_X9_coupled_11, e_X9_coupled_12, e_X9_coupled_15, e_X9_coupled_17, e_X9_coupled_18, e_X9_coupled_19, e_X9_coupled_20, e_X9_coupled_23, e_X9_coupled_24, e_X9_coupled_27, e_X9_coupled_28, s_isPerson, good6 hp, hm, q82, nI_clamp (show 82 + p < 2 ^ 31 by omega), vp_in_nI (show 82 + p < 89 by omega) (show 89 < 2 ^ 31 by decide), hg, h1, true_and, and_true, rf_s, not_true_eq_false, not_false_eq_true, true_implies, false_implies, kl_i, kl_n, kl_l, kl_r, Option.toList, List.cons_append, List.nil_append, if_true, if_false, u2s, lt00, lt01, lt02, lt03, le10, le20, le30, ne10, ne20, ne30, eq00]
theorem s_coupled_ok (hm : MdS S N P m) (hg : I (m + 1) = g) {p : Nat} (hp : p < 6) (hn : 0 ≤ g (82 + p)) : CWp S N (d + 2) MX9_coupled [.ref m, .int (nI p)] I J P Q ↔ Q (some (.int 0)) I J P := by
  rw [c_X9_coupled]
  unfold MdS at hm
  simp only [e_X9_coupled_0, e_X9_coupled_1, e_X9_coupled_4, e_X9_coupled_7, e_X9_coupled_8, e_X9_coupled_11, e_X9_coupled_12, e_X9_coupled_15, e_X9_coupled_17, e_X9_coupled_18, e_X9_coupled_19, e_X9_coupled_20, e_X9_coupled_23, e_X9_coupled_24, e_X9_coupled_27, e_X9_coupled_28, s_isPerson, good6 hp, hm, q82, nI_clamp (show 82 + p < 2 ^ 31 by omega), vp_in_nI (show 82 + p < 89 by omega) (show 89 < 2 ^ 31 by decide), hg, hn, true_and, and_true, rf_s, not_true_eq_false, not_false_eq_true, true_implies, false_implies, kl_i, kl_n, kl_l, kl_r, Option.toList, List.cons_append, List.nil_append, if_true, if_false, u2s, lt00, lt01, lt02, lt03, le10, le20, le30, ne10, ne20, ne30, eq00]
theorem s_tax_bad (hm : MdS S N P m) {v : Int32} (hv : v < 0 ∨ nI 6 ≤ v) : CWp S N (d + 2) MX9_tax [.ref m, .int v] I J P Q ↔ Q (some (.long 0)) (u2 I m 8 1) J P := by
  rw [c_X9_tax]
  unfold MdS at hm
  simp only [e_X9_tax_0, e_X9_tax_1, e_X9_tax_2, e_X9_tax_5, e_X9_tax_8, e_X9_tax_9, e_X9_tax_12, e_X9_tax_13, e_X9_tax_16, e_X9_tax_17, e_X9_tax_20, e_X9_tax_23, e_X9_tax_24, e_X9_tax_27, e_X9_tax_28, e_X9_tax_29, e_X9_tax_32, s_isPerson, bad6 hv, hm, true_and, and_true, rf_s, not_true_eq_false, not_false_eq_true, true_implies, false_implies, kl_i, kl_n, kl_l, kl_r, Option.toList, List.cons_append, List.nil_append, if_true, if_false, u2s, lt00, lt01, lt02, lt03, le10, le20, le30, ne10, ne20, ne30, eq00]
theorem s_tax_ok (hm : MdS S N P m) (hg : I (m + 1) = g) (hh : J (m + 2) = h) (hc : Cnt g nb nc nk) {p : Nat} (hp : p < 6)
    (hq : ∀ J', Sc m J J' → Q (some (.long (TxA g h nb nc nk p (g (66 + 3 * p))))) (u2 I m 8 0) J' P) : CWp S N (d + 5) MX9_tax [.ref m, .int (nI p)] I J P Q := by
  rw [c_X9_tax]
  have hm0 := hm
  unfold MdS at hm
  simp only [e_X9_tax_0, e_X9_tax_1, e_X9_tax_2, e_X9_tax_5, e_X9_tax_8, e_X9_tax_9, e_X9_tax_12, e_X9_tax_13, e_X9_tax_16, e_X9_tax_17, e_X9_tax_20, e_X9_tax_23, e_X9_tax_24, e_X9_tax_27, e_X9_tax_28, e_X9_tax_29, s_isPerson, good6 hp, hm, le00, true_and, and_true, rf_s, not_true_eq_false, not_false_eq_true, true_implies, false_implies, kl_i, kl_n, kl_l, kl_r, Option.toList, List.cons_append, List.nil_append, if_true, if_false, u2s, lt00, lt01, lt02, lt03, le10, le20, le30, ne10, ne20, ne30, eq00]
  refine s_taxOfPersonG hm0 (by rw [u2_off _ _ _ (by omega)]; exact hg) hh hc hp (fun J1 a1 _ => ?_)
  simp only [e_X9_tax_32, true_and, and_true, rf_s, not_true_eq_false, not_false_eq_true, true_implies, false_implies, kl_i, kl_n, kl_l, kl_r, Option.toList, List.cons_append, List.nil_append, if_true, if_false, u2s, lt00, lt01, lt02, lt03, le10, le20, le30, ne10, ne20, ne30, eq00]
  exact hq J1 a1
theorem s_taxPart_bad1 (hm : MdS S N P m) {v w : Int32} (hv : v < 0 ∨ nI 6 ≤ v) : CWp S N (d + 2) MX9_taxPart [.ref m, .int v, .int w] I J P Q ↔ Q (some (.long 0)) (u2 I m 8 1) J P := by
  rw [c_X9_taxPart]
  unfold MdS at hm
  simp only [e_X9_taxPart_0, e_X9_taxPart_1, e_X9_taxPart_2, e_X9_taxPart_5, e_X9_taxPart_8, e_X9_taxPart_9, e_X9_taxPart_10, e_X9_taxPart_11, e_X9_taxPart_14, e_X9_taxPart_17, e_X9_taxPart_18, e_X9_taxPart_21, e_X9_taxPart_22, e_X9_taxPart_25, e_X9_taxPart_26, e_X9_taxPart_29, e_X9_taxPart_30, e_X9_taxPart_33, e_X9_taxPart_36, e_X9_taxPart_37, e_X9_taxPart_38, e_X9_taxPart_39, e_X9_taxPart_40, e_X9_taxPart_43, e_X9_taxPart_44, e_X9_taxPart_45, e_X9_taxPart_48, e_X9_taxPart_49, e_X9_taxPart_50, s_isPerson, bad6 hv, hm, true_and, and_true, rf_s, not_true_eq_false, not_false_eq_true, true_implies, false_implies, kl_i, kl_n, kl_l, kl_r, Option.toList, List.cons_append, List.nil_append, if_true, if_false, u2s, lt00, lt01, lt02, lt03, le10, le20, le30, ne10, ne20, ne30, eq00]
theorem s_taxPart_bad2 (hm : MdS S N P m) {p : Nat} {w : Int32} (hp : p < 6) (hw : w < 0 ∨ nI 6 ≤ w) : CWp S N (d + 2) MX9_taxPart [.ref m, .int (nI p), .int w] I J P Q ↔ Q (some (.long 0)) (u2 I m 8 2) J P := by
  rw [c_X9_taxPart]
  unfold MdS at hm
  simp only [e_X9_taxPart_0, e_X9_taxPart_1, e_X9_taxPart_2, e_X9_taxPart_5, e_X9_taxPart_8, e_X9_taxPart_9, e_X9_taxPart_10, e_X9_taxPart_11, e_X9_taxPart_14, e_X9_taxPart_17, e_X9_taxPart_18, e_X9_taxPart_21, e_X9_taxPart_22, e_X9_taxPart_25, e_X9_taxPart_26, e_X9_taxPart_29, e_X9_taxPart_30, e_X9_taxPart_33, e_X9_taxPart_36, e_X9_taxPart_37, e_X9_taxPart_38, e_X9_taxPart_39, e_X9_taxPart_40, e_X9_taxPart_43, e_X9_taxPart_44, e_X9_taxPart_45, e_X9_taxPart_48, e_X9_taxPart_49, e_X9_taxPart_50, s_isPerson, good6 hp, s_in, bad6 hw, hm, true_and, and_true, rf_s, not_true_eq_false, not_false_eq_true, true_implies, false_implies, kl_i, kl_n, kl_l, kl_r, Option.toList, List.cons_append, List.nil_append, if_true, if_false, u2s, lt00, lt01, lt02, lt03, le10, le20, le30, ne10, ne20, ne30, eq00]
theorem s_taxPart_ok (hm : MdS S N P m) (hg : I (m + 1) = g) (hh : J (m + 2) = h) (hc : Cnt g nb nc nk) {p j : Nat} (hp : p < 6) (hj : j < 6)
    (hq : ∀ J', Sc m J J' → Q (some (.long (TpF g nb nc (g (64 + 3 * p) + g (65 + 3 * p)) 1 j))) (u2 I m 8 0) J' P) : CWp S N (d + 5) MX9_taxPart [.ref m, .int (nI p), .int (nI j)] I J P Q := by
  rw [c_X9_taxPart]
  have hm0 := hm
  unfold MdS at hm
  simp only [e_X9_taxPart_0, e_X9_taxPart_1, e_X9_taxPart_2, e_X9_taxPart_5, e_X9_taxPart_8, e_X9_taxPart_9, e_X9_taxPart_10, e_X9_taxPart_11, e_X9_taxPart_14, e_X9_taxPart_17, e_X9_taxPart_18, e_X9_taxPart_21, e_X9_taxPart_22, e_X9_taxPart_25, e_X9_taxPart_26, e_X9_taxPart_29, e_X9_taxPart_30, e_X9_taxPart_33, e_X9_taxPart_36, e_X9_taxPart_37, e_X9_taxPart_38, e_X9_taxPart_39, e_X9_taxPart_40, s_isPerson, good6 hp, s_in, good6 hj, hm, le00, true_and, and_true, rf_s, not_true_eq_false, not_false_eq_true, true_implies, false_implies, kl_i, kl_n, kl_l, kl_r, Option.toList, List.cons_append, List.nil_append, if_true, if_false, u2s, lt00, lt01, lt02, lt03, le10, le20, le30, ne10, ne20, ne30, eq00]
  refine s_taxOfPersonG hm0 (by rw [u2_off _ _ _ (by omega)]; exact hg) hh hc hp (fun J1 a1 a2 => ?_)
  simp only [e_X9_taxPart_43, e_X9_taxPart_44, e_X9_taxPart_45, e_X9_taxPart_48, e_X9_taxPart_49, e_X9_taxPart_50, hm, a2.part hj, nI_clamp (show j < 2 ^ 31 by omega), vp_in_nI (show j < 6 by omega) (show 6 < 2 ^ 31 by decide), true_and, and_true, rf_s, not_true_eq_false, not_false_eq_true, true_implies, false_implies, kl_i, kl_n, kl_l, kl_r, Option.toList, List.cons_append, List.nil_append, if_true, if_false, u2s, lt00, lt01, lt02, lt03, le10, le20, le30, ne10, ne20, ne30, eq00]
  exact hq J1 a1
theorem s_unused (hm : MdS S N P m) (hg : I (m + 1) = g) {br : Nat → Int64} {e x dd f : Int32} (hr : Res g m nb nc nk br e x dd f J) (hnk : nk ≤ 6) {k kind : Nat} (hk : k < nk) (hkd : kind < 6) : CWp S N (d + 1) MX9_unused [.ref m, .int (nI k), .int (nI kind)] I J P Q ↔ Q (some (.long (Tun g nb nc br e x dd f k kind))) I J P := by
  rw [c_X9_unused]
  have hm0 := hm
  unfold MdS at hm
  have c0 := fun (d : Nat) (J : JM) (Q : Option Value → IM → JM → PM → Prop) => s_creditOf (S := S) (N := N) (d := d) (I := I) (J := J) (Q := Q) hm0 (show k < 6 by omega) (show 0 < 6 by decide)
  simp only [show nI 0 = (0 : Int32) from rfl, Nat.add_zero, hg] at c0
  obtain ⟨-, r2, r3⟩ := hr
  obtain ⟨v1, v2, v3⟩ := r3 k hk
  have b1 := r2 k (by omega)
  unfold Tun
  by_cases h1 : g (28 + 6 * k) = nI kind
  · have h1' : (g (28 + 6 * k) = nI kind) = True := eq_true h1
    by_cases h2 : kind = 2
    · subst h2
      have h2' : (nI 2 = (2 : Int32)) = True := by decide
      simp only [e_X9_unused_0, e_X9_unused_1, e_X9_unused_2, e_X9_unused_3, e_X9_unused_6, e_X9_unused_7, e_X9_unused_10, e_X9_unused_11, e_X9_unused_14, e_X9_unused_15, e_X9_unused_16, e_X9_unused_17, e_X9_unused_18, e_X9_unused_21, e_X9_unused_22, e_X9_unused_25, e_X9_unused_26, e_X9_unused_27, e_X9_unused_30, e_X9_unused_31, e_X9_unused_32, e_X9_unused_33, e_X9_unused_36, e_X9_unused_37, e_X9_unused_38, e_X9_unused_39, e_X9_unused_42, e_X9_unused_43, hm, c0, h1', h2', v1, v2, b1, nI_clamp (show k < 2 ^ 31 by omega), vp_in_nI (show k < 6 by omega) (show 6 < 2 ^ 31 by decide), true_and, and_true, rf_s, not_true_eq_false, not_false_eq_true, true_implies, false_implies, kl_i, kl_n, kl_l, kl_r, Option.toList, List.cons_append, List.nil_append, if_true, if_false, u2s, lt00, lt01, lt02, lt03, le10, le20, le30, ne10, ne20, ne30, eq00]
    · have h2' : (nI kind = (2 : Int32)) = False := eq_false (fun q => h2 ((nI_eq (a := kind) (b := 2) (by omega) (by decide)).mp q))
      simp only [e_X9_unused_0, e_X9_unused_1, e_X9_unused_2, e_X9_unused_3, e_X9_unused_6, e_X9_unused_7, e_X9_unused_10, e_X9_unused_11, e_X9_unused_14, e_X9_unused_15, e_X9_unused_16, e_X9_unused_17, e_X9_unused_18, e_X9_unused_21, e_X9_unused_22, e_X9_unused_25, e_X9_unused_26, e_X9_unused_27, e_X9_unused_30, e_X9_unused_31, e_X9_unused_32, e_X9_unused_33, e_X9_unused_36, e_X9_unused_37, e_X9_unused_38, e_X9_unused_39, e_X9_unused_42, e_X9_unused_43, hm, c0, h1', h2', h2, v1, v2, b1, nI_clamp (show k < 2 ^ 31 by omega), vp_in_nI (show k < 6 by omega) (show 6 < 2 ^ 31 by decide), true_and, and_true, rf_s, not_true_eq_false, not_false_eq_true, true_implies, false_implies, kl_i, kl_n, kl_l, kl_r, Option.toList, List.cons_append, List.nil_append, if_true, if_false, u2s, lt00, lt01, lt02, lt03, le10, le20, le30, ne10, ne20, ne30, eq00]
  · have h1' : (g (28 + 6 * k) = nI kind) = False := eq_false h1
    simp only [e_X9_unused_0, e_X9_unused_1, e_X9_unused_2, e_X9_unused_3, e_X9_unused_6, e_X9_unused_7, e_X9_unused_10, e_X9_unused_11, e_X9_unused_14, e_X9_unused_15, e_X9_unused_16, e_X9_unused_17, e_X9_unused_18, e_X9_unused_21, e_X9_unused_22, e_X9_unused_25, e_X9_unused_26, e_X9_unused_27, e_X9_unused_30, e_X9_unused_31, e_X9_unused_32, e_X9_unused_33, e_X9_unused_36, e_X9_unused_37, e_X9_unused_38, e_X9_unused_39, e_X9_unused_42, e_X9_unused_43, hm, c0, h1', true_and, and_true, rf_s, not_true_eq_false, not_false_eq_true, true_implies, false_implies, kl_i, kl_n, kl_l, kl_r, Option.toList, List.cons_append, List.nil_append, if_true, if_false, u2s, lt00, lt01, lt02, lt03, le10, le20, le30, ne10, ne20, ne30, eq00]
theorem s_carried_bad1 (hm : MdS S N P m) {v w : Int32} (hv : v < 0 ∨ nI 6 ≤ v) : CWp S N (d + 2) MX9_carried [.ref m, .int v, .int w] I J P Q ↔ Q (some (.long 0)) (u2 I m 8 1) J P := by
  rw [c_X9_carried]
  unfold MdS at hm
  simp only [e_X9_carried_0, e_X9_carried_1, e_X9_carried_2, e_X9_carried_5, e_X9_carried_8, e_X9_carried_9, e_X9_carried_10, e_X9_carried_13, e_X9_carried_16, e_X9_carried_17, e_X9_carried_20, e_X9_carried_21, e_X9_carried_24, e_X9_carried_25, e_X9_carried_28, e_X9_carried_31, e_X9_carried_32, e_X9_carried_35, e_X9_carried_36, e_X9_carried_39, e_X9_carried_41, e_X9_carried_42, e_X9_carried_43, e_X9_carried_44, e_X9_carried_45, e_X9_carried_46, s_isPerson, bad6 hv, hm, true_and, and_true, rf_s, not_true_eq_false, not_false_eq_true, true_implies, false_implies, kl_i, kl_n, kl_l, kl_r, Option.toList, List.cons_append, List.nil_append, if_true, if_false, u2s, lt00, lt01, lt02, lt03, le10, le20, le30, ne10, ne20, ne30, eq00]
theorem s_carried_bad2 (hm : MdS S N P m) (hg : I (m + 1) = g) (hc : Cnt g nb nc nk) {p : Nat} {w : Int32} (hp : p < 6) (hw : w < 0 ∨ nI nk ≤ w) : CWp S N (d + 2) MX9_carried [.ref m, .int (nI p), .int w] I J P Q ↔ Q (some (.long 0)) (u2 I m 8 1) J P := by
  rw [c_X9_carried]
  have hm0 := hm
  unfold MdS at hm
  have ci := fun (d : Nat) (J : JM) (Q : Option Value → IM → JM → PM → Prop) => s_isCredit (S := S) (N := N) (d := d) (I := I) (J := J) (Q := Q) hm0 hg hc.2.2.2.2.2 (v := w)
  simp only [e_X9_carried_0, e_X9_carried_1, e_X9_carried_2, e_X9_carried_5, e_X9_carried_8, e_X9_carried_9, e_X9_carried_10, e_X9_carried_13, e_X9_carried_16, e_X9_carried_17, e_X9_carried_20, e_X9_carried_21, e_X9_carried_24, e_X9_carried_25, e_X9_carried_28, e_X9_carried_31, e_X9_carried_32, e_X9_carried_35, e_X9_carried_36, e_X9_carried_39, e_X9_carried_41, e_X9_carried_42, e_X9_carried_43, e_X9_carried_44, e_X9_carried_45, e_X9_carried_46, s_isPerson, good6 hp, ci, badk hc.2.2.1 hw, hm, true_and, and_true, rf_s, not_true_eq_false, not_false_eq_true, true_implies, false_implies, kl_i, kl_n, kl_l, kl_r, Option.toList, List.cons_append, List.nil_append, if_true, if_false, u2s, lt00, lt01, lt02, lt03, le10, le20, le30, ne10, ne20, ne30, eq00]
theorem s_carried_ok (hm : MdS S N P m) (hg : I (m + 1) = g) (hh : J (m + 2) = h) (hc : Cnt g nb nc nk) {p k : Nat} (hp : p < 6) (hk : k < nk) : CWp S N (d + 2) MX9_carried [.ref m, .int (nI p), .int (nI k)] I J P Q ↔ Q (some (.long (h (6 * p + k)))) (u2 I m 8 0) J P := by
  rw [c_X9_carried]
  have hm0 := hm
  unfold MdS at hm
  have h6 := hc.2.2.1
  have ci := fun (d : Nat) (J : JM) (Q : Option Value → IM → JM → PM → Prop) => s_isCredit (S := S) (N := N) (d := d) (I := I) (J := J) (Q := Q) hm0 hg hc.2.2.2.2.2 (v := nI k)
  have q1 : (6 : Int32) * nI p + nI k = nI (6 * p + k) := by rw [show (6 : Int32) = nI 6 from rfl, pk_mul, nI_add]
  simp only [e_X9_carried_0, e_X9_carried_1, e_X9_carried_2, e_X9_carried_5, e_X9_carried_8, e_X9_carried_9, e_X9_carried_10, e_X9_carried_13, e_X9_carried_16, e_X9_carried_17, e_X9_carried_20, e_X9_carried_21, e_X9_carried_24, e_X9_carried_25, e_X9_carried_28, e_X9_carried_31, e_X9_carried_32, e_X9_carried_35, e_X9_carried_36, e_X9_carried_39, e_X9_carried_41, e_X9_carried_42, e_X9_carried_43, e_X9_carried_44, e_X9_carried_45, e_X9_carried_46, s_isPerson, good6 hp, ci, goodk hc.2.2.1 hk, hm, le00, q1, hh, nI_clamp (show 6 * p + k < 2 ^ 31 by omega), vp_in_nI (show 6 * p + k < 36 by omega) (show 36 < 2 ^ 31 by decide), true_and, and_true, rf_s, not_true_eq_false, not_false_eq_true, true_implies, false_implies, kl_i, kl_n, kl_l, kl_r, Option.toList, List.cons_append, List.nil_append, if_true, if_false, u2s, lt00, lt01, lt02, lt03, le10, le20, le30, ne10, ne20, ne30, eq00]
end MT6

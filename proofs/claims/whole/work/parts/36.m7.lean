/-! the model's questions about credits and couples -/
def AllD (g : Nat → Int32) (p q : Nat) : Nat := (g (66 + 3 * p)).toNatClampNeg + (g (66 + 3 * q)).toNatClampNeg
/-- a couple's division: the least sum, what the first one gets -/
def Tdv (g : Nat → Int32) (h : Nat → Int64) (nb nc nk p q : Nat) : Int64 × Nat := Tap (TxS g h nb nc nk p q (AllD g p q)) (AllD g p q)
/-- r and q are a couple -/
def Cp (g : Nat → Int32) (r q : Nat) : Prop := r < 6 ∧ q < 6 ∧ r ≠ q ∧ g (82 + r) = nI q ∧ g (82 + q) = nI r ∧ ∃ a b, g (66 + 3 * r) = nI a ∧ g (66 + 3 * q) = nI b ∧ a ≤ 9 ∧ b ≤ 9
def lo (r q : Nat) : Nat := if q < r then q else r
def hi (r q : Nat) : Nat := if q < r then r else q
theorem TxJ_comm (g : Nat → Int32) (h : Nat → Int64) (nb nc nk p q : Nat) : TxJ g h nb nc nk p q = TxJ g h nb nc nk q p := by
  have e1 : Br2 h p q = Br2 h q p := by funext k; unfold Br2; exact Int64.add_comm _ _
  have e2 : g (64 + 3 * p) + g (64 + 3 * q) = g (64 + 3 * q) + g (64 + 3 * p) := Int32.add_comm _ _
  have e3 : g (66 + 3 * p) + g (66 + 3 * q) = g (66 + 3 * q) + g (66 + 3 * p) := Int32.add_comm _ _
  unfold TxJ
  rw [e1, e2, e3, Int32.add_assoc (g (64 + 3 * q) + g (64 + 3 * p)) (g (65 + 3 * p)), Int32.add_comm (g (65 + 3 * p)), ← Int32.add_assoc]
theorem TxJ_lohi (g : Nat → Int32) (h : Nat → Int64) (nb nc nk r q : Nat) : TxJ g h nb nc nk r q = TxJ g h nb nc nk (lo r q) (hi r q) := by
  unfold lo hi
  split
  · exact TxJ_comm _ _ _ _ _ _ _
  · rfl
section MT7
variable {S N : Nat → Nat} {d : Nat} {I : IM} {J : JM} {P : PM} {Q : Option Value → IM → JM → PM → Prop} {m : Nat} {g : Nat → Int32} {h : Nat → Int64} {nb nc nk : Nat}
theorem s_creditTold (hm : MdS S N P m) (hg : I (m + 1) = g) {br : Nat → Int64} {e x dd f : Int32} (hr : Res g m nb nc nk br e x dd f J) (hnk : nk ≤ 6) {k j : Nat} (hk : k < nk) (hj : j < 5) : CWp S N (d + 2) MX9_creditTold [.ref m, .int (nI k), .int (nI j)] I J P Q ↔ Q (some (.long (Tct g nb nc br e x dd f k j))) I J P := by
  rw [c_X9_creditTold]
  have hm0 := hm
  unfold MdS at hm
  obtain ⟨v1, v2, v3⟩ := hr.2.2 k hk
  have u0 := fun (d : Nat) (Q : Option Value → IM → JM → PM → Prop) => s_unused (S := S) (N := N) (d := d) (I := I) (J := J) (Q := Q) hm0 hg hr hnk hk (show 0 < 6 by decide)
  have u2' := fun (d : Nat) (Q : Option Value → IM → JM → PM → Prop) => s_unused (S := S) (N := N) (d := d) (I := I) (J := J) (Q := Q) hm0 hg hr hnk hk (show 2 < 6 by decide)
  simp only [show nI 0 = (0 : Int32) from rfl] at u0
  simp only [show nI 2 = (2 : Int32) from rfl] at u2'
  have k1 := nI_clamp (show k < 2 ^ 31 by omega)
  have k2 := vp_in_nI (show k < 6 by omega) (show 6 < 2 ^ 31 by decide)
  unfold Tct
  rcases (show j = 0 ∨ j = 1 ∨ j = 2 ∨ j = 3 ∨ j = 4 by omega) with rfl | rfl | rfl | rfl | rfl
  · rw [e_X9_creditTold_0, e_X9_creditTold_1 (off := 31) (tgt := 32) rfl (by decide)]
    simp only [e_X9_creditTold_32, e_X9_creditTold_33, e_X9_creditTold_36, e_X9_creditTold_37, e_X9_creditTold_38, hm, v1, k1, k2, true_and, and_true, rf_s, not_true_eq_false, not_false_eq_true, true_implies, false_implies, kl_i, kl_n, kl_l, kl_r, Option.toList, List.cons_append, List.nil_append, if_true, if_false, u2s, lt00, lt01, lt02, lt03, le10, le20, le30, ne10, ne20, ne30, eq00]
  · rw [e_X9_creditTold_0, e_X9_creditTold_1 (off := 38) (tgt := 39) rfl (by decide)]
    simp only [e_X9_creditTold_39, e_X9_creditTold_40, e_X9_creditTold_43, e_X9_creditTold_44, e_X9_creditTold_45, hm, v2, k1, k2, Nat.one_ne_zero, true_and, and_true, rf_s, not_true_eq_false, not_false_eq_true, true_implies, false_implies, kl_i, kl_n, kl_l, kl_r, Option.toList, List.cons_append, List.nil_append, if_true, if_false, u2s, lt00, lt01, lt02, lt03, le10, le20, le30, ne10, ne20, ne30, eq00]
  · rw [e_X9_creditTold_0, e_X9_creditTold_1 (off := 45) (tgt := 46) rfl (by decide)]
    simp only [e_X9_creditTold_46, e_X9_creditTold_47, e_X9_creditTold_48, e_X9_creditTold_49, e_X9_creditTold_52, hm, u0, k1, k2, show ¬ (2 : Nat) = 0 by decide, show ¬ (2 : Nat) = 1 by decide, true_and, and_true, rf_s, not_true_eq_false, not_false_eq_true, true_implies, false_implies, kl_i, kl_n, kl_l, kl_r, Option.toList, List.cons_append, List.nil_append, if_true, if_false, u2s, lt00, lt01, lt02, lt03, le10, le20, le30, ne10, ne20, ne30, eq00]
  · rw [e_X9_creditTold_0, e_X9_creditTold_1 (off := 52) (tgt := 53) rfl (by decide)]
    simp only [e_X9_creditTold_53, e_X9_creditTold_54, e_X9_creditTold_55, e_X9_creditTold_56, e_X9_creditTold_59, hm, u2', k1, k2, show ¬ (3 : Nat) = 0 by decide, show ¬ (3 : Nat) = 1 by decide, show ¬ (3 : Nat) = 2 by decide, true_and, and_true, rf_s, not_true_eq_false, not_false_eq_true, true_implies, false_implies, kl_i, kl_n, kl_l, kl_r, Option.toList, List.cons_append, List.nil_append, if_true, if_false, u2s, lt00, lt01, lt02, lt03, le10, le20, le30, ne10, ne20, ne30, eq00]
  · rw [e_X9_creditTold_0, e_X9_creditTold_1 (off := 59) (tgt := 60) rfl (by decide)]
    simp only [e_X9_creditTold_60, e_X9_creditTold_61, e_X9_creditTold_64, e_X9_creditTold_65, e_X9_creditTold_66, hm, v3, k1, k2, show ¬ (4 : Nat) = 0 by decide, show ¬ (4 : Nat) = 1 by decide, show ¬ (4 : Nat) = 2 by decide, show ¬ (4 : Nat) = 3 by decide, true_and, and_true, rf_s, not_true_eq_false, not_false_eq_true, true_implies, false_implies, kl_i, kl_n, kl_l, kl_r, Option.toList, List.cons_append, List.nil_append, if_true, if_false, u2s, lt00, lt01, lt02, lt03, le10, le20, le30, ne10, ne20, ne30, eq00]
theorem s_creditPart_bad1 (hm : MdS S N P m) {v w z : Int32} (hv : v < 0 ∨ nI 6 ≤ v) : CWp S N (d + 2) MX9_creditPart [.ref m, .int v, .int w, .int z] I J P Q ↔ Q (some (.long 0)) (u2 I m 8 1) J P := by
  rw [c_X9_creditPart]
  unfold MdS at hm
  simp only [e_X9_creditPart_0, e_X9_creditPart_1, e_X9_creditPart_2, e_X9_creditPart_5, e_X9_creditPart_8, e_X9_creditPart_9, e_X9_creditPart_10, e_X9_creditPart_13, e_X9_creditPart_16, e_X9_creditPart_17, e_X9_creditPart_18, e_X9_creditPart_19, e_X9_creditPart_22, e_X9_creditPart_25, e_X9_creditPart_26, e_X9_creditPart_29, e_X9_creditPart_30, e_X9_creditPart_33, e_X9_creditPart_34, e_X9_creditPart_37, e_X9_creditPart_38, e_X9_creditPart_41, e_X9_creditPart_44, e_X9_creditPart_45, e_X9_creditPart_46, e_X9_creditPart_47, e_X9_creditPart_48, e_X9_creditPart_51, e_X9_creditPart_52, e_X9_creditPart_53, e_X9_creditPart_54, e_X9_creditPart_55, e_X9_creditPart_58, s_isPerson, bad6 hv, hm, true_and, and_true, rf_s, not_true_eq_false, not_false_eq_true, true_implies, false_implies, kl_i, kl_n, kl_l, kl_r, Option.toList, List.cons_append, List.nil_append, if_true, if_false, u2s, lt00, lt01, lt02, lt03, le10, le20, le30, ne10, ne20, ne30, eq00]
theorem s_creditPart_bad2 (hm : MdS S N P m) (hg : I (m + 1) = g) (hc : Cnt g nb nc nk) {p : Nat} {w z : Int32} (hp : p < 6) (hw : w < 0 ∨ nI nk ≤ w) : CWp S N (d + 2) MX9_creditPart [.ref m, .int (nI p), .int w, .int z] I J P Q ↔ Q (some (.long 0)) (u2 I m 8 1) J P := by
  rw [c_X9_creditPart]
  have hm0 := hm
  unfold MdS at hm
  have ci := fun (d : Nat) (J : JM) (Q : Option Value → IM → JM → PM → Prop) => s_isCredit (S := S) (N := N) (d := d) (I := I) (J := J) (Q := Q) hm0 hg hc.2.2.2.2.2 (v := w)
  simp only [e_X9_creditPart_0, e_X9_creditPart_1, e_X9_creditPart_2, e_X9_creditPart_5, e_X9_creditPart_8, e_X9_creditPart_9, e_X9_creditPart_10, e_X9_creditPart_13, e_X9_creditPart_16, e_X9_creditPart_17, e_X9_creditPart_18, e_X9_creditPart_19, e_X9_creditPart_22, e_X9_creditPart_25, e_X9_creditPart_26, e_X9_creditPart_29, e_X9_creditPart_30, e_X9_creditPart_33, e_X9_creditPart_34, e_X9_creditPart_37, e_X9_creditPart_38, e_X9_creditPart_41, e_X9_creditPart_44, e_X9_creditPart_45, e_X9_creditPart_46, e_X9_creditPart_47, e_X9_creditPart_48, e_X9_creditPart_51, e_X9_creditPart_52, e_X9_creditPart_53, e_X9_creditPart_54, e_X9_creditPart_55, e_X9_creditPart_58, s_isPerson, good6 hp, ci, badk hc.2.2.1 hw, hm, true_and, and_true, rf_s, not_true_eq_false, not_false_eq_true, true_implies, false_implies, kl_i, kl_n, kl_l, kl_r, Option.toList, List.cons_append, List.nil_append, if_true, if_false, u2s, lt00, lt01, lt02, lt03, le10, le20, le30, ne10, ne20, ne30, eq00]
theorem s_creditPart_bad3 (hm : MdS S N P m) (hg : I (m + 1) = g) (hc : Cnt g nb nc nk) {p k : Nat} {z : Int32} (hp : p < 6) (hk : k < nk) (hz : z < 0 ∨ nI 5 ≤ z) : CWp S N (d + 2) MX9_creditPart [.ref m, .int (nI p), .int (nI k), .int z] I J P Q ↔ Q (some (.long 0)) (u2 I m 8 2) J P := by
  rw [c_X9_creditPart]
  have hm0 := hm
  unfold MdS at hm
  have ci := fun (d : Nat) (J : JM) (Q : Option Value → IM → JM → PM → Prop) => s_isCredit (S := S) (N := N) (d := d) (I := I) (J := J) (Q := Q) hm0 hg hc.2.2.2.2.2 (v := nI k)
  have b4 := badj 4 (by decide) hz
  simp only [show nI 4 = (4 : Int32) from rfl] at b4
  simp only [e_X9_creditPart_0, e_X9_creditPart_1, e_X9_creditPart_2, e_X9_creditPart_5, e_X9_creditPart_8, e_X9_creditPart_9, e_X9_creditPart_10, e_X9_creditPart_13, e_X9_creditPart_16, e_X9_creditPart_17, e_X9_creditPart_18, e_X9_creditPart_19, e_X9_creditPart_22, e_X9_creditPart_25, e_X9_creditPart_26, e_X9_creditPart_29, e_X9_creditPart_30, e_X9_creditPart_33, e_X9_creditPart_34, e_X9_creditPart_37, e_X9_creditPart_38, e_X9_creditPart_41, e_X9_creditPart_44, e_X9_creditPart_45, e_X9_creditPart_46, e_X9_creditPart_47, e_X9_creditPart_48, e_X9_creditPart_51, e_X9_creditPart_52, e_X9_creditPart_53, e_X9_creditPart_54, e_X9_creditPart_55, e_X9_creditPart_58, s_isPerson, good6 hp, ci, goodk hc.2.2.1 hk, s_in, b4, hm, true_and, and_true, rf_s, not_true_eq_false, not_false_eq_true, true_implies, false_implies, kl_i, kl_n, kl_l, kl_r, Option.toList, List.cons_append, List.nil_append, if_true, if_false, u2s, lt00, lt01, lt02, lt03, le10, le20, le30, ne10, ne20, ne30, eq00]
theorem s_creditPart_ok (hm : MdS S N P m) (hg : I (m + 1) = g) (hh : J (m + 2) = h) (hc : Cnt g nb nc nk) {p k j : Nat} (hp : p < 6) (hk : k < nk) (hj : j < 5)
    (hq : ∀ J', Sc m J J' → Q (some (.long (Tct g nb nc (Br1 h p) (g (64 + 3 * p)) (g (64 + 3 * p) + g (65 + 3 * p)) (g (66 + 3 * p)) 1 k j))) (u2 I m 8 0) J' P) : CWp S N (d + 5) MX9_creditPart [.ref m, .int (nI p), .int (nI k), .int (nI j)] I J P Q := by
  rw [c_X9_creditPart]
  have hm0 := hm
  unfold MdS at hm
  have ci := fun (d : Nat) (J : JM) (Q : Option Value → IM → JM → PM → Prop) => s_isCredit (S := S) (N := N) (d := d) (I := I) (J := J) (Q := Q) hm0 hg hc.2.2.2.2.2 (v := nI k)
  have b4 := goodj 4 (by decide) (show j ≤ 4 by omega)
  simp only [show nI 4 = (4 : Int32) from rfl] at b4
  have hg2 : (u2 I m 8 0) (m + 1) = g := by rw [u2_off _ _ _ (by omega)]; exact hg
  simp only [e_X9_creditPart_0, e_X9_creditPart_1, e_X9_creditPart_2, e_X9_creditPart_5, e_X9_creditPart_8, e_X9_creditPart_9, e_X9_creditPart_10, e_X9_creditPart_13, e_X9_creditPart_16, e_X9_creditPart_17, e_X9_creditPart_18, e_X9_creditPart_19, e_X9_creditPart_22, e_X9_creditPart_25, e_X9_creditPart_26, e_X9_creditPart_29, e_X9_creditPart_30, e_X9_creditPart_33, e_X9_creditPart_34, e_X9_creditPart_37, e_X9_creditPart_38, e_X9_creditPart_41, e_X9_creditPart_44, e_X9_creditPart_45, e_X9_creditPart_46, e_X9_creditPart_47, e_X9_creditPart_48, s_isPerson, good6 hp, ci, goodk hc.2.2.1 hk, s_in, b4, hm, le00, true_and, and_true, rf_s, not_true_eq_false, not_false_eq_true, true_implies, false_implies, kl_i, kl_n, kl_l, kl_r, Option.toList, List.cons_append, List.nil_append, if_true, if_false, u2s, lt00, lt01, lt02, lt03, le10, le20, le30, ne10, ne20, ne30, eq00]
  refine s_taxOfPersonG hm0 hg2 hh hc hp (fun J1 a1 a2 => ?_)
  simp only [e_X9_creditPart_51, e_X9_creditPart_52, e_X9_creditPart_53, e_X9_creditPart_54, e_X9_creditPart_55, e_X9_creditPart_58, hm, s_creditTold hm0 hg2 a2 hc.2.2.1 hk hj, true_and, and_true, rf_s, not_true_eq_false, not_false_eq_true, true_implies, false_implies, kl_i, kl_n, kl_l, kl_r, Option.toList, List.cons_append, List.nil_append, if_true, if_false, u2s, lt00, lt01, lt02, lt03, le10, le20, le30, ne10, ne20, ne30, eq00]
  exact hq J1 a1
theorem s_apartC (hm : MdS S N P m) (hg : I (m + 1) = g) (hh : J (m + 2) = h) (hc : Cnt g nb nc nk) {r q : Nat} (hcp : Cp g r q)
    (hq : ∀ J', Sc m J J' → Q (some (.long (Tdv g h nb nc nk (lo r q) (hi r q)).1)) (u2 I m 21 (nI (Tdv g h nb nc nk (lo r q) (hi r q)).2)) J' P) : CWp S N (d + 4) MX9_apart [.ref m, .int (nI r)] I J P Q := by
  obtain ⟨h1, h2, h3, h4, h5, a, b, h6, h7, h8, h9⟩ := hcp
  unfold lo hi Tdv AllD at hq
  by_cases hlt : q < r
  · simp only [if_pos hlt, h6, h7, nI_clamp (show a < 2 ^ 31 by omega), nI_clamp (show b < 2 ^ 31 by omega)] at hq
    exact s_apart hm hg hh hc (a := b) (b := a) h1 h2 h1 (Or.inr ⟨rfl, h4⟩) hlt h5 h7 h6 (by omega) hq
  · simp only [if_neg hlt, h6, h7, nI_clamp (show a < 2 ^ 31 by omega), nI_clamp (show b < 2 ^ 31 by omega)] at hq
    exact s_apart hm hg hh hc (a := a) (b := b) h1 h1 h2 (Or.inl ⟨rfl, h4⟩) (by omega) h4 h6 h7 (by omega) hq
theorem s_jointlyC (hm : MdS S N P m) (hg : I (m + 1) = g) (hh : J (m + 2) = h) (hc : Cnt g nb nc nk) {r q : Nat} (hcp : Cp g r q)
    (hq : ∀ J', Sc m J J' → Res g m nb nc nk (Br2 h r q) (g (64 + 3 * r) + g (64 + 3 * q)) (g (64 + 3 * r) + g (64 + 3 * q) + g (65 + 3 * r) + g (65 + 3 * q)) (g (66 + 3 * r) + g (66 + 3 * q)) 2 J' → Q (some (.long (TxJ g h nb nc nk (lo r q) (hi r q)))) I J' P) : CWp S N (d + 3) MX9_jointly [.ref m, .int (nI r)] I J P Q := by
  rw [← TxJ_lohi] at hq
  exact s_jointly hm hg hh hc hcp.1 hcp.2.1 hcp.2.2.2.1 hq
theorem Cp.ge {g : Nat → Int32} {r q : Nat} (hcp : Cp g r q) : 0 ≤ g (82 + r) := by
  rw [hcp.2.2.2.1]
  exact nI_pos' (by have := hcp.2.1; omega)
theorem s_jointTax_ok (hm : MdS S N P m) (hg : I (m + 1) = g) (hh : J (m + 2) = h) (hc : Cnt g nb nc nk) {r q : Nat} (hcp : Cp g r q)
    (hq : ∀ J', Sc m J J' → Q (some (.long (TxJ g h nb nc nk (lo r q) (hi r q)))) (u2 I m 8 0) J' P) : CWp S N (d + 4) MX9_jointTax [.ref m, .int (nI r)] I J P Q := by
  rw [c_X9_jointTax]
  have hm0 := hm
  unfold MdS at hm
  have hg2 : (u2 I m 8 0) (m + 1) = g := by rw [u2_off _ _ _ (by omega)]; exact hg
  simp only [e_X9_jointTax_0, e_X9_jointTax_1, e_X9_jointTax_2, e_X9_jointTax_3, e_X9_jointTax_6, e_X9_jointTax_9, e_X9_jointTax_10, e_X9_jointTax_13, e_X9_jointTax_16, e_X9_jointTax_17, e_X9_jointTax_20, e_X9_jointTax_21, e_X9_jointTax_22, s_coupled_ok hm0 hg hcp.1 hcp.ge, hm, le00, true_and, and_true, rf_s, not_true_eq_false, not_false_eq_true, true_implies, false_implies, kl_i, kl_n, kl_l, kl_r, Option.toList, List.cons_append, List.nil_append, if_true, if_false, u2s, lt00, lt01, lt02, lt03, le10, le20, le30, ne10, ne20, ne30, eq00]
  refine s_jointlyC hm0 hg2 hh hc hcp (fun J1 a1 _ => ?_)
  simp only [e_X9_jointTax_25, true_and, and_true, rf_s, not_true_eq_false, not_false_eq_true, true_implies, false_implies, kl_i, kl_n, kl_l, kl_r, Option.toList, List.cons_append, List.nil_append, if_true, if_false, u2s, lt00, lt01, lt02, lt03, le10, le20, le30, ne10, ne20, ne30, eq00]
  exact hq J1 a1
theorem s_separateTax_ok (hm : MdS S N P m) (hg : I (m + 1) = g) (hh : J (m + 2) = h) (hc : Cnt g nb nc nk) {r q : Nat} (hcp : Cp g r q)
    (hq : ∀ J', Sc m J J' → Q (some (.long (Tdv g h nb nc nk (lo r q) (hi r q)).1)) (u2 (u2 I m 8 0) m 21 (nI (Tdv g h nb nc nk (lo r q) (hi r q)).2)) J' P) : CWp S N (d + 5) MX9_separateTax [.ref m, .int (nI r)] I J P Q := by
  rw [c_X9_separateTax]
  have hm0 := hm
  unfold MdS at hm
  have hg2 : (u2 I m 8 0) (m + 1) = g := by rw [u2_off _ _ _ (by omega)]; exact hg
  simp only [e_X9_separateTax_0, e_X9_separateTax_1, e_X9_separateTax_2, e_X9_separateTax_3, e_X9_separateTax_6, e_X9_separateTax_9, e_X9_separateTax_10, e_X9_separateTax_13, e_X9_separateTax_16, e_X9_separateTax_17, e_X9_separateTax_20, e_X9_separateTax_21, e_X9_separateTax_22, s_coupled_ok hm0 hg hcp.1 hcp.ge, hm, le00, true_and, and_true, rf_s, not_true_eq_false, not_false_eq_true, true_implies, false_implies, kl_i, kl_n, kl_l, kl_r, Option.toList, List.cons_append, List.nil_append, if_true, if_false, u2s, lt00, lt01, lt02, lt03, le10, le20, le30, ne10, ne20, ne30, eq00]
  refine s_apartC hm0 hg2 hh hc hcp (fun J1 a1 => ?_)
  simp only [e_X9_separateTax_25, true_and, and_true, rf_s, not_true_eq_false, not_false_eq_true, true_implies, false_implies, kl_i, kl_n, kl_l, kl_r, Option.toList, List.cons_append, List.nil_append, if_true, if_false, u2s, lt00, lt01, lt02, lt03, le10, le20, le30, ne10, ne20, ne30, eq00]
  exact hq J1 a1
theorem s_division_ok (hm : MdS S N P m) (hg : I (m + 1) = g) (hh : J (m + 2) = h) (hc : Cnt g nb nc nk) {r q : Nat} (hcp : Cp g r q)
    (hq : ∀ J', Sc m J J' → Q (some (.int (nI (Tdv g h nb nc nk (lo r q) (hi r q)).2))) (u2 (u2 I m 8 0) m 21 (nI (Tdv g h nb nc nk (lo r q) (hi r q)).2)) J' P) : CWp S N (d + 5) MX9_division [.ref m, .int (nI r)] I J P Q := by
  rw [c_X9_division]
  have hm0 := hm
  unfold MdS at hm
  have hg2 : (u2 I m 8 0) (m + 1) = g := by rw [u2_off _ _ _ (by omega)]; exact hg
  simp only [e_X9_division_0, e_X9_division_1, e_X9_division_2, e_X9_division_3, e_X9_division_6, e_X9_division_9, e_X9_division_10, e_X9_division_13, e_X9_division_16, e_X9_division_17, e_X9_division_18, e_X9_division_19, e_X9_division_20, s_coupled_ok hm0 hg hcp.1 hcp.ge, hm, le00, true_and, and_true, rf_s, not_true_eq_false, not_false_eq_true, true_implies, false_implies, kl_i, kl_n, kl_l, kl_r, Option.toList, List.cons_append, List.nil_append, if_true, if_false, u2s, lt00, lt01, lt02, lt03, le10, le20, le30, ne10, ne20, ne30, eq00]
  refine s_apartC hm0 hg2 hh hc hcp (fun J1 a1 => ?_)
  simp only [e_X9_division_23, e_X9_division_24, e_X9_division_25, e_X9_division_28, hm, true_and, and_true, rf_s, not_true_eq_false, not_false_eq_true, true_implies, false_implies, kl_i, kl_n, kl_l, kl_r, Option.toList, List.cons_append, List.nil_append, if_true, if_false, u2s, lt00, lt01, lt02, lt03, le10, le20, le30, ne10, ne20, ne30, eq00]
  exact hq J1 a1
theorem s_choosesJoint_ok (hm : MdS S N P m) (hg : I (m + 1) = g) (hh : J (m + 2) = h) (hc : Cnt g nb nc nk) {r q : Nat} (hcp : Cp g r q)
    (hq : ∀ J', Sc m J J' → Q (some (.int (if TxJ g h nb nc nk (lo r q) (hi r q) < (Tdv g h nb nc nk (lo r q) (hi r q)).1 then 1 else 0))) (u2 (u2 I m 8 0) m 21 (nI (Tdv g h nb nc nk (lo r q) (hi r q)).2)) J' P) : CWp S N (d + 5) MX9_choosesJoint [.ref m, .int (nI r)] I J P Q := by
  rw [c_X9_choosesJoint]
  have hm0 := hm
  unfold MdS at hm
  have hg2 : (u2 I m 8 0) (m + 1) = g := by rw [u2_off _ _ _ (by omega)]; exact hg
  simp only [e_X9_choosesJoint_0, e_X9_choosesJoint_1, e_X9_choosesJoint_2, e_X9_choosesJoint_3, e_X9_choosesJoint_6, e_X9_choosesJoint_9, e_X9_choosesJoint_10, e_X9_choosesJoint_13, e_X9_choosesJoint_16, e_X9_choosesJoint_17, e_X9_choosesJoint_18, s_coupled_ok hm0 hg hcp.1 hcp.ge, hm, true_and, and_true, rf_s, not_true_eq_false, not_false_eq_true, true_implies, false_implies, kl_i, kl_n, kl_l, kl_r, Option.toList, List.cons_append, List.nil_append, if_true, if_false, u2s, lt00, lt01, lt02, lt03, le10, le20, le30, ne10, ne20, ne30, eq00]
  refine s_jointlyC hm0 hg2 hh hc hcp (fun J1 a1 _ => ?_)
  simp only [e_X9_choosesJoint_21, e_X9_choosesJoint_22, e_X9_choosesJoint_23, hm, true_and, and_true, rf_s, not_true_eq_false, not_false_eq_true, true_implies, false_implies, kl_i, kl_n, kl_l, kl_r, Option.toList, List.cons_append, List.nil_append, if_true, if_false, u2s, lt00, lt01, lt02, lt03, le10, le20, le30, ne10, ne20, ne30, eq00]
  refine s_apartC (h := h) hm0 hg2 (by rw [a1.h]; exact hh) hc hcp (fun J2 a2 => ?_)
  have h9 := hq J2 (a1.tr a2)
  by_cases hlt : TxJ g h nb nc nk (lo r q) (hi r q) < (Tdv g h nb nc nk (lo r q) (hi r q)).1
  · rw [if_pos hlt] at h9
    simp only [e_X9_choosesJoint_26, e_X9_choosesJoint_27, e_X9_choosesJoint_30, e_X9_choosesJoint_31, e_X9_choosesJoint_34, e_X9_choosesJoint_35 isB0, e_X9_choosesJoint_35 isB1, e_X9_choosesJoint_35 isB_ite, lc_ge, hlt, hm, true_and, and_true, rf_s, not_true_eq_false, not_false_eq_true, true_implies, false_implies, kl_i, kl_n, kl_l, kl_r, Option.toList, List.cons_append, List.nil_append, if_true, if_false, u2s, lt00, lt01, lt02, lt03, le10, le20, le30, ne10, ne20, ne30, eq00]
    exact h9
  · rw [if_neg hlt] at h9
    simp only [e_X9_choosesJoint_26, e_X9_choosesJoint_27, e_X9_choosesJoint_30, e_X9_choosesJoint_31, e_X9_choosesJoint_34, e_X9_choosesJoint_35 isB0, e_X9_choosesJoint_35 isB1, e_X9_choosesJoint_35 isB_ite, lc_ge, hlt, hm, true_and, and_true, rf_s, not_true_eq_false, not_false_eq_true, true_implies, false_implies, kl_i, kl_n, kl_l, kl_r, Option.toList, List.cons_append, List.nil_append, if_true, if_false, u2s, lt00, lt01, lt02, lt03, le10, le20, le30, ne10, ne20, ne30, eq00]
    exact h9
end MT7

/-! the model's households -/
def Im (m : Nat) (I I' : IM) : Prop := ∀ a k, ¬ (a = m ∧ k = 21) → I' a k = I a k
theorem Im.rf {m : Nat} {I : IM} : Im m I I := fun _ _ _ => rfl
theorem Im.tr {m : Nat} {I I' I'' : IM} (h : Im m I I') (h2 : Im m I' I'') : Im m I I'' := fun a k hn => (h2 a k hn).trans (h a k hn)
theorem Im.u {m : Nat} {I : IM} (v : Int32) : Im m I (u2 I m 21 v) := fun a k hn => by simp only [u2]; rw [if_neg hn]
theorem Im.g {m : Nat} {I I' : IM} (h : Im m I I') : I' (m + 1) = I (m + 1) := by funext k; exact h _ _ (by omega)
/-- a household's tax -/
def HhV (g : Nat → Int32) (h : Nat → Int64) (nb nc nk p : Nat) : Int64 :=
  if g (82 + p) < 0 then TxA g h nb nc nk p (g (66 + 3 * p))
  else Tles (TxJ g h nb nc nk (lo p (g (82 + p)).toNatClampNeg) (hi p (g (82 + p)).toNatClampNeg)) (Tdv g h nb nc nk (lo p (g (82 + p)).toNatClampNeg) (hi p (g (82 + p)).toNatClampNeg)).1
/-- each person is alone or in a couple -/
def CpA (g : Nat → Int32) : Prop := ∀ p, p < 6 → g (82 + p) = -1 ∨ ∃ q, Cp g p q
/-- a household's first person -/
def Fst (g : Nat → Int32) (p : Nat) : Nat := if g (82 + p) < 0 then p else lo p (g (82 + p)).toNatClampNeg
/-- the sum of the households from p on, n persons left -/
def TotF (g : Nat → Int32) (h : Nat → Int64) (nb nc nk : Nat) : Nat → Nat → Int64 → Int64
  | _, 0, s => s
  | p, n + 1, s => TotF g h nb nc nk (p + 1) n (s + if Fst g p = p then HhV g h nb nc nk p else 0)
theorem neg1 : (-1 : Int32) < 0 := by decide
theorem Cp.to {g : Nat → Int32} {r q : Nat} (hcp : Cp g r q) : (g (82 + r)).toNatClampNeg = q := by
  rw [hcp.2.2.2.1]
  exact nI_clamp (by have := hcp.2.1; omega)
section MT8
variable {S N : Nat → Nat} {d : Nat} {I : IM} {J : JM} {P : PM} {Q : Option Value → IM → JM → PM → Prop} {m : Nat} {g : Nat → Int32} {h : Nat → Int64} {nb nc nk : Nat}
theorem s_jointTax_bad (hm : MdS S N P m) {v : Int32} (hv : v < 0 ∨ nI 6 ≤ v) : CWp S N (d + 3) MX9_jointTax [.ref m, .int v] I J P Q ↔ Q (some (.long 0)) (u2 I m 8 1) J P := by
  rw [c_X9_jointTax]
  have hm0 := hm
  unfold MdS at hm
  simp only [e_X9_jointTax_0, e_X9_jointTax_1, e_X9_jointTax_2, e_X9_jointTax_3, e_X9_jointTax_6, e_X9_jointTax_9, e_X9_jointTax_10, e_X9_jointTax_13, e_X9_jointTax_16, e_X9_jointTax_17, e_X9_jointTax_20, e_X9_jointTax_21, e_X9_jointTax_22, e_X9_jointTax_25, s_coupled_bad hm0 hv, hm, true_and, and_true, rf_s, not_true_eq_false, not_false_eq_true, true_implies, false_implies, kl_i, kl_n, kl_l, kl_r, Option.toList, List.cons_append, List.nil_append, if_true, if_false, u2s, lt00, lt01, lt02, lt03, le10, le20, le30, ne10, ne20, ne30, eq00]
theorem s_jointTax_no (hm : MdS S N P m) (hg : I (m + 1) = g) {p : Nat} (hp : p < 6) (hn : g (82 + p) < 0) : CWp S N (d + 3) MX9_jointTax [.ref m, .int (nI p)] I J P Q ↔ Q (some (.long 0)) (u2 I m 8 2) J P := by
  rw [c_X9_jointTax]
  have hm0 := hm
  unfold MdS at hm
  simp only [e_X9_jointTax_0, e_X9_jointTax_1, e_X9_jointTax_2, e_X9_jointTax_3, e_X9_jointTax_6, e_X9_jointTax_9, e_X9_jointTax_10, e_X9_jointTax_13, e_X9_jointTax_16, e_X9_jointTax_17, e_X9_jointTax_20, e_X9_jointTax_21, e_X9_jointTax_22, e_X9_jointTax_25, s_coupled_no hm0 hg hp hn, hm, true_and, and_true, rf_s, not_true_eq_false, not_false_eq_true, true_implies, false_implies, kl_i, kl_n, kl_l, kl_r, Option.toList, List.cons_append, List.nil_append, if_true, if_false, u2s, lt00, lt01, lt02, lt03, le10, le20, le30, ne10, ne20, ne30, eq00]
theorem s_separateTax_bad (hm : MdS S N P m) {v : Int32} (hv : v < 0 ∨ nI 6 ≤ v) : CWp S N (d + 3) MX9_separateTax [.ref m, .int v] I J P Q ↔ Q (some (.long 0)) (u2 I m 8 1) J P := by
  rw [c_X9_separateTax]
  have hm0 := hm
  unfold MdS at hm
  simp only [e_X9_separateTax_0, e_X9_separateTax_1, e_X9_separateTax_2, e_X9_separateTax_3, e_X9_separateTax_6, e_X9_separateTax_9, e_X9_separateTax_10, e_X9_separateTax_13, e_X9_separateTax_16, e_X9_separateTax_17, e_X9_separateTax_20, e_X9_separateTax_21, e_X9_separateTax_22, e_X9_separateTax_25, s_coupled_bad hm0 hv, hm, true_and, and_true, rf_s, not_true_eq_false, not_false_eq_true, true_implies, false_implies, kl_i, kl_n, kl_l, kl_r, Option.toList, List.cons_append, List.nil_append, if_true, if_false, u2s, lt00, lt01, lt02, lt03, le10, le20, le30, ne10, ne20, ne30, eq00]
theorem s_separateTax_no (hm : MdS S N P m) (hg : I (m + 1) = g) {p : Nat} (hp : p < 6) (hn : g (82 + p) < 0) : CWp S N (d + 3) MX9_separateTax [.ref m, .int (nI p)] I J P Q ↔ Q (some (.long 0)) (u2 I m 8 2) J P := by
  rw [c_X9_separateTax]
  have hm0 := hm
  unfold MdS at hm
  simp only [e_X9_separateTax_0, e_X9_separateTax_1, e_X9_separateTax_2, e_X9_separateTax_3, e_X9_separateTax_6, e_X9_separateTax_9, e_X9_separateTax_10, e_X9_separateTax_13, e_X9_separateTax_16, e_X9_separateTax_17, e_X9_separateTax_20, e_X9_separateTax_21, e_X9_separateTax_22, e_X9_separateTax_25, s_coupled_no hm0 hg hp hn, hm, true_and, and_true, rf_s, not_true_eq_false, not_false_eq_true, true_implies, false_implies, kl_i, kl_n, kl_l, kl_r, Option.toList, List.cons_append, List.nil_append, if_true, if_false, u2s, lt00, lt01, lt02, lt03, le10, le20, le30, ne10, ne20, ne30, eq00]
theorem s_division_bad (hm : MdS S N P m) {v : Int32} (hv : v < 0 ∨ nI 6 ≤ v) : CWp S N (d + 3) MX9_division [.ref m, .int v] I J P Q ↔ Q (some (.int 0)) (u2 I m 8 1) J P := by
  rw [c_X9_division]
  have hm0 := hm
  unfold MdS at hm
  simp only [e_X9_division_0, e_X9_division_1, e_X9_division_2, e_X9_division_3, e_X9_division_6, e_X9_division_9, e_X9_division_10, e_X9_division_13, e_X9_division_16, e_X9_division_17, e_X9_division_18, e_X9_division_19, e_X9_division_20, e_X9_division_23, e_X9_division_24, e_X9_division_25, e_X9_division_28, s_coupled_bad hm0 hv, hm, true_and, and_true, rf_s, not_true_eq_false, not_false_eq_true, true_implies, false_implies, kl_i, kl_n, kl_l, kl_r, Option.toList, List.cons_append, List.nil_append, if_true, if_false, u2s, lt00, lt01, lt02, lt03, le10, le20, le30, ne10, ne20, ne30, eq00]
theorem s_division_no (hm : MdS S N P m) (hg : I (m + 1) = g) {p : Nat} (hp : p < 6) (hn : g (82 + p) < 0) : CWp S N (d + 3) MX9_division [.ref m, .int (nI p)] I J P Q ↔ Q (some (.int 0)) (u2 I m 8 2) J P := by
  rw [c_X9_division]
  have hm0 := hm
  unfold MdS at hm
  simp only [e_X9_division_0, e_X9_division_1, e_X9_division_2, e_X9_division_3, e_X9_division_6, e_X9_division_9, e_X9_division_10, e_X9_division_13, e_X9_division_16, e_X9_division_17, e_X9_division_18, e_X9_division_19, e_X9_division_20, e_X9_division_23, e_X9_division_24, e_X9_division_25, e_X9_division_28, s_coupled_no hm0 hg hp hn, hm, true_and, and_true, rf_s, not_true_eq_false, not_false_eq_true, true_implies, false_implies, kl_i, kl_n, kl_l, kl_r, Option.toList, List.cons_append, List.nil_append, if_true, if_false, u2s, lt00, lt01, lt02, lt03, le10, le20, le30, ne10, ne20, ne30, eq00]
theorem s_choosesJoint_bad (hm : MdS S N P m) {v : Int32} (hv : v < 0 ∨ nI 6 ≤ v) : CWp S N (d + 3) MX9_choosesJoint [.ref m, .int v] I J P Q ↔ Q (some (.int 0)) (u2 I m 8 1) J P := by
  rw [c_X9_choosesJoint]
  have hm0 := hm
  unfold MdS at hm
  simp only [e_X9_choosesJoint_0, e_X9_choosesJoint_1, e_X9_choosesJoint_2, e_X9_choosesJoint_3, e_X9_choosesJoint_6, e_X9_choosesJoint_9, e_X9_choosesJoint_10, e_X9_choosesJoint_13, e_X9_choosesJoint_16, e_X9_choosesJoint_17, e_X9_choosesJoint_18, e_X9_choosesJoint_21, e_X9_choosesJoint_22, e_X9_choosesJoint_23, e_X9_choosesJoint_26, e_X9_choosesJoint_27, e_X9_choosesJoint_30, e_X9_choosesJoint_31, e_X9_choosesJoint_34, e_X9_choosesJoint_35 isB0, e_X9_choosesJoint_35 isB1, e_X9_choosesJoint_35 isB_ite, s_coupled_bad hm0 hv, hm, true_and, and_true, rf_s, not_true_eq_false, not_false_eq_true, true_implies, false_implies, kl_i, kl_n, kl_l, kl_r, Option.toList, List.cons_append, List.nil_append, if_true, if_false, u2s, lt00, lt01, lt02, lt03, le10, le20, le30, ne10, ne20, ne30, eq00]
theorem s_choosesJoint_no (hm : MdS S N P m) (hg : I (m + 1) = g) {p : Nat} (hp : p < 6) (hn : g (82 + p) < 0) : CWp S N (d + 3) MX9_choosesJoint [.ref m, .int (nI p)] I J P Q ↔ Q (some (.int 0)) (u2 I m 8 2) J P := by
  rw [c_X9_choosesJoint]
  have hm0 := hm
  unfold MdS at hm
  simp only [e_X9_choosesJoint_0, e_X9_choosesJoint_1, e_X9_choosesJoint_2, e_X9_choosesJoint_3, e_X9_choosesJoint_6, e_X9_choosesJoint_9, e_X9_choosesJoint_10, e_X9_choosesJoint_13, e_X9_choosesJoint_16, e_X9_choosesJoint_17, e_X9_choosesJoint_18, e_X9_choosesJoint_21, e_X9_choosesJoint_22, e_X9_choosesJoint_23, e_X9_choosesJoint_26, e_X9_choosesJoint_27, e_X9_choosesJoint_30, e_X9_choosesJoint_31, e_X9_choosesJoint_34, e_X9_choosesJoint_35 isB0, e_X9_choosesJoint_35 isB1, e_X9_choosesJoint_35 isB_ite, s_coupled_no hm0 hg hp hn, hm, true_and, and_true, rf_s, not_true_eq_false, not_false_eq_true, true_implies, false_implies, kl_i, kl_n, kl_l, kl_r, Option.toList, List.cons_append, List.nil_append, if_true, if_false, u2s, lt00, lt01, lt02, lt03, le10, le20, le30, ne10, ne20, ne30, eq00]
theorem s_household (hm : MdS S N P m) (hg : I (m + 1) = g) (hh : J (m + 2) = h) (hc : Cnt g nb nc nk) (hA : CpA g) {p : Nat} (hp : p < 6)
    (hq : ∀ I' J', Im m I I' → Sc m J J' → Q (some (.long (HhV g h nb nc nk p))) I' J' P) : CWp S N (d + 5) MX9_household [.ref m, .int (nI p)] I J P Q := by
  rw [c_X9_household]
  have hm0 := hm
  unfold MdS at hm
  have k1 := nI_clamp (show 82 + p < 2 ^ 31 by omega)
  have k2 := vp_in_nI (show 82 + p < 89 by omega) (show 89 < 2 ^ 31 by decide)
  unfold HhV at hq
  rcases hA p hp with h1 | ⟨q, hcp⟩
  · have h2 : ¬ 0 ≤ g (82 + p) := by rw [h1]; decide
    have h3 : g (82 + p) < 0 := by rw [h1]; decide
    rw [if_pos h3] at hq
    simp only [e_X9_household_0, e_X9_household_1, e_X9_household_4, e_X9_household_6, e_X9_household_7, e_X9_household_8, e_X9_household_9, e_X9_household_12, e_X9_household_13, e_X9_household_14, hm, q82, k1, k2, hg, h2, true_and, and_true, rf_s, not_true_eq_false, not_false_eq_true, true_implies, false_implies, kl_i, kl_n, kl_l, kl_r, Option.toList, List.cons_append, List.nil_append, if_true, if_false, u2s, lt00, lt01, lt02, lt03, le10, le20, le30, ne10, ne20, ne30, eq00]
    refine s_taxOfPersonG hm0 hg hh hc hp (fun J1 a1 _ => ?_)
    simp only [e_X9_household_17, true_and, and_true, rf_s, not_true_eq_false, not_false_eq_true, true_implies, false_implies, kl_i, kl_n, kl_l, kl_r, Option.toList, List.cons_append, List.nil_append, if_true, if_false, u2s, lt00, lt01, lt02, lt03, le10, le20, le30, ne10, ne20, ne30, eq00]
    exact hq I J1 Im.rf a1
  · have h2 := hcp.ge
    have h3 : ¬ g (82 + p) < 0 := Int32.not_lt.mpr h2
    rw [if_neg h3, hcp.to] at hq
    simp only [e_X9_household_0, e_X9_household_1, e_X9_household_4, e_X9_household_6, e_X9_household_7, e_X9_household_8, e_X9_household_9, e_X9_household_12, e_X9_household_13, e_X9_household_14, e_X9_household_17, e_X9_household_18, e_X9_household_19, e_X9_household_20, hm, q82, k1, k2, hg, h2, true_and, and_true, rf_s, not_true_eq_false, not_false_eq_true, true_implies, false_implies, kl_i, kl_n, kl_l, kl_r, Option.toList, List.cons_append, List.nil_append, if_true, if_false, u2s, lt00, lt01, lt02, lt03, le10, le20, le30, ne10, ne20, ne30, eq00]
    refine s_jointlyC hm0 hg hh hc hcp (fun J1 a1 _ => ?_)
    simp only [e_X9_household_23, e_X9_household_24, e_X9_household_25, hm, true_and, and_true, rf_s, not_true_eq_false, not_false_eq_true, true_implies, false_implies, kl_i, kl_n, kl_l, kl_r, Option.toList, List.cons_append, List.nil_append, if_true, if_false, u2s, lt00, lt01, lt02, lt03, le10, le20, le30, ne10, ne20, ne30, eq00]
    refine s_apartC (h := h) hm0 hg (by rw [a1.h]; exact hh) hc hcp (fun J2 a2 => ?_)
    simp only [e_X9_household_28, e_X9_household_31, s_lesser, true_and, and_true, rf_s, not_true_eq_false, not_false_eq_true, true_implies, false_implies, kl_i, kl_n, kl_l, kl_r, Option.toList, List.cons_append, List.nil_append, if_true, if_false, u2s, lt00, lt01, lt02, lt03, le10, le20, le30, ne10, ne20, ne30, eq00]
    exact hq _ J2 (Im.u _) (a1.tr a2)
theorem s_householdTax_bad (hm : MdS S N P m) {v : Int32} (hv : v < 0 ∨ nI 6 ≤ v) : CWp S N (d + 2) MX9_householdTax [.ref m, .int v] I J P Q ↔ Q (some (.long 0)) (u2 I m 8 1) J P := by
  rw [c_X9_householdTax]
  unfold MdS at hm
  simp only [e_X9_householdTax_0, e_X9_householdTax_1, e_X9_householdTax_2, e_X9_householdTax_5, e_X9_householdTax_8, e_X9_householdTax_9, e_X9_householdTax_12, e_X9_householdTax_13, e_X9_householdTax_16, e_X9_householdTax_17, e_X9_householdTax_20, e_X9_householdTax_23, e_X9_householdTax_24, e_X9_householdTax_27, e_X9_householdTax_28, e_X9_householdTax_29, e_X9_householdTax_32, s_isPerson, bad6 hv, hm, true_and, and_true, rf_s, not_true_eq_false, not_false_eq_true, true_implies, false_implies, kl_i, kl_n, kl_l, kl_r, Option.toList, List.cons_append, List.nil_append, if_true, if_false, u2s, lt00, lt01, lt02, lt03, le10, le20, le30, ne10, ne20, ne30, eq00]
theorem s_householdTax_ok (hm : MdS S N P m) (hg : I (m + 1) = g) (hh : J (m + 2) = h) (hc : Cnt g nb nc nk) (hA : CpA g) {p : Nat} (hp : p < 6)
    (hq : ∀ I' J', Im m (u2 I m 8 0) I' → Sc m J J' → Q (some (.long (HhV g h nb nc nk p))) I' J' P) : CWp S N (d + 6) MX9_householdTax [.ref m, .int (nI p)] I J P Q := by
  rw [c_X9_householdTax]
  have hm0 := hm
  unfold MdS at hm
  have hg2 : (u2 I m 8 0) (m + 1) = g := by rw [u2_off _ _ _ (by omega)]; exact hg
  simp only [e_X9_householdTax_0, e_X9_householdTax_1, e_X9_householdTax_2, e_X9_householdTax_5, e_X9_householdTax_8, e_X9_householdTax_9, e_X9_householdTax_12, e_X9_householdTax_13, e_X9_householdTax_16, e_X9_householdTax_17, e_X9_householdTax_20, e_X9_householdTax_23, e_X9_householdTax_24, e_X9_householdTax_27, e_X9_householdTax_28, e_X9_householdTax_29, s_isPerson, good6 hp, hm, le00, true_and, and_true, rf_s, not_true_eq_false, not_false_eq_true, true_implies, false_implies, kl_i, kl_n, kl_l, kl_r, Option.toList, List.cons_append, List.nil_append, if_true, if_false, u2s, lt00, lt01, lt02, lt03, le10, le20, le30, ne10, ne20, ne30, eq00]
  refine s_household hm0 hg2 hh hc hA hp (fun I1 J1 b1 a1 => ?_)
  simp only [e_X9_householdTax_32, true_and, and_true, rf_s, not_true_eq_false, not_false_eq_true, true_implies, false_implies, kl_i, kl_n, kl_l, kl_r, Option.toList, List.cons_append, List.nil_append, if_true, if_false, u2s, lt00, lt01, lt02, lt03, le10, le20, le30, ne10, ne20, ne30, eq00]
  exact hq I1 J1 b1 a1
theorem s_isCounted (hm : MdS S N P m) (hg : I (m + 1) = g) (hA : CpA g) {p : Nat} (hp : p < 6) : CWp S N (d + 1) MX9_isCounted [.ref m, .int (nI p)] I J P Q ↔ Q (some (.int (if Fst g p = p then 1 else 0))) I J P := by
  rw [c_X9_isCounted]
  have hm0 := hm
  unfold MdS at hm
  have k1 := nI_clamp (show 82 + p < 2 ^ 31 by omega)
  have k2 := vp_in_nI (show 82 + p < 89 by omega) (show 89 < 2 ^ 31 by decide)
  unfold Fst
  rcases hA p hp with h1 | ⟨q, hcp⟩
  · have h3 : g (82 + p) < 0 := by rw [h1]; decide
    rw [if_pos h3]
    simp only [e_X9_isCounted_0, e_X9_isCounted_1, e_X9_isCounted_4, e_X9_isCounted_6, e_X9_isCounted_7, e_X9_isCounted_8, e_X9_isCounted_9, e_X9_isCounted_12, e_X9_isCounted_13, e_X9_isCounted_14, e_X9_isCounted_17, e_X9_isCounted_18, e_X9_isCounted_21, e_X9_isCounted_22, e_X9_isCounted_25, e_X9_isCounted_26 isB0, e_X9_isCounted_26 isB1, e_X9_isCounted_26 isB_ite, hm, q82, k1, k2, hg, h3, true_and, and_true, rf_s, not_true_eq_false, not_false_eq_true, true_implies, false_implies, kl_i, kl_n, kl_l, kl_r, Option.toList, List.cons_append, List.nil_append, if_true, if_false, u2s, lt00, lt01, lt02, lt03, le10, le20, le30, ne10, ne20, ne30, eq00]
  · have h3 : ¬ g (82 + p) < 0 := Int32.not_lt.mpr hcp.ge
    rw [if_neg h3, hcp.to]
    have hf := fun (d : Nat) (Q : Option Value → IM → JM → PM → Prop) => s_firstOf (S := S) (N := N) (d := d) (J := J) (Q := Q) hm0 hg hp hcp.2.1 hcp.2.2.2.1
    have hne := hcp.2.2.1
    unfold lo
    by_cases hlt : q < p
    · have e1 : ¬ nI q = nI p := fun z => by rw [nI_eq (by omega) (by omega)] at z; omega
      have e2 : ¬ q = p := by omega
      simp only [e_X9_isCounted_0, e_X9_isCounted_1, e_X9_isCounted_4, e_X9_isCounted_6, e_X9_isCounted_7, e_X9_isCounted_8, e_X9_isCounted_9, e_X9_isCounted_12, e_X9_isCounted_13, e_X9_isCounted_14, e_X9_isCounted_17, e_X9_isCounted_18, e_X9_isCounted_21, e_X9_isCounted_22, e_X9_isCounted_25, e_X9_isCounted_26 isB0, e_X9_isCounted_26 isB1, e_X9_isCounted_26 isB_ite, hm, q82, k1, k2, hg, h3, hf, hlt, e1, e2, true_and, and_true, rf_s, not_true_eq_false, not_false_eq_true, true_implies, false_implies, kl_i, kl_n, kl_l, kl_r, Option.toList, List.cons_append, List.nil_append, if_true, if_false, u2s, lt00, lt01, lt02, lt03, le10, le20, le30, ne10, ne20, ne30, eq00]
    · simp only [e_X9_isCounted_0, e_X9_isCounted_1, e_X9_isCounted_4, e_X9_isCounted_6, e_X9_isCounted_7, e_X9_isCounted_8, e_X9_isCounted_9, e_X9_isCounted_12, e_X9_isCounted_13, e_X9_isCounted_14, e_X9_isCounted_17, e_X9_isCounted_18, e_X9_isCounted_21, e_X9_isCounted_22, e_X9_isCounted_25, e_X9_isCounted_26 isB0, e_X9_isCounted_26 isB1, e_X9_isCounted_26 isB_ite, hm, q82, k1, k2, hg, h3, hf, hlt, true_and, and_true, rf_s, not_true_eq_false, not_false_eq_true, true_implies, false_implies, kl_i, kl_n, kl_l, kl_r, Option.toList, List.cons_append, List.nil_append, if_true, if_false, u2s, lt00, lt01, lt02, lt03, le10, le20, le30, ne10, ne20, ne30, eq00]
theorem total_loop (hm : MdS S N P m) (hc : Cnt g nb nc nk) (hA : CpA g) : ∀ (n p : Nat), p + n = 6 → ∀ (I : IM) (J : JM) (s : Int64), I (m + 1) = g → J (m + 2) = h → (∀ I' J', Im m I I' → Sc m J J' → Q (some (.long (TotF g h nb nc nk p n s))) I' J' P) →
    Wp S N (d + 6) MX9_totalTax 9 [some (.ref m), some (.long s), none, some (.int (nI p))] [] I J P Q := by
  have hm0 := hm
  unfold MdS at hm
  intro n
  induction n with
  | zero =>
    intro p hp I J s hg hh hq
    have hp : p = 6 := by omega
    subst hp
    have g1 : (6 : Int32) ≤ nI 6 := by decide
    simp only [e_X9_totalTax_9, e_X9_totalTax_10, e_X9_totalTax_12, e_X9_totalTax_41, e_X9_totalTax_42, g1, true_and, and_true, rf_s, not_true_eq_false, not_false_eq_true, true_implies, false_implies, kl_i, kl_n, kl_l, kl_r, Option.toList, List.cons_append, List.nil_append, if_true, if_false, u2s, lt00, lt01, lt02, lt03, le10, le20, le30, ne10, ne20, ne30, eq00]
    exact hq I J Im.rf Sc.rf
  | succ n ih =>
    intro p hp I J s hg hh hq
    have g1 : ¬ (6 : Int32) ≤ nI p := nI_ge (a := p) (b := 6) (by omega) (by decide)
    rw [TotF] at hq
    by_cases hf : Fst g p = p
    · rw [if_pos hf] at hq
      simp only [e_X9_totalTax_9, e_X9_totalTax_10, e_X9_totalTax_12, e_X9_totalTax_15, e_X9_totalTax_16, e_X9_totalTax_17, e_X9_totalTax_18, e_X9_totalTax_21, e_X9_totalTax_24, e_X9_totalTax_25, e_X9_totalTax_26, hm, g1, s_isCounted hm0 hg hA (show p < 6 by omega), hf, true_and, and_true, rf_s, not_true_eq_false, not_false_eq_true, true_implies, false_implies, kl_i, kl_n, kl_l, kl_r, Option.toList, List.cons_append, List.nil_append, if_true, if_false, u2s, lt00, lt01, lt02, lt03, le10, le20, le30, ne10, ne20, ne30, eq00]
      refine s_household hm0 hg hh hc hA (by omega) (fun I1 J1 b1 a1 => ?_)
      simp only [e_X9_totalTax_29, e_X9_totalTax_32, e_X9_totalTax_33, e_X9_totalTax_34, e_X9_totalTax_35, e_X9_totalTax_38, nI_1, true_and, and_true, rf_s, not_true_eq_false, not_false_eq_true, true_implies, false_implies, kl_i, kl_n, kl_l, kl_r, Option.toList, List.cons_append, List.nil_append, if_true, if_false, u2s, lt00, lt01, lt02, lt03, le10, le20, le30, ne10, ne20, ne30, eq00]
      exact ih (p + 1) (by omega) I1 J1 _ (by rw [b1.g]; exact hg) (by rw [a1.h]; exact hh) (fun I' J' b2 a2 => hq I' J' (b1.tr b2) (a1.tr a2))
    · rw [if_neg hf] at hq
      rw [e_X9_totalTax_9]
      simp only [e_X9_totalTax_10, e_X9_totalTax_12, e_X9_totalTax_15, e_X9_totalTax_16, e_X9_totalTax_17, e_X9_totalTax_18, e_X9_totalTax_21, e_X9_totalTax_24, e_X9_totalTax_25, e_X9_totalTax_26, e_X9_totalTax_29, e_X9_totalTax_32, e_X9_totalTax_33, e_X9_totalTax_34, e_X9_totalTax_35, e_X9_totalTax_38, hm, g1, s_isCounted hm0 hg hA (show p < 6 by omega), hf, nI_1, true_and, and_true, rf_s, not_true_eq_false, not_false_eq_true, true_implies, false_implies, kl_i, kl_n, kl_l, kl_r, Option.toList, List.cons_append, List.nil_append, if_true, if_false, u2s, lt00, lt01, lt02, lt03, le10, le20, le30, ne10, ne20, ne30, eq00]
      exact ih (p + 1) (by omega) I J _ hg hh hq
theorem s_totalTax (hm : MdS S N P m) (hg : I (m + 1) = g) (hh : J (m + 2) = h) (hc : Cnt g nb nc nk) (hA : CpA g)
    (hq : ∀ I' J', Im m (u2 I m 8 0) I' → Sc m J J' → Q (some (.long (TotF g h nb nc nk 0 6 0))) I' J' P) : CWp S N (d + 6) MX9_totalTax [.ref m] I J P Q := by
  rw [c_X9_totalTax]
  have hm0 := hm
  unfold MdS at hm
  simp only [e_X9_totalTax_0, e_X9_totalTax_1, e_X9_totalTax_2, e_X9_totalTax_5, e_X9_totalTax_6, e_X9_totalTax_7, e_X9_totalTax_8, hm, true_and, and_true, rf_s, not_true_eq_false, not_false_eq_true, true_implies, false_implies, kl_i, kl_n, kl_l, kl_r, Option.toList, List.cons_append, List.nil_append, if_true, if_false, u2s, lt00, lt01, lt02, lt03, le10, le20, le30, ne10, ne20, ne30, eq00]
  exact total_loop hm0 hc hA 6 0 (by omega) _ J 0 (by rw [u2_off _ _ _ (by omega)]; exact hg) hh hq
end MT8

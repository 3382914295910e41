/-! the class: the assessment -/
/-- an assessment's case -/
def AsC (I : IM) (a : Nat) (e x dd f : Int32) : Prop := I a 0 = e ∧ I a 1 = x ∧ I a 2 = dd ∧ I a 3 = f
theorem RuS.f {S N : Nat → Nat} {P : PM} {r : Nat} {π : Nat → Nat} (h : RuS S N P r π) : S r = 7 ∧ (P r 1 = some (r + 1) ∧ P r 2 = some (r + 2) ∧ P r 3 = some (r + 3) ∧ P r 5 = some (r + 4) ∧ P r 6 = some (r + 5) ∧ P r 8 = some (r + 6))
  ∧ (S (r + 1) = 10 ∧ S (r + 2) = 10 ∧ S (r + 3) = 10 ∧ S (r + 4) = 10 ∧ S (r + 5) = 10 ∧ S (r + 6) = 12)
  ∧ (N (r + 1) = 6 ∧ N (r + 2) = 6 ∧ N (r + 3) = 5 ∧ N (r + 4) = 4 ∧ N (r + 5) = 4 ∧ N (r + 6) = 6) := ⟨h.1, h.2.1, h.2.2.1, h.2.2.2.1⟩
theorem AsS.f {S N : Nat → Nat} {P : PM} {a : Nat} (h : AsS S N P a) : S a = 0 ∧ (P a 4 = some (a + 1) ∧ P a 5 = some (a + 2) ∧ P a 6 = some (a + 3)) ∧ (S (a + 1) = 11 ∧ S (a + 2) = 11 ∧ S (a + 3) = 14) ∧ (N (a + 1) = 6 ∧ N (a + 2) = 6 ∧ N (a + 3) = 6) := ⟨h.1, h.2.1, h.2.2.1, h.2.2.2.1⟩
section KT5
variable {S N : Nat → Nat} {d : Nat} {I : IM} {J : JM} {P : PM} {Q : Option Value → IM → JM → PM → Prop} {r as : Nat} {π : Nat → Nat} {g : Nat → Int32} {h : Nat → Int64} {nb nc nk : Nat} {e x dd f : Int32}
theorem k_share (ha : AsS S N P as) (hc : AsC I as e x dd f) (hr : Cs e x dd f) {st rt : Int32} (hs : Bd st 9999) (hrt : Bd rt 999) : CWp S N d MX0_shareAbove [.ref as, .int st, .int rt] I J P Q ↔ Q (some (.long (Tabv rt x (f * st)))) I J P := by
  rw [c_X0_shareAbove]
  have ha := ha.f
  obtain ⟨-, c1, -, c3⟩ := hc
  obtain ⟨E, X, D, F, -, hX, -, hF, -, rfl, -, rfl⟩ := hr
  obtain ⟨A, hA, rfl⟩ := hs
  obtain ⟨R, hR, rfl⟩ := hrt
  obtain ⟨q1, q2, q3⟩ := abv_eq hX hF hA hR
  rw [q1]
  by_cases h : F * A < X
  · have h1 := q2.mpr h
    have h2 : ¬ nI X - nI F * nI A ≤ 0 := Int32.not_le.mpr h1
    simp only [e_X0_shareAbove_0, e_X0_shareAbove_1, e_X0_shareAbove_4, e_X0_shareAbove_5, e_X0_shareAbove_8, e_X0_shareAbove_9, e_X0_shareAbove_10, e_X0_shareAbove_11, e_X0_shareAbove_12, e_X0_shareAbove_13, e_X0_shareAbove_16, e_X0_shareAbove_17, e_X0_shareAbove_18, e_X0_shareAbove_19, e_X0_shareAbove_20, e_X0_shareAbove_23, e_X0_shareAbove_24, e_X0_shareAbove_27, e_X0_shareAbove_28, ha, c1, c3, h2, q3 h, true_and, and_true, rf_s, not_true_eq_false, not_false_eq_true, true_implies, false_implies, kl_i, kl_n, kl_l, kl_r, Option.toList, List.cons_append, List.nil_append, if_true, if_false, u2s, lt00, lt01, lt02, lt03, le10, le20, le30, ne10, ne20, ne30, eq00]
  · have h2 : nI X - nI F * nI A ≤ 0 := Int32.not_lt.mp (fun z => h (q2.mp z))
    have h3 : lN (1000 * (R * (X - F * A))) = 0 := by rw [show X - F * A = 0 by omega]; rfl
    rw [h3]
    simp only [e_X0_shareAbove_0, e_X0_shareAbove_1, e_X0_shareAbove_4, e_X0_shareAbove_5, e_X0_shareAbove_8, e_X0_shareAbove_9, e_X0_shareAbove_10, e_X0_shareAbove_11, e_X0_shareAbove_12, e_X0_shareAbove_13, e_X0_shareAbove_16, e_X0_shareAbove_17, e_X0_shareAbove_18, e_X0_shareAbove_19, e_X0_shareAbove_20, e_X0_shareAbove_23, e_X0_shareAbove_24, e_X0_shareAbove_27, e_X0_shareAbove_28, ha, c1, c3, h2, true_and, and_true, rf_s, not_true_eq_false, not_false_eq_true, true_implies, false_implies, kl_i, kl_n, kl_l, kl_r, Option.toList, List.cons_append, List.nil_append, if_true, if_false, u2s, lt00, lt01, lt02, lt03, le10, le20, le30, ne10, ne20, ne30, eq00]
theorem k_valueOf (ha : AsS S N P as) (hc : AsC I as e x dd f) (hr : Cs e x dd f) {q : Nat} (hq1 : S q = 10) (hq2 : N q = 6) {k : Nat} (hk : k < nk) (hg : Rb g nb nc nk) (hn : ∀ j, j < 6 → I q j = g (28 + 6 * k + j)) : CWp S N (d + 1) MX0_valueOf [.ref as, .ref q] I J P Q ↔ Q (some (.long (Tval g k e x dd f))) I J P := by
  rw [c_X0_valueOf]
  have ha0 := ha
  have hc0 := hc
  have ha := ha.f
  obtain ⟨c0, -, c2, -⟩ := hc
  obtain ⟨b0, b1, b2, b3, b4, b5⟩ := hg.2.2.2.2.2 k hk
  have n1 := hn 1 (by decide)
  have n2 := hn 2 (by decide)
  have n3 := hn 3 (by decide)
  have n4 := hn 4 (by decide)
  have n5 := hn 5 (by decide)
  rw [show 28 + 6 * k + 1 = 29 + 6 * k by omega] at n1
  rw [show 28 + 6 * k + 2 = 30 + 6 * k by omega] at n2
  rw [show 28 + 6 * k + 3 = 31 + 6 * k by omega] at n3
  rw [show 28 + 6 * k + 4 = 32 + 6 * k by omega] at n4
  rw [show 28 + 6 * k + 5 = 33 + 6 * k by omega] at n5
  have sh := fun (d : Nat) (Q : Option Value → IM → JM → PM → Prop) => k_share (S := S) (N := N) (d := d) (J := J) (P := P) (Q := Q) ha0 hc0 hr b3 b4
  have one : (1 : Int32).toInt64 = 1 := by decide
  have m1 : (g (29 + 6 * k)).toInt64 * 1000000 = 1000000 * (g (29 + 6 * k)).toInt64 := Int64.mul_comm _ _
  have ph : (e * g (30 + 6 * k)).toInt64 * 1000 = 1000 * (g (30 + 6 * k)).toInt64 * e.toInt64 := by
    obtain ⟨E, X, D, F, hE, hX, -, hF, rfl, rfl, -, rfl⟩ := hr
    obtain ⟨R, hR, e2⟩ := b2
    have hb : E * R ≤ 19998 * 999 := Nat.mul_le_mul hE hR
    rw [e2, pk_mul, nI_l (by omega), nI_l (by omega), nI_l (by omega), ← lN1000, lN_mul, lN_mul, lN_mul, Nat.mul_assoc 1000 R E, Nat.mul_comm 1000 (R * E), Nat.mul_comm R E]
  unfold Tval
  by_cases h5 : g (33 + 6 * k) = 1 <;> by_cases h2 : g (30 + 6 * k) = 0
  · have h5' := eq_true h5
    have h2' := eq_true h2
    simp only [e_X0_valueOf_0, e_X0_valueOf_1, e_X0_valueOf_2, e_X0_valueOf_3, e_X0_valueOf_4, e_X0_valueOf_7, e_X0_valueOf_8, e_X0_valueOf_9, e_X0_valueOf_10, e_X0_valueOf_11, e_X0_valueOf_12, e_X0_valueOf_13, e_X0_valueOf_16, e_X0_valueOf_17, e_X0_valueOf_18, e_X0_valueOf_21, e_X0_valueOf_22, e_X0_valueOf_23, e_X0_valueOf_24, e_X0_valueOf_25, e_X0_valueOf_26, e_X0_valueOf_27, e_X0_valueOf_30, e_X0_valueOf_31, e_X0_valueOf_34, e_X0_valueOf_35, e_X0_valueOf_36, e_X0_valueOf_37, e_X0_valueOf_38, e_X0_valueOf_39, e_X0_valueOf_42, e_X0_valueOf_43, e_X0_valueOf_45, e_X0_valueOf_46, e_X0_valueOf_48, e_X0_valueOf_51, e_X0_valueOf_52, e_X0_valueOf_53, e_X0_valueOf_54, e_X0_valueOf_55, e_X0_valueOf_56, e_X0_valueOf_57, e_X0_valueOf_58, e_X0_valueOf_59, e_X0_valueOf_60, e_X0_valueOf_61, e_X0_valueOf_64, e_X0_valueOf_65, e_X0_valueOf_68, ha, hq1, hq2, c0, c2, n1, n2, n3, n4, n5, h5', h2', sh, m1, lmax0_eq, cl_1, cl_2, cl_3, cl_4, cl_5, vl6_1, vl6_2, vl6_3, vl6_4, vl6_5, true_and, and_true, rf_s, not_true_eq_false, not_false_eq_true, true_implies, false_implies, kl_i, kl_n, kl_l, kl_r, Option.toList, List.cons_append, List.nil_append, if_true, if_false, u2s, lt00, lt01, lt02, lt03, le10, le20, le30, ne10, ne20, ne30, eq00]
  · have h5' := eq_true h5
    have h2' := eq_false h2
    simp only [e_X0_valueOf_0, e_X0_valueOf_1, e_X0_valueOf_2, e_X0_valueOf_3, e_X0_valueOf_4, e_X0_valueOf_7, e_X0_valueOf_8, e_X0_valueOf_9, e_X0_valueOf_10, e_X0_valueOf_11, e_X0_valueOf_12, e_X0_valueOf_13, e_X0_valueOf_16, e_X0_valueOf_17, e_X0_valueOf_18, e_X0_valueOf_21, e_X0_valueOf_22, e_X0_valueOf_23, e_X0_valueOf_24, e_X0_valueOf_25, e_X0_valueOf_26, e_X0_valueOf_27, e_X0_valueOf_30, e_X0_valueOf_31, e_X0_valueOf_34, e_X0_valueOf_35, e_X0_valueOf_36, e_X0_valueOf_37, e_X0_valueOf_38, e_X0_valueOf_39, e_X0_valueOf_42, e_X0_valueOf_43, e_X0_valueOf_45, e_X0_valueOf_46, e_X0_valueOf_48, e_X0_valueOf_51, e_X0_valueOf_52, e_X0_valueOf_53, e_X0_valueOf_54, e_X0_valueOf_55, e_X0_valueOf_56, e_X0_valueOf_57, e_X0_valueOf_58, e_X0_valueOf_59, e_X0_valueOf_60, e_X0_valueOf_61, e_X0_valueOf_64, e_X0_valueOf_65, e_X0_valueOf_68, ha, hq1, hq2, c0, c2, n1, n2, n3, n4, n5, h5', h2', sh, m1, ph, lmax0_eq, lmin_eq, cl_1, cl_2, cl_3, cl_4, cl_5, vl6_1, vl6_2, vl6_3, vl6_4, vl6_5, true_and, and_true, rf_s, not_true_eq_false, not_false_eq_true, true_implies, false_implies, kl_i, kl_n, kl_l, kl_r, Option.toList, List.cons_append, List.nil_append, if_true, if_false, u2s, lt00, lt01, lt02, lt03, le10, le20, le30, ne10, ne20, ne30, eq00]
  · have h5' := eq_false h5
    have h2' := eq_true h2
    simp only [e_X0_valueOf_0, e_X0_valueOf_1, e_X0_valueOf_2, e_X0_valueOf_3, e_X0_valueOf_4, e_X0_valueOf_7, e_X0_valueOf_8, e_X0_valueOf_9, e_X0_valueOf_10, e_X0_valueOf_11, e_X0_valueOf_12, e_X0_valueOf_13, e_X0_valueOf_16, e_X0_valueOf_17, e_X0_valueOf_18, e_X0_valueOf_21, e_X0_valueOf_22, e_X0_valueOf_23, e_X0_valueOf_24, e_X0_valueOf_25, e_X0_valueOf_26, e_X0_valueOf_27, e_X0_valueOf_30, e_X0_valueOf_31, e_X0_valueOf_34, e_X0_valueOf_35, e_X0_valueOf_36, e_X0_valueOf_37, e_X0_valueOf_38, e_X0_valueOf_39, e_X0_valueOf_42, e_X0_valueOf_43, e_X0_valueOf_45, e_X0_valueOf_46, e_X0_valueOf_48, e_X0_valueOf_51, e_X0_valueOf_52, e_X0_valueOf_53, e_X0_valueOf_54, e_X0_valueOf_55, e_X0_valueOf_56, e_X0_valueOf_57, e_X0_valueOf_58, e_X0_valueOf_59, e_X0_valueOf_60, e_X0_valueOf_61, e_X0_valueOf_64, e_X0_valueOf_65, e_X0_valueOf_68, ha, hq1, hq2, c0, c2, n1, n2, n3, n4, n5, h5', h2', sh, m1, lmax0_eq, one, Int64.mul_one, cl_1, cl_2, cl_3, cl_4, cl_5, vl6_1, vl6_2, vl6_3, vl6_4, vl6_5, true_and, and_true, rf_s, not_true_eq_false, not_false_eq_true, true_implies, false_implies, kl_i, kl_n, kl_l, kl_r, Option.toList, List.cons_append, List.nil_append, if_true, if_false, u2s, lt00, lt01, lt02, lt03, le10, le20, le30, ne10, ne20, ne30, eq00]
  · have h5' := eq_false h5
    have h2' := eq_false h2
    simp only [e_X0_valueOf_0, e_X0_valueOf_1, e_X0_valueOf_2, e_X0_valueOf_3, e_X0_valueOf_4, e_X0_valueOf_7, e_X0_valueOf_8, e_X0_valueOf_9, e_X0_valueOf_10, e_X0_valueOf_11, e_X0_valueOf_12, e_X0_valueOf_13, e_X0_valueOf_16, e_X0_valueOf_17, e_X0_valueOf_18, e_X0_valueOf_21, e_X0_valueOf_22, e_X0_valueOf_23, e_X0_valueOf_24, e_X0_valueOf_25, e_X0_valueOf_26, e_X0_valueOf_27, e_X0_valueOf_30, e_X0_valueOf_31, e_X0_valueOf_34, e_X0_valueOf_35, e_X0_valueOf_36, e_X0_valueOf_37, e_X0_valueOf_38, e_X0_valueOf_39, e_X0_valueOf_42, e_X0_valueOf_43, e_X0_valueOf_45, e_X0_valueOf_46, e_X0_valueOf_48, e_X0_valueOf_51, e_X0_valueOf_52, e_X0_valueOf_53, e_X0_valueOf_54, e_X0_valueOf_55, e_X0_valueOf_56, e_X0_valueOf_57, e_X0_valueOf_58, e_X0_valueOf_59, e_X0_valueOf_60, e_X0_valueOf_61, e_X0_valueOf_64, e_X0_valueOf_65, e_X0_valueOf_68, ha, hq1, hq2, c0, c2, n1, n2, n3, n4, n5, h5', h2', sh, m1, ph, lmax0_eq, lmin_eq, one, Int64.mul_one, cl_1, cl_2, cl_3, cl_4, cl_5, vl6_1, vl6_2, vl6_3, vl6_4, vl6_5, true_and, and_true, rf_s, not_true_eq_false, not_false_eq_true, true_implies, false_implies, kl_i, kl_n, kl_l, kl_r, Option.toList, List.cons_append, List.nil_append, if_true, if_false, u2s, lt00, lt01, lt02, lt03, le10, le20, le30, ne10, ne20, ne30, eq00]
theorem cd_loop (ha : AsS S N P as) (hc : AsC I as e x dd f) (hs : RuS S N P r π) (hb : Cb nb nc nk) {J0 : JM} (hr : Rul I J0 r π g h nb nc nk) (hg : Rb g nb nc nk) : ∀ (n k : Nat), k + n = nc → ∀ (s : Nat), Wp S N d MX0_chargesDue 4 [some (.ref as), some (.ref r), some (.int (nI s)), some (.int (nI k))] [] I J P Q ↔ Q (some (.int (nI (s + ChS g x f k n)))) I J P := by
  have hs' := hs.f
  have ha := ha.f
  obtain ⟨-, c1, -, c3⟩ := hc
  obtain ⟨⟨-, r4, -⟩, -, -, r5, -⟩ := hr
  intro n
  induction n with
  | zero =>
    intro k hk s
    have hk : k = nc := by omega
    subst hk
    have g1 : nI k ≤ nI k := nI_le (Nat.le_refl k) (by have := hb.2.1; omega)
    simp only [e_X0_chargesDue_4, e_X0_chargesDue_5, e_X0_chargesDue_6, e_X0_chargesDue_9, e_X0_chargesDue_45, e_X0_chargesDue_46, hs', r4, g1, ChS, Nat.add_zero, true_and, and_true, rf_s, not_true_eq_false, not_false_eq_true, true_implies, false_implies, kl_i, kl_n, kl_l, kl_r, Option.toList, List.cons_append, List.nil_append, if_true, if_false, u2s, lt00, lt01, lt02, lt03, le10, le20, le30, ne10, ne20, ne30, eq00]
  | succ n ih =>
    intro k hk s
    have hk4 : k < 4 := by have := hb.2.1; omega
    have g1 : ¬ nI nc ≤ nI k := nI_ge (by omega) (by have := hb.2.1; omega)
    obtain ⟨t1, t2⟩ := r5 k (by omega)
    obtain ⟨A, hA, eA⟩ := (hg.2.2.2.2.1 k (by omega)).2
    rw [ChS, e_X0_chargesDue_4]
    by_cases hcc : f * g (19 + 2 * k) ≤ x
    · have hc2 : ¬ x < f * g (19 + 2 * k) := Int32.not_lt.mpr hcc
      rw [if_pos hcc, eA, nI_clamp (by omega), ← Nat.add_assoc]
      simp only [e_X0_chargesDue_0, e_X0_chargesDue_1, e_X0_chargesDue_2, e_X0_chargesDue_3, e_X0_chargesDue_5, e_X0_chargesDue_6, e_X0_chargesDue_9, e_X0_chargesDue_12, e_X0_chargesDue_13, e_X0_chargesDue_16, e_X0_chargesDue_17, e_X0_chargesDue_20, e_X0_chargesDue_21, e_X0_chargesDue_24, e_X0_chargesDue_25, e_X0_chargesDue_26, e_X0_chargesDue_27, e_X0_chargesDue_30, e_X0_chargesDue_31, e_X0_chargesDue_32, e_X0_chargesDue_35, e_X0_chargesDue_36, e_X0_chargesDue_37, e_X0_chargesDue_38, e_X0_chargesDue_39, e_X0_chargesDue_42, e_X0_chargesDue_45, e_X0_chargesDue_46, hs', ha, r4, g1, c1, c3, t1, t2, eA, hc2, nI_1, nI_add, nI_clamp (show k < 2 ^ 31 by omega), vpn hk4 (by decide), true_and, and_true, rf_s, not_true_eq_false, not_false_eq_true, true_implies, false_implies, kl_i, kl_n, kl_l, kl_r, Option.toList, List.cons_append, List.nil_append, if_true, if_false, u2s, lt00, lt01, lt02, lt03, le10, le20, le30, ne10, ne20, ne30, eq00]
      exact ih (k + 1) (by omega) (s + A)
    · have hc2 : x < f * g (19 + 2 * k) := Int32.not_le.mp hcc
      rw [if_neg hcc, Nat.zero_add]
      simp only [e_X0_chargesDue_0, e_X0_chargesDue_1, e_X0_chargesDue_2, e_X0_chargesDue_3, e_X0_chargesDue_5, e_X0_chargesDue_6, e_X0_chargesDue_9, e_X0_chargesDue_12, e_X0_chargesDue_13, e_X0_chargesDue_16, e_X0_chargesDue_17, e_X0_chargesDue_20, e_X0_chargesDue_21, e_X0_chargesDue_24, e_X0_chargesDue_25, e_X0_chargesDue_26, e_X0_chargesDue_27, e_X0_chargesDue_30, e_X0_chargesDue_31, e_X0_chargesDue_32, e_X0_chargesDue_35, e_X0_chargesDue_36, e_X0_chargesDue_37, e_X0_chargesDue_38, e_X0_chargesDue_39, e_X0_chargesDue_42, e_X0_chargesDue_45, e_X0_chargesDue_46, hs', ha, r4, g1, c1, c3, t1, t2, eA, hc2, nI_1, nI_add, nI_clamp (show k < 2 ^ 31 by omega), vpn hk4 (by decide), true_and, and_true, rf_s, not_true_eq_false, not_false_eq_true, true_implies, false_implies, kl_i, kl_n, kl_l, kl_r, Option.toList, List.cons_append, List.nil_append, if_true, if_false, u2s, lt00, lt01, lt02, lt03, le10, le20, le30, ne10, ne20, ne30, eq00]
      exact ih (k + 1) (by omega) s
theorem k_charges (ha : AsS S N P as) (hc : AsC I as e x dd f) (hs : RuS S N P r π) (hb : Cb nb nc nk) {J0 : JM} (hr : Rul I J0 r π g h nb nc nk) (hg : Rb g nb nc nk) : CWp S N d MX0_chargesDue [.ref as, .ref r] I J P Q ↔ Q (some (.int (nI (ChS g x f 0 nc)))) I J P := by
  rw [c_X0_chargesDue]
  simp only [e_X0_chargesDue_0, e_X0_chargesDue_1, e_X0_chargesDue_2, e_X0_chargesDue_3, true_and, and_true, rf_s, not_true_eq_false, not_false_eq_true, true_implies, false_implies, kl_i, kl_n, kl_l, kl_r, Option.toList, List.cons_append, List.nil_append, if_true, if_false, u2s, lt00, lt01, lt02, lt03, le10, le20, le30, ne10, ne20, ne30, eq00]
  have := cd_loop (d := d) (J := J) (P := P) (Q := Q) ha hc hs hb hr hg nc 0 (by omega) 0
  rw [Nat.zero_add] at this
  exact this
theorem sc_loop (ha : AsS S N P as) (hc : AsC I as e x dd f) (hcs : Cs e x dd f) (hs : RuS S N P r π) (hb : Cb nb nc nk) {J0 : JM} (hr : Rul I J0 r π g h nb nc nk) (hg : Rb g nb nc nk) {t : Int64} {u : Nat} (hu : u ≤ 39996000) (ht : t = lN (1000 * u)) : ∀ (n k : Nat), k + n = nb → ∀ (s : Int64) (x7 x8 x9 x10 : Option Value), Wp S N (d + 1) MX0_scheduled 6 [some (.ref as), some (.ref r), some (.long t), none, some (.long s), none, some (.int (nI k)), x7, x8, x9, x10] [] I J P Q ↔ Q (some (.long (Tsch g t f k n s))) I J P := by
  have hs' := hs.f
  have ha := ha.f
  obtain ⟨-, -, -, c3⟩ := hc
  obtain ⟨⟨r0, -, -⟩, r1, -, -, -⟩ := hr
  obtain ⟨E, X, D, F, -, -, -, hF, -, -, -, eF⟩ := hcs
  have hb6 := hb.1
  have thr : ∀ j, j < nb → ∃ v, v ≤ 19998000 ∧ (f * g (1 + 2 * j)).toInt64 * 1000000 = lN (1000 * v) ∧ 1000000 * (f * g (1 + 2 * j)).toInt64 = lN (1000 * v) := fun j hj => by
    obtain ⟨A, hA, eA⟩ := (hg.2.1 j hj).1
    have hFA : F * A ≤ 2 * 9999 := Nat.mul_le_mul hF hA
    have e9 : 1000000 * (f * g (1 + 2 * j)).toInt64 = lN (1000 * (1000 * (F * A))) := by
      rw [eF, eA, pk_mul, nI_l (by omega), ← lNM, lN_mul]
      congr 1
      omega
    exact ⟨1000 * (F * A), by omega, by rw [Int64.mul_comm]; exact e9, e9⟩
  intro n
  induction n with
  | zero =>
    intro k hk s x7 x8 x9 x10
    have hk : k = nb := by omega
    subst hk
    have g1 : nI k ≤ nI k := nI_le (Nat.le_refl k) (by omega)
    simp only [e_X0_scheduled_6, e_X0_scheduled_8, e_X0_scheduled_9, e_X0_scheduled_12, e_X0_scheduled_109, e_X0_scheduled_111, hs', r0, g1, Tsch, true_and, and_true, rf_s, not_true_eq_false, not_false_eq_true, true_implies, false_implies, kl_i, kl_n, kl_l, kl_r, Option.toList, List.cons_append, List.nil_append, if_true, if_false, u2s, lt00, lt01, lt02, lt03, le10, le20, le30, ne10, ne20, ne30, eq00]
  | succ n ih =>
    intro k hk s x7 x8 x9 x10
    have hk6 : k < 6 := by omega
    have g1 : ¬ nI nb ≤ nI k := nI_ge (by omega) (by omega)
    obtain ⟨t1, t2⟩ := r1 k (by omega)
    obtain ⟨R, hR, eR⟩ := (hg.2.1 k (by omega)).2
    obtain ⟨v, hv, ev, ev2⟩ := thr k (by omega)
    rw [Tsch, e_X0_scheduled_6]
    by_cases hn : n = 0
    · subst hn
      have g2 : nI nb ≤ nI (k + 1) := nI_le (by omega) (by omega)
      have e5 : Tles t t = t := by unfold Tles; split <;> rfl
      rw [if_pos rfl, e5, ev2, eR, ht]
      obtain ⟨pe1, pe2⟩ := part_eq (w := u) (v := v) (by omega) (by omega) hR (s := s)
      by_cases hp : 0 < lN (1000 * u) - lN (1000 * v)
      · have hp' := eq_true hp
        simp only [e_X0_scheduled_0, e_X0_scheduled_1, e_X0_scheduled_3, e_X0_scheduled_4, e_X0_scheduled_8, e_X0_scheduled_9, e_X0_scheduled_12, e_X0_scheduled_15, e_X0_scheduled_16, e_X0_scheduled_18, e_X0_scheduled_20, e_X0_scheduled_21, e_X0_scheduled_22, e_X0_scheduled_23, e_X0_scheduled_26, e_X0_scheduled_29, e_X0_scheduled_30, e_X0_scheduled_31, e_X0_scheduled_34, e_X0_scheduled_35, e_X0_scheduled_38, e_X0_scheduled_40, e_X0_scheduled_41, e_X0_scheduled_42, e_X0_scheduled_43, e_X0_scheduled_44, e_X0_scheduled_45, e_X0_scheduled_48, e_X0_scheduled_49, e_X0_scheduled_52, e_X0_scheduled_54, e_X0_scheduled_56, e_X0_scheduled_57, e_X0_scheduled_60, e_X0_scheduled_61, e_X0_scheduled_64, e_X0_scheduled_66, e_X0_scheduled_67, e_X0_scheduled_68, e_X0_scheduled_69, e_X0_scheduled_72, e_X0_scheduled_73, e_X0_scheduled_74, e_X0_scheduled_76, e_X0_scheduled_78, e_X0_scheduled_79, e_X0_scheduled_80, e_X0_scheduled_83, e_X0_scheduled_85, e_X0_scheduled_87, e_X0_scheduled_88, e_X0_scheduled_91, e_X0_scheduled_93, e_X0_scheduled_94, e_X0_scheduled_95, e_X0_scheduled_96, e_X0_scheduled_99 neL1000, e_X0_scheduled_100, e_X0_scheduled_101, e_X0_scheduled_103, e_X0_scheduled_106, e_X0_scheduled_109, e_X0_scheduled_111, hs', ha, r0, g1, g2, c3, t1, t2, eR, ev, lc_le, hp', pe1 hp, nI_1, nI_clamp (show k < 2 ^ 31 by omega), vpn hk6 (by decide), true_and, and_true, rf_s, not_true_eq_false, not_false_eq_true, true_implies, false_implies, kl_i, kl_n, kl_l, kl_r, Option.toList, List.cons_append, List.nil_append, if_true, if_false, u2s, lt00, lt01, lt02, lt03, le10, le20, le30, ne10, ne20, ne30, eq00]
        have h9 := ih (k + 1) (by omega) (s + Tpos (lN (1000 * u) - lN (1000 * v)) / 1000 * (nI R).toInt64) (some (.long (lN (1000 * u)))) none (some (.long (lN (1000 * u) - lN (1000 * v)))) none
        rw [ht] at h9
        exact h9
      · have hp' := eq_false hp
        rw [← pe2 hp]
        simp only [e_X0_scheduled_0, e_X0_scheduled_1, e_X0_scheduled_3, e_X0_scheduled_4, e_X0_scheduled_8, e_X0_scheduled_9, e_X0_scheduled_12, e_X0_scheduled_15, e_X0_scheduled_16, e_X0_scheduled_18, e_X0_scheduled_20, e_X0_scheduled_21, e_X0_scheduled_22, e_X0_scheduled_23, e_X0_scheduled_26, e_X0_scheduled_29, e_X0_scheduled_30, e_X0_scheduled_31, e_X0_scheduled_34, e_X0_scheduled_35, e_X0_scheduled_38, e_X0_scheduled_40, e_X0_scheduled_41, e_X0_scheduled_42, e_X0_scheduled_43, e_X0_scheduled_44, e_X0_scheduled_45, e_X0_scheduled_48, e_X0_scheduled_49, e_X0_scheduled_52, e_X0_scheduled_54, e_X0_scheduled_56, e_X0_scheduled_57, e_X0_scheduled_60, e_X0_scheduled_61, e_X0_scheduled_64, e_X0_scheduled_66, e_X0_scheduled_67, e_X0_scheduled_68, e_X0_scheduled_69, e_X0_scheduled_72, e_X0_scheduled_73, e_X0_scheduled_74, e_X0_scheduled_76, e_X0_scheduled_78, e_X0_scheduled_79, e_X0_scheduled_80, e_X0_scheduled_83, e_X0_scheduled_85, e_X0_scheduled_87, e_X0_scheduled_88, e_X0_scheduled_91, e_X0_scheduled_93, e_X0_scheduled_94, e_X0_scheduled_95, e_X0_scheduled_96, e_X0_scheduled_99 neL1000, e_X0_scheduled_100, e_X0_scheduled_101, e_X0_scheduled_103, e_X0_scheduled_106, e_X0_scheduled_109, e_X0_scheduled_111, hs', ha, r0, g1, g2, c3, t1, t2, eR, ev, lc_le, hp', nI_1, nI_clamp (show k < 2 ^ 31 by omega), vpn hk6 (by decide), true_and, and_true, rf_s, not_true_eq_false, not_false_eq_true, true_implies, false_implies, kl_i, kl_n, kl_l, kl_r, Option.toList, List.cons_append, List.nil_append, if_true, if_false, u2s, lt00, lt01, lt02, lt03, le10, le20, le30, ne10, ne20, ne30, eq00]
        have h9 := ih (k + 1) (by omega) s (some (.long (lN (1000 * u)))) none (some (.long (lN (1000 * u) - lN (1000 * v)))) none
        rw [ht] at h9
        exact h9
    · have g2 : ¬ nI nb ≤ nI (k + 1) := nI_ge (by omega) (by omega)
      obtain ⟨t3, -⟩ := r1 (k + 1) (by omega)
      obtain ⟨v3, hv3, ev3, ev4⟩ := thr (k + 1) (by omega)
      rw [show 1 + 2 * (k + 1) = 3 + 2 * k by omega] at t3 ev3 ev4
      rw [if_neg hn, ev2, ev4, eR, ht, Tles_N (by omega) (by omega), show min (1000 * u) (1000 * v3) = 1000 * min u v3 by omega]
      obtain ⟨pe1, pe2⟩ := part_eq (w := min u v3) (v := v) (by omega) (by omega) hR (s := s)
      have mn : Tles (lN (1000 * u)) (lN (1000 * v3)) = lN (1000 * min u v3) := by
        rw [Tles_N (by omega) (by omega)]
        congr 1
        omega
      by_cases hp : 0 < lN (1000 * min u v3) - lN (1000 * v)
      · have hp' := eq_true hp
        simp only [e_X0_scheduled_0, e_X0_scheduled_1, e_X0_scheduled_3, e_X0_scheduled_4, e_X0_scheduled_8, e_X0_scheduled_9, e_X0_scheduled_12, e_X0_scheduled_15, e_X0_scheduled_16, e_X0_scheduled_18, e_X0_scheduled_20, e_X0_scheduled_21, e_X0_scheduled_22, e_X0_scheduled_23, e_X0_scheduled_26, e_X0_scheduled_29, e_X0_scheduled_30, e_X0_scheduled_31, e_X0_scheduled_34, e_X0_scheduled_35, e_X0_scheduled_38, e_X0_scheduled_40, e_X0_scheduled_41, e_X0_scheduled_42, e_X0_scheduled_43, e_X0_scheduled_44, e_X0_scheduled_45, e_X0_scheduled_48, e_X0_scheduled_49, e_X0_scheduled_52, e_X0_scheduled_54, e_X0_scheduled_56, e_X0_scheduled_57, e_X0_scheduled_60, e_X0_scheduled_61, e_X0_scheduled_64, e_X0_scheduled_66, e_X0_scheduled_67, e_X0_scheduled_68, e_X0_scheduled_69, e_X0_scheduled_72, e_X0_scheduled_73, e_X0_scheduled_74, e_X0_scheduled_76, e_X0_scheduled_78, e_X0_scheduled_79, e_X0_scheduled_80, e_X0_scheduled_83, e_X0_scheduled_85, e_X0_scheduled_87, e_X0_scheduled_88, e_X0_scheduled_91, e_X0_scheduled_93, e_X0_scheduled_94, e_X0_scheduled_95, e_X0_scheduled_96, e_X0_scheduled_99 neL1000, e_X0_scheduled_100, e_X0_scheduled_101, e_X0_scheduled_103, e_X0_scheduled_106, e_X0_scheduled_109, e_X0_scheduled_111, hs', ha, r0, g1, g2, c3, t1, t2, t3, eR, ev, ev3, lmin_eq, mn, lc_le, hp', pe1 hp, nI_1, nI_clamp (show k < 2 ^ 31 by omega), vpn hk6 (by decide), nI_clamp (show k + 1 < 2 ^ 31 by omega), vpn (show k + 1 < 6 by omega) (by decide), true_and, and_true, rf_s, not_true_eq_false, not_false_eq_true, true_implies, false_implies, kl_i, kl_n, kl_l, kl_r, Option.toList, List.cons_append, List.nil_append, if_true, if_false, u2s, lt00, lt01, lt02, lt03, le10, le20, le30, ne10, ne20, ne30, eq00]
        have h9 := ih (k + 1) (by omega) (s + Tpos (lN (1000 * min u v3) - lN (1000 * v)) / 1000 * (nI R).toInt64) (some (.long (lN (1000 * min u v3)))) none (some (.long (lN (1000 * min u v3) - lN (1000 * v)))) none
        rw [ht] at h9
        exact h9
      · have hp' := eq_false hp
        rw [← pe2 hp]
        simp only [e_X0_scheduled_0, e_X0_scheduled_1, e_X0_scheduled_3, e_X0_scheduled_4, e_X0_scheduled_8, e_X0_scheduled_9, e_X0_scheduled_12, e_X0_scheduled_15, e_X0_scheduled_16, e_X0_scheduled_18, e_X0_scheduled_20, e_X0_scheduled_21, e_X0_scheduled_22, e_X0_scheduled_23, e_X0_scheduled_26, e_X0_scheduled_29, e_X0_scheduled_30, e_X0_scheduled_31, e_X0_scheduled_34, e_X0_scheduled_35, e_X0_scheduled_38, e_X0_scheduled_40, e_X0_scheduled_41, e_X0_scheduled_42, e_X0_scheduled_43, e_X0_scheduled_44, e_X0_scheduled_45, e_X0_scheduled_48, e_X0_scheduled_49, e_X0_scheduled_52, e_X0_scheduled_54, e_X0_scheduled_56, e_X0_scheduled_57, e_X0_scheduled_60, e_X0_scheduled_61, e_X0_scheduled_64, e_X0_scheduled_66, e_X0_scheduled_67, e_X0_scheduled_68, e_X0_scheduled_69, e_X0_scheduled_72, e_X0_scheduled_73, e_X0_scheduled_74, e_X0_scheduled_76, e_X0_scheduled_78, e_X0_scheduled_79, e_X0_scheduled_80, e_X0_scheduled_83, e_X0_scheduled_85, e_X0_scheduled_87, e_X0_scheduled_88, e_X0_scheduled_91, e_X0_scheduled_93, e_X0_scheduled_94, e_X0_scheduled_95, e_X0_scheduled_96, e_X0_scheduled_99 neL1000, e_X0_scheduled_100, e_X0_scheduled_101, e_X0_scheduled_103, e_X0_scheduled_106, e_X0_scheduled_109, e_X0_scheduled_111, hs', ha, r0, g1, g2, c3, t1, t2, t3, eR, ev, ev3, lmin_eq, mn, lc_le, hp', nI_1, nI_clamp (show k < 2 ^ 31 by omega), vpn hk6 (by decide), nI_clamp (show k + 1 < 2 ^ 31 by omega), vpn (show k + 1 < 6 by omega) (by decide), true_and, and_true, rf_s, not_true_eq_false, not_false_eq_true, true_implies, false_implies, kl_i, kl_n, kl_l, kl_r, Option.toList, List.cons_append, List.nil_append, if_true, if_false, u2s, lt00, lt01, lt02, lt03, le10, le20, le30, ne10, ne20, ne30, eq00]
        have h9 := ih (k + 1) (by omega) s (some (.long (lN (1000 * min u v3)))) none (some (.long (lN (1000 * min u v3) - lN (1000 * v)))) none
        rw [ht] at h9
        exact h9
theorem k_scheduled (ha : AsS S N P as) (hc : AsC I as e x dd f) (hcs : Cs e x dd f) (hs : RuS S N P r π) (hb : Cb nb nc nk) {J0 : JM} (hr : Rul I J0 r π g h nb nc nk) (hg : Rb g nb nc nk) {t : Int64} {u : Nat} (hu : u ≤ 39996000) (ht : t = lN (1000 * u)) : CWp S N (d + 1) MX0_scheduled [.ref as, .ref r, .long t] I J P Q ↔ Q (some (.long (Tsch g t f 0 nb 0))) I J P := by
  rw [c_X0_scheduled]
  simp only [e_X0_scheduled_0, e_X0_scheduled_1, e_X0_scheduled_3, e_X0_scheduled_4, true_and, and_true, rf_s, not_true_eq_false, not_false_eq_true, true_implies, false_implies, kl_i, kl_n, kl_l, kl_r, Option.toList, List.cons_append, List.nil_append, if_true, if_false, u2s, lt00, lt01, lt02, lt03, le10, le20, le30, ne10, ne20, ne30, eq00]
  exact sc_loop ha hc hcs hs hb hr hg hu ht nb 0 (by omega) 0 _ _ _ _
/-- what a credit's row holds behind useCredit -/
theorem k_useCredit (ha : AsS S N P as) {k : Nat} (hk : k < 6) {kd : Nat} (hkd : kd < 3) (hq : ∀ J', (∀ a, a ≠ as → a ≠ as + 4 + k → J' a = J a) → (∀ j, j ≠ 7 → J' as j = J as j) →
      J' as 7 = J as 7 - (if kd = 1 then J (as + 4 + k) 0 + (if kd = 2 then J (as + 1) k else 0) else Tles (J (as + 4 + k) 0 + (if kd = 2 then J (as + 1) k else 0)) (Tpos (J as 7))) →
      J' (as + 4 + k) 0 = J (as + 4 + k) 0 → J' (as + 4 + k) 1 = (if kd = 1 then J (as + 4 + k) 0 + (if kd = 2 then J (as + 1) k else 0) else Tles (J (as + 4 + k) 0 + (if kd = 2 then J (as + 1) k else 0)) (Tpos (J as 7))) →
      J' (as + 4 + k) 2 = (if kd = 0 then J (as + 4 + k) 0 + (if kd = 2 then J (as + 1) k else 0) - (if kd = 1 then J (as + 4 + k) 0 + (if kd = 2 then J (as + 1) k else 0) else Tles (J (as + 4 + k) 0 + (if kd = 2 then J (as + 1) k else 0)) (Tpos (J as 7))) else 0) →
      J' (as + 4 + k) 3 = (if kd = 2 then J (as + 4 + k) 0 + (if kd = 2 then J (as + 1) k else 0) - (if kd = 1 then J (as + 4 + k) 0 + (if kd = 2 then J (as + 1) k else 0) else Tles (J (as + 4 + k) 0 + (if kd = 2 then J (as + 1) k else 0)) (Tpos (J as 7))) else 0) →
      J' (as + 4 + k) 4 = J' as 7 → Q none I J' P) : CWp S N (d + 1) MX0_useCredit [.ref as, .int (nI k), .int (nI kd)] I J P Q := by
  rw [c_X0_useCredit]
  obtain ⟨b1, b2, b3⟩ := ha.2.2.2.2 k hk
  have ha := ha.f
  have z0 : ∀ v : Int64, v + 0 = v := Int64.add_zero
  have i0 : (nI 0 = (2 : Int32)) = False := by decide
  have i1 : (nI 0 = (1 : Int32)) = False := by decide
  have i2 : (nI 0 = (0 : Int32)) = True := by decide
  have j0 : (nI 1 = (2 : Int32)) = False := by decide
  have j1 : (nI 1 = (1 : Int32)) = True := by decide
  have j2 : (nI 1 = (0 : Int32)) = False := by decide
  have k0 : (nI 2 = (2 : Int32)) = True := by decide
  have k1 : (nI 2 = (1 : Int32)) = False := by decide
  have k2 : (nI 2 = (0 : Int32)) = False := by decide
  have n1 : as ≠ as + 4 + k := by omega
  have n2 : as + 4 + k ≠ as := by omega
  have d01 : (0 : Nat) ≠ 1 := by decide
  have d02 : (0 : Nat) ≠ 2 := by decide
  have d10 : (1 : Nat) ≠ 0 := by decide
  have d12 : (1 : Nat) ≠ 2 := by decide
  have d20 : (2 : Nat) ≠ 0 := by decide
  have d21 : (2 : Nat) ≠ 1 := by decide
  rcases (show kd = 0 ∨ kd = 1 ∨ kd = 2 by omega) with rfl | rfl | rfl
  · simp only [if_pos, if_neg d01, if_neg d02, z0] at hq
    simp only [e_X0_useCredit_0, e_X0_useCredit_1, e_X0_useCredit_4, e_X0_useCredit_5, e_X0_useCredit_6, e_X0_useCredit_7, e_X0_useCredit_8, e_X0_useCredit_9, e_X0_useCredit_10, e_X0_useCredit_11, e_X0_useCredit_14, e_X0_useCredit_15, e_X0_useCredit_16, e_X0_useCredit_19, e_X0_useCredit_20, e_X0_useCredit_21, e_X0_useCredit_22, e_X0_useCredit_23, e_X0_useCredit_24, e_X0_useCredit_25, e_X0_useCredit_28, e_X0_useCredit_29, e_X0_useCredit_32, e_X0_useCredit_33, e_X0_useCredit_34, e_X0_useCredit_35, e_X0_useCredit_38, e_X0_useCredit_41, e_X0_useCredit_44, e_X0_useCredit_46, e_X0_useCredit_47, e_X0_useCredit_48, e_X0_useCredit_51, e_X0_useCredit_53, e_X0_useCredit_54, e_X0_useCredit_57, e_X0_useCredit_58, e_X0_useCredit_61, e_X0_useCredit_62, e_X0_useCredit_63, e_X0_useCredit_64, e_X0_useCredit_66, e_X0_useCredit_67, e_X0_useCredit_68, e_X0_useCredit_71, e_X0_useCredit_72, e_X0_useCredit_73, e_X0_useCredit_74, e_X0_useCredit_75, e_X0_useCredit_78, e_X0_useCredit_79, e_X0_useCredit_81, e_X0_useCredit_82, e_X0_useCredit_85, e_X0_useCredit_86, e_X0_useCredit_87, e_X0_useCredit_88, e_X0_useCredit_91, e_X0_useCredit_92, e_X0_useCredit_93, e_X0_useCredit_94, e_X0_useCredit_95, e_X0_useCredit_96, e_X0_useCredit_99, e_X0_useCredit_100, e_X0_useCredit_102, e_X0_useCredit_103, e_X0_useCredit_106, e_X0_useCredit_107, e_X0_useCredit_108, e_X0_useCredit_109, e_X0_useCredit_112, e_X0_useCredit_113, e_X0_useCredit_114, e_X0_useCredit_115, e_X0_useCredit_116, e_X0_useCredit_119, e_X0_useCredit_120, ha, b1, b2, b3, i0, i1, i2, lmax0_eq, lmin_eq, cl_0, cl_1, cl_2, cl_3, cl_4, vl5_0, vl5_1, vl5_2, vl5_3, vl5_4, nI_clamp (show k < 2 ^ 31 by omega), vpn hk (by decide), true_or, or_true, true_and, and_true, rf_s, not_true_eq_false, not_false_eq_true, true_implies, false_implies, kl_i, kl_n, kl_l, kl_r, Option.toList, List.cons_append, List.nil_append, if_true, if_false, u2s, lt00, lt01, lt02, lt03, le10, le20, le30, ne10, ne20, ne30, eq00]
    refine hq _ (fun a a1 a2 => ?_) (fun j hj => ?_) ?_ ?_ ?_ ?_ ?_ ?_
    · simp only [u2_off _ _ _ a1, u2_off _ _ _ a2]
    · simp only [u2_off _ _ _ n1, u2k _ _ _ hj]
    · simp only [u2_off _ _ _ n1, u2s]
    · simp only [u2_row, u2_off _ _ _ n2, if_neg (show ¬ (0 : Nat) = 1 by decide), if_neg (show ¬ (0 : Nat) = 2 by decide), if_neg (show ¬ (0 : Nat) = 3 by decide), if_neg (show ¬ (0 : Nat) = 4 by decide)]
    · simp only [u2_row, u2_off _ _ _ n2, if_true, if_neg (show ¬ (1 : Nat) = 2 by decide), if_neg (show ¬ (1 : Nat) = 3 by decide), if_neg (show ¬ (1 : Nat) = 4 by decide)]
    · simp only [u2_row, u2_off _ _ _ n2, if_true, if_neg (show ¬ (2 : Nat) = 3 by decide), if_neg (show ¬ (2 : Nat) = 4 by decide)]
    · simp only [u2_row, u2_off _ _ _ n2, if_true, if_neg (show ¬ (3 : Nat) = 4 by decide)]
    · simp only [u2s, u2_off _ _ _ n1]
  · simp only [if_neg d10, if_neg d12, z0, if_true] at hq
    simp only [e_X0_useCredit_0, e_X0_useCredit_1, e_X0_useCredit_4, e_X0_useCredit_5, e_X0_useCredit_6, e_X0_useCredit_7, e_X0_useCredit_8, e_X0_useCredit_9, e_X0_useCredit_10, e_X0_useCredit_11, e_X0_useCredit_14, e_X0_useCredit_15, e_X0_useCredit_16, e_X0_useCredit_19, e_X0_useCredit_20, e_X0_useCredit_21, e_X0_useCredit_22, e_X0_useCredit_23, e_X0_useCredit_24, e_X0_useCredit_25, e_X0_useCredit_28, e_X0_useCredit_29, e_X0_useCredit_32, e_X0_useCredit_33, e_X0_useCredit_34, e_X0_useCredit_35, e_X0_useCredit_38, e_X0_useCredit_41, e_X0_useCredit_44, e_X0_useCredit_46, e_X0_useCredit_47, e_X0_useCredit_48, e_X0_useCredit_51, e_X0_useCredit_53, e_X0_useCredit_54, e_X0_useCredit_57, e_X0_useCredit_58, e_X0_useCredit_61, e_X0_useCredit_62, e_X0_useCredit_63, e_X0_useCredit_64, e_X0_useCredit_66, e_X0_useCredit_67, e_X0_useCredit_68, e_X0_useCredit_71, e_X0_useCredit_72, e_X0_useCredit_73, e_X0_useCredit_74, e_X0_useCredit_75, e_X0_useCredit_78, e_X0_useCredit_79, e_X0_useCredit_81, e_X0_useCredit_82, e_X0_useCredit_85, e_X0_useCredit_86, e_X0_useCredit_87, e_X0_useCredit_88, e_X0_useCredit_91, e_X0_useCredit_92, e_X0_useCredit_93, e_X0_useCredit_94, e_X0_useCredit_95, e_X0_useCredit_96, e_X0_useCredit_99, e_X0_useCredit_100, e_X0_useCredit_102, e_X0_useCredit_103, e_X0_useCredit_106, e_X0_useCredit_107, e_X0_useCredit_108, e_X0_useCredit_109, e_X0_useCredit_112, e_X0_useCredit_113, e_X0_useCredit_114, e_X0_useCredit_115, e_X0_useCredit_116, e_X0_useCredit_119, e_X0_useCredit_120, ha, b1, b2, b3, j0, j1, j2, lmax0_eq, lmin_eq, cl_0, cl_1, cl_2, cl_3, cl_4, vl5_0, vl5_1, vl5_2, vl5_3, vl5_4, nI_clamp (show k < 2 ^ 31 by omega), vpn hk (by decide), true_or, or_true, true_and, and_true, rf_s, not_true_eq_false, not_false_eq_true, true_implies, false_implies, kl_i, kl_n, kl_l, kl_r, Option.toList, List.cons_append, List.nil_append, if_true, if_false, u2s, lt00, lt01, lt02, lt03, le10, le20, le30, ne10, ne20, ne30, eq00]
    refine hq _ (fun a a1 a2 => ?_) (fun j hj => ?_) ?_ ?_ ?_ ?_ ?_ ?_
    · simp only [u2_off _ _ _ a1, u2_off _ _ _ a2]
    · simp only [u2_off _ _ _ n1, u2k _ _ _ hj]
    · simp only [u2_off _ _ _ n1, u2s]
    · simp only [u2_row, u2_off _ _ _ n2, if_neg (show ¬ (0 : Nat) = 1 by decide), if_neg (show ¬ (0 : Nat) = 2 by decide), if_neg (show ¬ (0 : Nat) = 3 by decide), if_neg (show ¬ (0 : Nat) = 4 by decide)]
    · simp only [u2_row, u2_off _ _ _ n2, if_true, if_neg (show ¬ (1 : Nat) = 2 by decide), if_neg (show ¬ (1 : Nat) = 3 by decide), if_neg (show ¬ (1 : Nat) = 4 by decide)]
    · simp only [u2_row, u2_off _ _ _ n2, if_true, if_neg (show ¬ (2 : Nat) = 3 by decide), if_neg (show ¬ (2 : Nat) = 4 by decide)]
    · simp only [u2_row, u2_off _ _ _ n2, if_true, if_neg (show ¬ (3 : Nat) = 4 by decide)]
    · simp only [u2s, u2_off _ _ _ n1]
  · simp only [if_neg d20, if_neg d21, if_true] at hq
    simp only [e_X0_useCredit_0, e_X0_useCredit_1, e_X0_useCredit_4, e_X0_useCredit_5, e_X0_useCredit_6, e_X0_useCredit_7, e_X0_useCredit_8, e_X0_useCredit_9, e_X0_useCredit_10, e_X0_useCredit_11, e_X0_useCredit_14, e_X0_useCredit_15, e_X0_useCredit_16, e_X0_useCredit_19, e_X0_useCredit_20, e_X0_useCredit_21, e_X0_useCredit_22, e_X0_useCredit_23, e_X0_useCredit_24, e_X0_useCredit_25, e_X0_useCredit_28, e_X0_useCredit_29, e_X0_useCredit_32, e_X0_useCredit_33, e_X0_useCredit_34, e_X0_useCredit_35, e_X0_useCredit_38, e_X0_useCredit_41, e_X0_useCredit_44, e_X0_useCredit_46, e_X0_useCredit_47, e_X0_useCredit_48, e_X0_useCredit_51, e_X0_useCredit_53, e_X0_useCredit_54, e_X0_useCredit_57, e_X0_useCredit_58, e_X0_useCredit_61, e_X0_useCredit_62, e_X0_useCredit_63, e_X0_useCredit_64, e_X0_useCredit_66, e_X0_useCredit_67, e_X0_useCredit_68, e_X0_useCredit_71, e_X0_useCredit_72, e_X0_useCredit_73, e_X0_useCredit_74, e_X0_useCredit_75, e_X0_useCredit_78, e_X0_useCredit_79, e_X0_useCredit_81, e_X0_useCredit_82, e_X0_useCredit_85, e_X0_useCredit_86, e_X0_useCredit_87, e_X0_useCredit_88, e_X0_useCredit_91, e_X0_useCredit_92, e_X0_useCredit_93, e_X0_useCredit_94, e_X0_useCredit_95, e_X0_useCredit_96, e_X0_useCredit_99, e_X0_useCredit_100, e_X0_useCredit_102, e_X0_useCredit_103, e_X0_useCredit_106, e_X0_useCredit_107, e_X0_useCredit_108, e_X0_useCredit_109, e_X0_useCredit_112, e_X0_useCredit_113, e_X0_useCredit_114, e_X0_useCredit_115, e_X0_useCredit_116, e_X0_useCredit_119, e_X0_useCredit_120, ha, b1, b2, b3, k0, k1, k2, lmax0_eq, lmin_eq, cl_0, cl_1, cl_2, cl_3, cl_4, vl5_0, vl5_1, vl5_2, vl5_3, vl5_4, nI_clamp (show k < 2 ^ 31 by omega), vpn hk (by decide), true_or, or_true, true_and, and_true, rf_s, not_true_eq_false, not_false_eq_true, true_implies, false_implies, kl_i, kl_n, kl_l, kl_r, Option.toList, List.cons_append, List.nil_append, if_true, if_false, u2s, lt00, lt01, lt02, lt03, le10, le20, le30, ne10, ne20, ne30, eq00]
    refine hq _ (fun a a1 a2 => ?_) (fun j hj => ?_) ?_ ?_ ?_ ?_ ?_ ?_
    · simp only [u2_off _ _ _ a1, u2_off _ _ _ a2]
    · simp only [u2_off _ _ _ n1, u2k _ _ _ hj]
    · simp only [u2_off _ _ _ n1, u2s]
    · simp only [u2_row, u2_off _ _ _ n2, if_neg (show ¬ (0 : Nat) = 1 by decide), if_neg (show ¬ (0 : Nat) = 2 by decide), if_neg (show ¬ (0 : Nat) = 3 by decide), if_neg (show ¬ (0 : Nat) = 4 by decide)]
    · simp only [u2_row, u2_off _ _ _ n2, if_true, if_neg (show ¬ (1 : Nat) = 2 by decide), if_neg (show ¬ (1 : Nat) = 3 by decide), if_neg (show ¬ (1 : Nat) = 4 by decide)]
    · simp only [u2_row, u2_off _ _ _ n2, if_true, if_neg (show ¬ (2 : Nat) = 3 by decide), if_neg (show ¬ (2 : Nat) = 4 by decide)]
    · simp only [u2_row, u2_off _ _ _ n2, if_true, if_neg (show ¬ (3 : Nat) = 4 by decide)]
    · simp only [u2s, u2_off _ _ _ n1]
end KT5

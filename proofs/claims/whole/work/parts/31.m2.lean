/-! comparisons of longs; the model's reckoning, first part -/
theorem neL1000 : ¬ (1000 : Int64) = 0 := by decide
theorem neI6 : ¬ (6 : Int32) = 0 := by decide
theorem neI2 : ¬ (2 : Int32) = 0 := by decide
theorem lc_lt {x y : Int64} : lg_cmp x y < 0 ↔ x < y := by
  unfold lg_cmp
  by_cases h1 : x > y
  · rw [if_pos h1]
    exact ⟨fun h => absurd h (by decide), fun h => absurd (Int64.lt_trans h h1) Int64.lt_irrefl⟩
  · rw [if_neg h1]
    by_cases h2 : x = y
    · rw [if_pos h2]
      exact ⟨fun h => absurd h (by decide), fun h => by subst h2; exact absurd h Int64.lt_irrefl⟩
    · rw [if_neg h2]
      refine ⟨fun _ => ?_, fun _ => by decide⟩
      rw [Int64.lt_iff_toInt_lt]
      have h3 : ¬ y.toInt < x.toInt := fun q => h1 (Int64.lt_iff_toInt_lt.mpr q)
      have h4 : x.toInt ≠ y.toInt := fun q => h2 (Int64.toInt_inj.mp q)
      omega
theorem lc_eq {x y : Int64} : lg_cmp x y = 0 ↔ x = y := by
  unfold lg_cmp
  by_cases h1 : x > y
  · rw [if_pos h1]
    exact ⟨fun h => absurd h (by decide), fun h => by subst h; exact absurd h1 Int64.lt_irrefl⟩
  · rw [if_neg h1]
    by_cases h2 : x = y
    · rw [if_pos h2]
      exact ⟨fun _ => h2, fun _ => rfl⟩
    · rw [if_neg h2]
      exact ⟨fun h => absurd h (by decide), fun h => absurd h h2⟩
theorem lc_gt {x y : Int64} : 0 < lg_cmp x y ↔ y < x := by
  unfold lg_cmp
  by_cases h1 : x > y
  · rw [if_pos h1]
    exact ⟨fun _ => h1, fun _ => by decide⟩
  · rw [if_neg h1]
    by_cases h2 : x = y
    · rw [if_pos h2]
      exact ⟨fun h => absurd h (by decide), fun h => absurd h h1⟩
    · rw [if_neg h2]
      exact ⟨fun h => absurd h (by decide), fun h => absurd h h1⟩
theorem lc_le {x y : Int64} : lg_cmp x y ≤ 0 ↔ ¬ y < x := by
  rw [← lc_gt]
  exact Int32.not_lt.symm
theorem lc_ge {x y : Int64} : 0 ≤ lg_cmp x y ↔ ¬ x < y := by
  rw [← lc_lt]
  exact Int32.not_lt.symm
def Tpos (v : Int64) : Int64 := if 0 < v then v else 0
def Tles (a b : Int64) : Int64 := if a < b then a else b
def Tabv (rate x start : Int32) : Int64 := if start < x then 1000 * rate.toInt64 * (x - start).toInt64 else 0
/-- the scheduled tax from bracket k on, n brackets left -/
def Tsch (g : Nat → Int32) (t : Int64) (f : Int32) : Nat → Nat → Int64 → Int64
  | _, 0, s => s
  | k, n + 1, s => Tsch g t f (k + 1) n (s + Tpos (Tles t (if n = 0 then t else 1000000 * (f * g (3 + 2 * k)).toInt64) - 1000000 * (f * g (1 + 2 * k)).toInt64) / 1000 * (g (2 + 2 * k)).toInt64)
/-- the charges from k on, n left -/
def Tchg (g : Nat → Int32) (x f : Int32) : Nat → Nat → Int64 → Int64
  | _, 0, s => s
  | k, n + 1, s => Tchg g x f (k + 1) n (s + if f * g (19 + 2 * k) ≤ x then 1000000 * (g (20 + 2 * k)).toInt64 else 0)
/-- a credit's value -/
def Tval (g : Nat → Int32) (k : Nat) (e x dd f : Int32) : Int64 :=
  Tpos ((if g (30 + 6 * k) = 0 then 1000000 * (g (29 + 6 * k)).toInt64 * (if g (33 + 6 * k) = 1 then dd else 1).toInt64
    else Tles (1000000 * (g (29 + 6 * k)).toInt64 * (if g (33 + 6 * k) = 1 then dd else 1).toInt64) (1000 * (g (30 + 6 * k)).toInt64 * e.toInt64)) - Tabv (g (32 + 6 * k)) x (f * g (31 + 6 * k)))
section MT2
variable {S N : Nat → Nat} {d : Nat} {I : IM} {J : JM} {P : PM} {Q : Option Value → IM → JM → PM → Prop} {m : Nat}
theorem s_positive {v : Int64} : CWp S N d MX9_positive [.long v] I J P Q ↔ Q (some (.long (Tpos v))) I J P := by
  rw [c_X9_positive]
  simp only [e_X9_positive_0, e_X9_positive_1, e_X9_positive_2, e_X9_positive_3, e_X9_positive_6, e_X9_positive_7, e_X9_positive_10, e_X9_positive_11, lc_le, lc_gt, lc_lt, lc_ge]
  unfold Tpos
  by_cases h : 0 < v <;> simp [h]
theorem s_lesser {a b : Int64} : CWp S N d MX9_lesser [.long a, .long b] I J P Q ↔ Q (some (.long (Tles a b))) I J P := by
  rw [c_X9_lesser]
  simp only [e_X9_lesser_0, e_X9_lesser_1, e_X9_lesser_2, e_X9_lesser_3, e_X9_lesser_6, e_X9_lesser_7, e_X9_lesser_10, e_X9_lesser_11, lc_le, lc_gt, lc_lt, lc_ge]
  unfold Tles
  by_cases h : a < b <;> simp [h]
theorem s_above {r x st : Int32} : CWp S N d MX9_above [.int r, .int x, .int st] I J P Q ↔ Q (some (.long (Tabv r x st))) I J P := by
  rw [c_X9_above]
  simp only [e_X9_above_0, e_X9_above_1, e_X9_above_2, e_X9_above_5, e_X9_above_8, e_X9_above_9, e_X9_above_10, e_X9_above_11, e_X9_above_12, e_X9_above_13, e_X9_above_14, e_X9_above_15, e_X9_above_16, e_X9_above_19, e_X9_above_20]
  unfold Tabv
  by_cases h : st < x
  · simp [h, Int32.not_le.mpr h]
  · simp [h, Int32.not_lt.mp h]
theorem nIx {a b : Nat} (k : Nat) : nI a + nI b * nI k = nI (a + b * k) := by rw [pk_mul, nI_add]
theorem nIx2 {a b c : Nat} (k : Nat) : nI a + nI b * nI k + nI c = nI (a + b * k + c) := by rw [pk_mul, nI_add, nI_add]
theorem sched_loop (hm : MdS S N P m) {nb : Nat} (hnb : nb ≤ 6) (h0 : I (m + 1) 0 = nI nb) {t : Int64} {f : Int32} : ∀ (n k : Nat), k + n = nb → ∀ (x7 x8 x9 x10 : Option Value) (s : Int64), Wp S N (d + 1) MX9_scheduled 6 [some (.ref m), some (.long t), none, some (.int f), some (.long s), none, some (.int (nI k)), x7, x8, x9, x10] [] I J P Q ↔ Q (some (.long (Tsch (I (m + 1)) t f k n s))) I J P := by
  unfold MdS at hm
  intro n
  induction n with
  | zero =>
    intro k hk x7 x8 x9 x10 s
    have hk : k = nb := by omega
    subst hk
    have i0 : vp_in (0 : Int32) 89 := vp_in_nI (n := 0) (by decide) (by decide)
    have e0 : (0 : Int32).toNatClampNeg = 0 := rfl
    simp only [e_X9_scheduled_0, e_X9_scheduled_1, e_X9_scheduled_3, e_X9_scheduled_4, e_X9_scheduled_6, e_X9_scheduled_8, e_X9_scheduled_9, e_X9_scheduled_12, e_X9_scheduled_13, e_X9_scheduled_14, e_X9_scheduled_17, e_X9_scheduled_20, e_X9_scheduled_21, e_X9_scheduled_22, e_X9_scheduled_25, e_X9_scheduled_26, e_X9_scheduled_27, e_X9_scheduled_29, e_X9_scheduled_30, e_X9_scheduled_31, e_X9_scheduled_32, e_X9_scheduled_33, e_X9_scheduled_34, e_X9_scheduled_35, e_X9_scheduled_37, e_X9_scheduled_39, e_X9_scheduled_40, e_X9_scheduled_41, e_X9_scheduled_42, e_X9_scheduled_45, e_X9_scheduled_46, e_X9_scheduled_47, e_X9_scheduled_50, e_X9_scheduled_53, e_X9_scheduled_54, e_X9_scheduled_55, e_X9_scheduled_58, e_X9_scheduled_59, e_X9_scheduled_60, e_X9_scheduled_62, e_X9_scheduled_63, e_X9_scheduled_64, e_X9_scheduled_65, e_X9_scheduled_66, e_X9_scheduled_67, e_X9_scheduled_68, e_X9_scheduled_69, e_X9_scheduled_70, e_X9_scheduled_73, e_X9_scheduled_74, e_X9_scheduled_76, e_X9_scheduled_78, e_X9_scheduled_79, e_X9_scheduled_81, e_X9_scheduled_84, e_X9_scheduled_86, e_X9_scheduled_87, e_X9_scheduled_90, e_X9_scheduled_93 neL1000, e_X9_scheduled_94, e_X9_scheduled_95, e_X9_scheduled_98, e_X9_scheduled_99, e_X9_scheduled_100, e_X9_scheduled_102, e_X9_scheduled_103, e_X9_scheduled_104, e_X9_scheduled_105, e_X9_scheduled_106, e_X9_scheduled_107, e_X9_scheduled_108, e_X9_scheduled_109, e_X9_scheduled_110, e_X9_scheduled_112, e_X9_scheduled_115, e_X9_scheduled_118, e_X9_scheduled_120, hm, true_and, rf_s, i0, e0, h0, nI_le (Nat.le_refl k) (show k < 2 ^ 31 by omega), not_true_eq_false, true_implies, false_implies, and_true, Tsch]
  | succ n ih =>
    intro k hk x7 x8 x9 x10 s
    have i0 : vp_in (0 : Int32) 89 := vp_in_nI (n := 0) (by decide) (by decide)
    have e0 : (0 : Int32).toNatClampNeg = 0 := rfl
    have q1 : (1 : Int32) + 2 * nI k = nI (1 + 2 * k) := nIx (a := 1) (b := 2) k
    have q3 : nI (1 + 2 * k) + 2 = nI (3 + 2 * k) := by rw [show (2 : Int32) = nI 2 from rfl, nI_add]; congr 1; omega
    have q2 : nI (1 + 2 * k) + 1 = nI (2 + 2 * k) := by rw [nI_1]; congr 1; omega
    have g1 : ¬ nI nb ≤ nI k := nI_ge (by omega) (by omega)
    rw [Tsch, e_X9_scheduled_6]
    by_cases hn : n = 0
    · subst hn
      have g2 : nI nb ≤ nI (k + 1) := nI_le (by omega) (by omega)
      simp only [e_X9_scheduled_0, e_X9_scheduled_1, e_X9_scheduled_3, e_X9_scheduled_4, e_X9_scheduled_8, e_X9_scheduled_9, e_X9_scheduled_12, e_X9_scheduled_13, e_X9_scheduled_14, e_X9_scheduled_17, e_X9_scheduled_20, e_X9_scheduled_21, e_X9_scheduled_22, e_X9_scheduled_25, e_X9_scheduled_26, e_X9_scheduled_27, e_X9_scheduled_29, e_X9_scheduled_30, e_X9_scheduled_31, e_X9_scheduled_32, e_X9_scheduled_33, e_X9_scheduled_34, e_X9_scheduled_35, e_X9_scheduled_37, e_X9_scheduled_39, e_X9_scheduled_40, e_X9_scheduled_41, e_X9_scheduled_42, e_X9_scheduled_45, e_X9_scheduled_46, e_X9_scheduled_47, e_X9_scheduled_50, e_X9_scheduled_53, e_X9_scheduled_54, e_X9_scheduled_55, e_X9_scheduled_58, e_X9_scheduled_59, e_X9_scheduled_60, e_X9_scheduled_62, e_X9_scheduled_63, e_X9_scheduled_64, e_X9_scheduled_65, e_X9_scheduled_66, e_X9_scheduled_67, e_X9_scheduled_68, e_X9_scheduled_69, e_X9_scheduled_70, e_X9_scheduled_73, e_X9_scheduled_74, e_X9_scheduled_76, e_X9_scheduled_78, e_X9_scheduled_79, e_X9_scheduled_81, e_X9_scheduled_84, e_X9_scheduled_86, e_X9_scheduled_87, e_X9_scheduled_90, e_X9_scheduled_93 neL1000, e_X9_scheduled_94, e_X9_scheduled_95, e_X9_scheduled_98, e_X9_scheduled_99, e_X9_scheduled_100, e_X9_scheduled_102, e_X9_scheduled_103, e_X9_scheduled_104, e_X9_scheduled_105, e_X9_scheduled_106, e_X9_scheduled_107, e_X9_scheduled_108, e_X9_scheduled_109, e_X9_scheduled_110, e_X9_scheduled_112, e_X9_scheduled_115, e_X9_scheduled_118, e_X9_scheduled_120, hm, true_and, rf_s, i0, e0, h0, g1, g2, nI_1, q1, q2, q3, nI_clamp (show 1 + 2 * k < 2 ^ 31 by omega), nI_clamp (show 2 + 2 * k < 2 ^ 31 by omega), vp_in_nI (show 1 + 2 * k < 89 by omega) (show 89 < 2 ^ 31 by decide), vp_in_nI (show 2 + 2 * k < 89 by omega) (show 89 < 2 ^ 31 by decide), not_true_eq_false, not_false_eq_true, true_implies, false_implies, and_true, s_lesser, s_positive, Option.toList, List.cons_append, List.nil_append, kl_i, kl_n, kl_l, kl_r, if_true]
      exact ih (k + 1) (by omega) _ _ _ _ _
    · have g2 : ¬ nI nb ≤ nI (k + 1) := nI_ge (by omega) (by omega)
      simp only [e_X9_scheduled_0, e_X9_scheduled_1, e_X9_scheduled_3, e_X9_scheduled_4, e_X9_scheduled_8, e_X9_scheduled_9, e_X9_scheduled_12, e_X9_scheduled_13, e_X9_scheduled_14, e_X9_scheduled_17, e_X9_scheduled_20, e_X9_scheduled_21, e_X9_scheduled_22, e_X9_scheduled_25, e_X9_scheduled_26, e_X9_scheduled_27, e_X9_scheduled_29, e_X9_scheduled_30, e_X9_scheduled_31, e_X9_scheduled_32, e_X9_scheduled_33, e_X9_scheduled_34, e_X9_scheduled_35, e_X9_scheduled_37, e_X9_scheduled_39, e_X9_scheduled_40, e_X9_scheduled_41, e_X9_scheduled_42, e_X9_scheduled_45, e_X9_scheduled_46, e_X9_scheduled_47, e_X9_scheduled_50, e_X9_scheduled_53, e_X9_scheduled_54, e_X9_scheduled_55, e_X9_scheduled_58, e_X9_scheduled_59, e_X9_scheduled_60, e_X9_scheduled_62, e_X9_scheduled_63, e_X9_scheduled_64, e_X9_scheduled_65, e_X9_scheduled_66, e_X9_scheduled_67, e_X9_scheduled_68, e_X9_scheduled_69, e_X9_scheduled_70, e_X9_scheduled_73, e_X9_scheduled_74, e_X9_scheduled_76, e_X9_scheduled_78, e_X9_scheduled_79, e_X9_scheduled_81, e_X9_scheduled_84, e_X9_scheduled_86, e_X9_scheduled_87, e_X9_scheduled_90, e_X9_scheduled_93 neL1000, e_X9_scheduled_94, e_X9_scheduled_95, e_X9_scheduled_98, e_X9_scheduled_99, e_X9_scheduled_100, e_X9_scheduled_102, e_X9_scheduled_103, e_X9_scheduled_104, e_X9_scheduled_105, e_X9_scheduled_106, e_X9_scheduled_107, e_X9_scheduled_108, e_X9_scheduled_109, e_X9_scheduled_110, e_X9_scheduled_112, e_X9_scheduled_115, e_X9_scheduled_118, e_X9_scheduled_120, hm, true_and, rf_s, i0, e0, h0, g1, g2, nI_1, q1, q2, q3, nI_clamp (show 1 + 2 * k < 2 ^ 31 by omega), nI_clamp (show 2 + 2 * k < 2 ^ 31 by omega), nI_clamp (show 3 + 2 * k < 2 ^ 31 by omega), vp_in_nI (show 1 + 2 * k < 89 by omega) (show 89 < 2 ^ 31 by decide), vp_in_nI (show 2 + 2 * k < 89 by omega) (show 89 < 2 ^ 31 by decide), vp_in_nI (show 3 + 2 * k < 89 by omega) (show 89 < 2 ^ 31 by decide), not_true_eq_false, not_false_eq_true, true_implies, false_implies, and_true, s_lesser, s_positive, Option.toList, List.cons_append, List.nil_append, kl_i, kl_n, kl_l, kl_r, if_neg hn]
      exact ih (k + 1) (by omega) _ _ _ _ _
theorem s_scheduled (hm : MdS S N P m) {nb : Nat} (hnb : nb ≤ 6) (h0 : I (m + 1) 0 = nI nb) {t : Int64} {f : Int32} : CWp S N (d + 1) MX9_scheduled [.ref m, .long t, .int f] I J P Q ↔ Q (some (.long (Tsch (I (m + 1)) t f 0 nb 0))) I J P := by
  rw [c_X9_scheduled]
  simp only [e_X9_scheduled_0, e_X9_scheduled_1, e_X9_scheduled_3, e_X9_scheduled_4, kl_i, kl_n, kl_l, kl_r]
  exact sched_loop hm hnb h0 nb 0 (by omega) _ _ _ _ _
theorem chg_loop (hm : MdS S N P m) {nc : Nat} (hnc : nc ≤ 4) (h0 : I (m + 1) 18 = nI nc) {x f : Int32} : ∀ (n k : Nat), k + n = nc → ∀ (s : Int64), Wp S N d MX9_charges 5 [some (.ref m), some (.int x), some (.int f), some (.long s), none, some (.int (nI k))] [] I J P Q ↔ Q (some (.long (Tchg (I (m + 1)) x f k n s))) I J P := by
  unfold MdS at hm
  have i0 : vp_in (18 : Int32) 89 := vp_in_nI (n := 18) (by decide) (by decide)
  have e0 : (18 : Int32).toNatClampNeg = 18 := rfl
  intro n
  induction n with
  | zero =>
    intro k hk s
    have hk : k = nc := by omega
    subst hk
    simp only [e_X9_charges_0, e_X9_charges_1, e_X9_charges_2, e_X9_charges_3, e_X9_charges_5, e_X9_charges_7, e_X9_charges_8, e_X9_charges_11, e_X9_charges_13, e_X9_charges_14, e_X9_charges_17, e_X9_charges_18, e_X9_charges_19, e_X9_charges_20, e_X9_charges_21, e_X9_charges_24, e_X9_charges_26, e_X9_charges_27, e_X9_charges_29, e_X9_charges_30, e_X9_charges_31, e_X9_charges_32, e_X9_charges_33, e_X9_charges_36, e_X9_charges_39, e_X9_charges_40, e_X9_charges_43, e_X9_charges_45, e_X9_charges_46, e_X9_charges_48, e_X9_charges_49, e_X9_charges_50, e_X9_charges_51, e_X9_charges_52, e_X9_charges_53, e_X9_charges_54, e_X9_charges_55, e_X9_charges_58, e_X9_charges_59, e_X9_charges_60, e_X9_charges_61, e_X9_charges_64, e_X9_charges_67, e_X9_charges_68, hm, true_and, rf_s, i0, e0, h0, nI_le (Nat.le_refl k) (show k < 2 ^ 31 by omega), not_true_eq_false, true_implies, false_implies, and_true, Tchg]
  | succ n ih =>
    intro k hk s
    have q1 : (19 : Int32) + 2 * nI k = nI (19 + 2 * k) := nIx (a := 19) (b := 2) k
    have q2 : nI (19 + 2 * k) + 1 = nI (20 + 2 * k) := by rw [nI_1]; congr 1; omega
    have g1 : ¬ nI nc ≤ nI k := nI_ge (by omega) (by omega)
    rw [Tchg, e_X9_charges_5]
    by_cases hc : f * I (m + 1) (19 + 2 * k) ≤ x
    · have hc2 : ¬ x < f * I (m + 1) (19 + 2 * k) := Int32.not_lt.mpr hc
      simp only [e_X9_charges_0, e_X9_charges_1, e_X9_charges_2, e_X9_charges_3, e_X9_charges_7, e_X9_charges_8, e_X9_charges_11, e_X9_charges_13, e_X9_charges_14, e_X9_charges_17, e_X9_charges_18, e_X9_charges_19, e_X9_charges_20, e_X9_charges_21, e_X9_charges_24, e_X9_charges_26, e_X9_charges_27, e_X9_charges_29, e_X9_charges_30, e_X9_charges_31, e_X9_charges_32, e_X9_charges_33, e_X9_charges_36, e_X9_charges_39, e_X9_charges_40, e_X9_charges_43, e_X9_charges_45, e_X9_charges_46, e_X9_charges_48, e_X9_charges_49, e_X9_charges_50, e_X9_charges_51, e_X9_charges_52, e_X9_charges_53, e_X9_charges_54, e_X9_charges_55, e_X9_charges_58, e_X9_charges_59, e_X9_charges_60, e_X9_charges_61, e_X9_charges_64, e_X9_charges_67, e_X9_charges_68, hm, true_and, rf_s, i0, e0, h0, g1, hc, hc2, nI_1, q1, q2, nI_clamp (show 19 + 2 * k < 2 ^ 31 by omega), nI_clamp (show 20 + 2 * k < 2 ^ 31 by omega), vp_in_nI (show 19 + 2 * k < 89 by omega) (show 89 < 2 ^ 31 by decide), vp_in_nI (show 20 + 2 * k < 89 by omega) (show 89 < 2 ^ 31 by decide), not_true_eq_false, not_false_eq_true, true_implies, false_implies, and_true, kl_i, kl_n, kl_l, kl_r, if_true]
      exact ih (k + 1) (by omega) _
    · have hc2 : x < f * I (m + 1) (19 + 2 * k) := Int32.not_le.mp hc
      simp only [e_X9_charges_0, e_X9_charges_1, e_X9_charges_2, e_X9_charges_3, e_X9_charges_7, e_X9_charges_8, e_X9_charges_11, e_X9_charges_13, e_X9_charges_14, e_X9_charges_17, e_X9_charges_18, e_X9_charges_19, e_X9_charges_20, e_X9_charges_21, e_X9_charges_24, e_X9_charges_26, e_X9_charges_27, e_X9_charges_29, e_X9_charges_30, e_X9_charges_31, e_X9_charges_32, e_X9_charges_33, e_X9_charges_36, e_X9_charges_39, e_X9_charges_40, e_X9_charges_43, e_X9_charges_45, e_X9_charges_46, e_X9_charges_48, e_X9_charges_49, e_X9_charges_50, e_X9_charges_51, e_X9_charges_52, e_X9_charges_53, e_X9_charges_54, e_X9_charges_55, e_X9_charges_58, e_X9_charges_59, e_X9_charges_60, e_X9_charges_61, e_X9_charges_64, e_X9_charges_67, e_X9_charges_68, hm, true_and, rf_s, i0, e0, h0, g1, hc, hc2, nI_1, q1, q2, nI_clamp (show 19 + 2 * k < 2 ^ 31 by omega), nI_clamp (show 20 + 2 * k < 2 ^ 31 by omega), vp_in_nI (show 19 + 2 * k < 89 by omega) (show 89 < 2 ^ 31 by decide), vp_in_nI (show 20 + 2 * k < 89 by omega) (show 89 < 2 ^ 31 by decide), not_true_eq_false, not_false_eq_true, true_implies, false_implies, and_true, kl_i, kl_n, kl_l, kl_r, if_false]
      exact ih (k + 1) (by omega) _
theorem s_charges (hm : MdS S N P m) {nc : Nat} (hnc : nc ≤ 4) (h0 : I (m + 1) 18 = nI nc) {x f : Int32} : CWp S N d MX9_charges [.ref m, .int x, .int f] I J P Q ↔ Q (some (.long (Tchg (I (m + 1)) x f 0 nc 0))) I J P := by
  rw [c_X9_charges]
  simp only [e_X9_charges_0, e_X9_charges_1, e_X9_charges_2, e_X9_charges_3, kl_i, kl_n, kl_l, kl_r]
  exact chg_loop hm hnc h0 nc 0 (by omega) _
theorem s_valueOf (hm : MdS S N P m) {k : Nat} (hk : k < 6) {e x dd f : Int32} : CWp S N (d + 1) MX9_valueOf [.ref m, .int (nI k), .int e, .int x, .int dd, .int f] I J P Q ↔ Q (some (.long (Tval (I (m + 1)) k e x dd f))) I J P := by
  rw [c_X9_valueOf]
  have hm0 := hm
  unfold MdS at hm
  have c0 := fun (Q : Option Value → IM → JM → PM → Prop) (j : Nat) (hj : j < 6) => s_creditOf (S := S) (N := N) (d := d) (I := I) (J := J) (Q := Q) hm0 hk hj
  have c1 := fun Q => c0 Q 1 (by decide)
  have c2 := fun Q => c0 Q 2 (by decide)
  have c3 := fun Q => c0 Q 3 (by decide)
  have c4 := fun Q => c0 Q 4 (by decide)
  have c5 := fun Q => c0 Q 5 (by decide)
  simp only [show nI 1 = (1 : Int32) from rfl, show nI 2 = (2 : Int32) from rfl, show nI 3 = (3 : Int32) from rfl, show nI 4 = (4 : Int32) from rfl, show nI 5 = (5 : Int32) from rfl] at c1 c2 c3 c4 c5
  have r1 : 28 + 6 * k + 1 = 29 + 6 * k := by omega
  have r2 : 28 + 6 * k + 2 = 30 + 6 * k := by omega
  have r3 : 28 + 6 * k + 3 = 31 + 6 * k := by omega
  have r4 : 28 + 6 * k + 4 = 32 + 6 * k := by omega
  have r5 : 28 + 6 * k + 5 = 33 + 6 * k := by omega
  rw [r1] at c1
  rw [r2] at c2
  rw [r3] at c3
  rw [r4] at c4
  rw [r5] at c5
  unfold Tval
  by_cases h5 : I (m + 1) (33 + 6 * k) = 1 <;> by_cases h2 : I (m + 1) (30 + 6 * k) = 0 <;>
    simp only [e_X9_valueOf_0, e_X9_valueOf_3, e_X9_valueOf_4, e_X9_valueOf_5, e_X9_valueOf_6, e_X9_valueOf_9, e_X9_valueOf_10, e_X9_valueOf_11, e_X9_valueOf_12, e_X9_valueOf_13, e_X9_valueOf_14, e_X9_valueOf_17, e_X9_valueOf_18, e_X9_valueOf_21, e_X9_valueOf_23, e_X9_valueOf_26, e_X9_valueOf_27, e_X9_valueOf_28, e_X9_valueOf_29, e_X9_valueOf_31, e_X9_valueOf_32, e_X9_valueOf_33, e_X9_valueOf_34, e_X9_valueOf_37, e_X9_valueOf_40, e_X9_valueOf_42, e_X9_valueOf_45, e_X9_valueOf_47, e_X9_valueOf_50, e_X9_valueOf_51, e_X9_valueOf_52, e_X9_valueOf_53, e_X9_valueOf_56, e_X9_valueOf_57, e_X9_valueOf_58, e_X9_valueOf_59, e_X9_valueOf_60, e_X9_valueOf_61, e_X9_valueOf_64, e_X9_valueOf_66, e_X9_valueOf_68, e_X9_valueOf_69, e_X9_valueOf_70, e_X9_valueOf_71, e_X9_valueOf_74, e_X9_valueOf_75, e_X9_valueOf_77, e_X9_valueOf_78, e_X9_valueOf_79, e_X9_valueOf_80, e_X9_valueOf_83, e_X9_valueOf_84, e_X9_valueOf_87, e_X9_valueOf_88, e_X9_valueOf_91, hm, true_and, c1, c2, c3, c4, c5, h5, h2, not_true_eq_false, not_false_eq_true, true_implies, false_implies, and_true, s_lesser, s_positive, s_above, Option.toList, List.cons_append, List.nil_append, kl_i, kl_n, kl_l, kl_r, if_true, if_false]
end MT2

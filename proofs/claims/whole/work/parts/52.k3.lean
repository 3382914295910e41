/-! the class: what changes rules -/
theorem RuS.onP {S N : Nat → Nat} {P P' : PM} {r : Nat} {π : Nat → Nat} (hs : RuS S N P r π) (hP : ∀ a, r ≤ a → a < r + 25 → P' a = P a) : RuS S N P' r π := by
  obtain ⟨h1, h2, h3, h4, h5, h6, h7⟩ := hs
  refine ⟨h1, by rw [hP r (by omega) (by omega)]; exact h2, h3, h4, fun k hk => by rw [hP (r + 6) (by omega) (by omega)]; exact h5 k hk, h6, fun j hj => by rw [hP (r + 7 + 3 * j) (by omega) (by omega)]; exact h7 j hj⟩
theorem mvp_lt {f t i : Nat} (hf : f < 6) (ht : t < 6) (hi : i < 6) : mvp f t i < 6 := by
  unfold mvp
  split
  · omega
  · split
    · omega
    · split <;> omega
theorem mvp_inj {f t i j : Nat} (h : mvp f t i = mvp f t j) : i = j := by
  unfold mvp at h
  repeat' split at h
  all_goals omega
/-- the credits that a rules object has, put in another order -/
theorem RuS.mv {S N : Nat → Nat} {P P' : PM} {r : Nat} {π : Nat → Nat} (hs : RuS S N P r π) {f t : Nat} (hf : f < 6) (ht : t < 6) (hP : ∀ a, a ≠ r + 6 → P' a = P a) (hR : ∀ k, k < 6 → P' (r + 6) k = P (r + 6) (mvp f t k)) : RuS S N P' r (fun k => π (mvp f t k)) := by
  obtain ⟨h1, h2, h3, h4, h5, h6, h7⟩ := hs
  refine ⟨h1, by rw [hP r (by omega)]; exact h2, h3, h4, fun k hk => by rw [hR k hk]; exact h5 _ (mvp_lt hf ht hk), fun j k hj hk e => mvp_inj (h6 _ _ (mvp_lt hf ht hj) (mvp_lt hf ht hk) e), fun j hj => by rw [hP (r + 7 + 3 * j) (by omega)]; exact h7 j hj⟩
/-- an assessment's rows -/
def AsS (S N : Nat → Nat) (P : PM) (a : Nat) : Prop := S a = 0 ∧ (P a 4 = some (a + 1) ∧ P a 5 = some (a + 2) ∧ P a 6 = some (a + 3)) ∧ (S (a + 1) = 11 ∧ S (a + 2) = 11 ∧ S (a + 3) = 14) ∧ (N (a + 1) = 6 ∧ N (a + 2) = 6 ∧ N (a + 3) = 6) ∧ ∀ i, i < 6 → P (a + 3) i = some (a + 4 + i) ∧ S (a + 4 + i) = 11 ∧ N (a + 4 + i) = 5
section KT3
variable {S N : Nat → Nat} {d : Nat} {I : IM} {J : JM} {P : PM} {Q : Option Value → IM → JM → PM → Prop} {r : Nat} {π : Nat → Nat} {g : Nat → Int32} {h : Nat → Int64} {nb nc nk : Nat}
theorem cl_k1 (hs : RuS S N P r π) : ∀ (n k : Nat), k + n = 5 → ∀ (I : IM), (∀ I', (∀ a, a ≠ r + 3 → I' a = I a) → (∀ j, k ≤ j → j < 5 → I' (r + 3) j = 0) → (∀ j, j < k → I' (r + 3) j = I (r + 3) j) → Wp S N d MX7_clear 39 [some (.ref r), some (.int (nI 5))] [] I' J P Q) →
    Wp S N d MX7_clear 21 [some (.ref r), some (.int (nI k))] [] I J P Q := by
  have hs' := hs
  unfold RuS at hs'
  intro n
  induction n with
  | zero =>
    intro k hk I hq
    have hk : k = 5 := by omega
    subst hk
    have g1 : (5 : Int32) ≤ nI 5 := by decide
    simp only [e_X7_clear_21, e_X7_clear_22, e_X7_clear_23, g1, true_and, and_true, rf_s, not_true_eq_false, not_false_eq_true, true_implies, false_implies, kl_i, kl_n, kl_l, kl_r, Option.toList, List.cons_append, List.nil_append, if_true, if_false, u2s, lt00, lt01, lt02, lt03, le10, le20, le30, ne10, ne20, ne30, eq00]
    exact hq I (fun _ _ => rfl) (fun j h1 h2 => by omega) (fun _ _ => rfl)
  | succ n ih =>
    intro k hk I hq
    have g1 : ¬ (5 : Int32) ≤ nI k := nI_ge (b := 5) (by omega) (by decide)
    rw [e_X7_clear_21]
    simp only [e_X7_clear_22, e_X7_clear_23, e_X7_clear_26, e_X7_clear_27, e_X7_clear_30, e_X7_clear_31, e_X7_clear_32, e_X7_clear_33, e_X7_clear_36, hs', g1, nI_1, nI_clamp (show k < 2 ^ 31 by omega), vpn (show k < 5 by omega) (by decide), true_and, and_true, rf_s, not_true_eq_false, not_false_eq_true, true_implies, false_implies, kl_i, kl_n, kl_l, kl_r, Option.toList, List.cons_append, List.nil_append, if_true, if_false, u2s, lt00, lt01, lt02, lt03, le10, le20, le30, ne10, ne20, ne30, eq00]
    refine ih (k + 1) (by omega) _ (fun I' a1 a2 a3 => hq I' (fun a ha => (a1 a ha).trans (u2_off _ _ _ ha)) (fun j h1 h2 => ?_) (fun j hj => by rw [a3 j (by omega), u2k _ _ _ (by omega)]))
    by_cases hj : j = k
    · subst hj
      rw [a3 j (by omega), u2s]
    · exact a2 j (by omega) h2
theorem k_clear (hs : RuS S N P r π)
    (hq : ∀ I', (∀ a, a < r ∨ r + 25 ≤ a → I' a = I a) → (∀ (g : Nat → Int32) (h : Nat → Int64), (∀ k, k < 64 → g k = if k = 0 then 1 else 0) → Rul I' J r π g h 1 0 0) → Q none I' J P) : CWp S N d MX7_clear [.ref r] I J P Q := by
  rw [c_X7_clear]
  have hs' := hs
  unfold RuS at hs'
  simp only [e_X7_clear_0, e_X7_clear_1, e_X7_clear_2, e_X7_clear_5, e_X7_clear_6, e_X7_clear_9, e_X7_clear_10, e_X7_clear_11, e_X7_clear_12, e_X7_clear_13, e_X7_clear_16, e_X7_clear_17, e_X7_clear_18, e_X7_clear_19, e_X7_clear_20, hs', cl_0, vl6_0, true_and, and_true, rf_s, not_true_eq_false, not_false_eq_true, true_implies, false_implies, kl_i, kl_n, kl_l, kl_r, Option.toList, List.cons_append, List.nil_append, if_true, if_false, u2s, lt00, lt01, lt02, lt03, le10, le20, le30, ne10, ne20, ne30, eq00]
  refine cl_k1 hs 5 0 rfl _ (fun I1 a1 a2 _ => ?_)
  simp only [e_X7_clear_39, e_X7_clear_40, e_X7_clear_41, e_X7_clear_44, e_X7_clear_45, e_X7_clear_46, e_X7_clear_49, hs', true_and, and_true, rf_s, not_true_eq_false, not_false_eq_true, true_implies, false_implies, kl_i, kl_n, kl_l, kl_r, Option.toList, List.cons_append, List.nil_append, if_true, if_false, u2s, lt00, lt01, lt02, lt03, le10, le20, le30, ne10, ne20, ne30, eq00]
  refine hq _ (fun a ha => ?_) (fun g h hg => ⟨⟨?_, ?_, ?_⟩, fun k hk => ?_, fun j hj => ?_, fun k hk => absurd hk (Nat.not_lt_zero k), fun k hk => absurd hk (Nat.not_lt_zero k)⟩)
  · rw [u2_off _ _ _ (by omega), u2_off _ _ _ (by omega), a1 a (by omega), u2_off _ _ _ (by omega), u2_off _ _ _ (by omega), u2_off _ _ _ (by omega)]
  · rw [u2k _ _ _ (by decide), u2k _ _ _ (by decide), a1 r (by omega), u2_off _ _ _ (by omega), u2_off _ _ _ (by omega), u2s]; rfl
  · rw [u2k _ _ _ (by decide), u2s]; rfl
  · rw [u2s]; rfl
  · have hk : k = 0 := by omega
    subst hk
    rw [hg 1 (by decide), hg 2 (by decide), if_neg (by decide), if_neg (by decide)]
    constructor
    · rw [u2_off _ _ _ (by omega), u2_off _ _ _ (by omega), a1 (r + 1) (by omega), u2_off _ _ _ (by omega), u2s]
    · rw [u2_off _ _ _ (by omega), u2_off _ _ _ (by omega), a1 (r + 2) (by omega), u2s]
  · rw [hg _ (by omega), if_neg (by omega), u2_off _ _ _ (by omega), u2_off _ _ _ (by omega)]
    exact a2 j (Nat.zero_le _) hj
theorem sh_up (hs : RuS S N P r π) {f t : Nat} (hf : f < 6) (ht : t < 6) {w : Nat} (hw : S w = 2) : ∀ (n i : Nat), i + n = t → f ≤ i → ∀ (P' : PM), (∀ a, a ≠ r + 6 → P' a = P a) → (∀ k, k < 6 → P' (r + 6) k = if k = i then P' (r + 6) i else P (r + 6) (mvp f i k)) → (∃ v, P' (r + 6) i = some v ∧ S v = 2) →
    (∀ P'', (∀ a, a ≠ r + 6 → P'' a = P a) → (∀ k, k < 6 → k ≠ t → P'' (r + 6) k = P (r + 6) (mvp f t k)) → (∃ v, P'' (r + 6) t = some v ∧ S v = 2) → Wp S N d MX7_shiftCredit 38 [some (.ref r), some (.int (nI f)), some (.int (nI t)), some (.ref w), some (.int (nI t))] [] I J P'' Q) →
    Wp S N d MX7_shiftCredit 10 [some (.ref r), some (.int (nI f)), some (.int (nI t)), some (.ref w), some (.int (nI i))] [] I J P' Q := by
  have hs' := hs
  unfold RuS at hs'
  intro n
  induction n with
  | zero =>
    intro i hi hfi P' hP hR hv hq
    have hi : i = t := by omega
    subst hi
    have g1 : nI i ≤ nI i := nI_le (Nat.le_refl i) (by omega)
    simp only [e_X7_shiftCredit_10, e_X7_shiftCredit_12, e_X7_shiftCredit_13, g1, true_and, and_true, rf_s, not_true_eq_false, not_false_eq_true, true_implies, false_implies, kl_i, kl_n, kl_l, kl_r, Option.toList, List.cons_append, List.nil_append, if_true, if_false, u2s, lt00, lt01, lt02, lt03, le10, le20, le30, ne10, ne20, ne30, eq00]
    exact hq P' hP (fun k hk hne => by rw [hR k hk, if_neg hne]) hv
  | succ n ih =>
    intro i hi hfi P' hP hR hv hq
    have hi6 : i + 1 < 6 := by omega
    have g1 : ¬ nI t ≤ nI i := nI_ge (by omega) (by omega)
    obtain ⟨hq1, hq2⟩ := hs.2.2.2.2.1 (mvp f i (i + 1)) (mvp_lt hf (by omega) hi6)
    have hr8 : P' r 8 = some (r + 6) := by rw [hP r (by omega)]; exact hs'.2.1.2.2.2.2.2
    have hri : P' (r + 6) (i + 1) = some (r + 7 + 3 * π (mvp f i (i + 1))) := by rw [hR (i + 1) hi6, if_neg (by omega)]; exact hq2
    have hS2 : S (r + 7 + 3 * π (mvp f i (i + 1))) = 2 := (hs.2.2.2.2.2.2 _ hq1).1
    rw [e_X7_shiftCredit_10]
    simp only [e_X7_shiftCredit_12, e_X7_shiftCredit_13, e_X7_shiftCredit_16, e_X7_shiftCredit_17, e_X7_shiftCredit_20, e_X7_shiftCredit_22, e_X7_shiftCredit_23, e_X7_shiftCredit_26, e_X7_shiftCredit_28, e_X7_shiftCredit_29, e_X7_shiftCredit_30, e_X7_shiftCredit_31, e_X7_shiftCredit_32, e_X7_shiftCredit_35, hs', g1, hr8, hri, hS2, nI_1, nI_clamp (show i < 2 ^ 31 by omega), vpn (show i < 6 by omega) (by decide), nI_clamp (show i + 1 < 2 ^ 31 by omega), vpn hi6 (by decide), true_or, or_true, and_self, true_and, and_true, rf_s, not_true_eq_false, not_false_eq_true, true_implies, false_implies, kl_i, kl_n, kl_l, kl_r, Option.toList, List.cons_append, List.nil_append, if_true, if_false, u2s, lt00, lt01, lt02, lt03, le10, le20, le30, ne10, ne20, ne30, eq00]
    refine ih (i + 1) (by omega) (by omega) _ (fun a ha => (u2_off _ _ _ ha).trans (hP a ha)) (fun k hk => ?_) ⟨_, by rw [u2k _ _ _ (by omega)]; exact hri, hS2⟩ hq
    by_cases hk1 : k = i + 1
    · rw [if_pos hk1, hk1]
    · rw [if_neg hk1]
      by_cases hk2 : k = i
      · subst hk2
        rw [u2s, ← hq2, ← mvp_up hfi]
        congr 1
        unfold sw
        rw [if_pos rfl]
      · rw [u2k _ _ _ hk2, hR k hk, if_neg hk2, ← mvp_up hfi]
        unfold sw
        rw [if_neg hk2, if_neg hk1]
theorem sh_dn (hs : RuS S N P r π) {f t : Nat} (hf : f < 6) (ht : t < 6) {w : Nat} (hw : S w = 2) : ∀ (n i : Nat), i = t + n → i ≤ f → ∀ (P' : PM), (∀ a, a ≠ r + 6 → P' a = P a) → (∀ k, k < 6 → P' (r + 6) k = if k = i then P' (r + 6) i else P (r + 6) (mvp f i k)) → (∃ v, P' (r + 6) i = some v ∧ S v = 2) →
    (∀ P'', (∀ a, a ≠ r + 6 → P'' a = P a) → (∀ k, k < 6 → k ≠ t → P'' (r + 6) k = P (r + 6) (mvp f t k)) → (∃ v, P'' (r + 6) t = some v ∧ S v = 2) → Wp S N d MX7_shiftCredit 69 [some (.ref r), some (.int (nI f)), some (.int (nI t)), some (.ref w), some (.int (nI t))] [] I J P'' Q) →
    Wp S N d MX7_shiftCredit 41 [some (.ref r), some (.int (nI f)), some (.int (nI t)), some (.ref w), some (.int (nI i))] [] I J P' Q := by
  have hs' := hs
  unfold RuS at hs'
  intro n
  induction n with
  | zero =>
    intro i hi hfi P' hP hR hv hq
    have hi : i = t := by omega
    subst hi
    have g1 : nI i ≤ nI i := nI_le (Nat.le_refl i) (by omega)
    simp only [e_X7_shiftCredit_41, e_X7_shiftCredit_43, e_X7_shiftCredit_44, g1, true_and, and_true, rf_s, not_true_eq_false, not_false_eq_true, true_implies, false_implies, kl_i, kl_n, kl_l, kl_r, Option.toList, List.cons_append, List.nil_append, if_true, if_false, u2s, lt00, lt01, lt02, lt03, le10, le20, le30, ne10, ne20, ne30, eq00]
    exact hq P' hP (fun k hk hne => by rw [hR k hk, if_neg hne]) hv
  | succ n ih =>
    intro i hi hfi P' hP hR hv hq
    obtain ⟨i, rfl⟩ : ∃ i', i = i' + 1 := ⟨i - 1, by omega⟩
    have hi6 : i < 6 := by omega
    have g1 : ¬ nI (i + 1) ≤ nI t := nI_ge (by omega) (by omega)
    obtain ⟨hq1, hq2⟩ := hs.2.2.2.2.1 (mvp f (i + 1) i) (mvp_lt hf (by omega) hi6)
    have hr8 : P' r 8 = some (r + 6) := by rw [hP r (by omega)]; exact hs'.2.1.2.2.2.2.2
    have hri : P' (r + 6) i = some (r + 7 + 3 * π (mvp f (i + 1) i)) := by rw [hR i hi6, if_neg (by omega)]; exact hq2
    have hS2 : S (r + 7 + 3 * π (mvp f (i + 1) i)) = 2 := (hs.2.2.2.2.2.2 _ hq1).1
    have q1 : nI (i + 1) + -1 = nI i := pk_m1 i
    rw [e_X7_shiftCredit_41]
    simp only [e_X7_shiftCredit_43, e_X7_shiftCredit_44, e_X7_shiftCredit_47, e_X7_shiftCredit_48, e_X7_shiftCredit_51, e_X7_shiftCredit_53, e_X7_shiftCredit_54, e_X7_shiftCredit_57, e_X7_shiftCredit_59, e_X7_shiftCredit_60, e_X7_shiftCredit_61, e_X7_shiftCredit_62, e_X7_shiftCredit_63, e_X7_shiftCredit_66, hs', g1, hr8, hri, hS2, nI_pred, q1, nI_clamp (show i < 2 ^ 31 by omega), vpn (show i < 6 by omega) (by decide), nI_clamp (show i + 1 < 2 ^ 31 by omega), vpn (show i + 1 < 6 by omega) (by decide), true_or, or_true, and_self, true_and, and_true, rf_s, not_true_eq_false, not_false_eq_true, true_implies, false_implies, kl_i, kl_n, kl_l, kl_r, Option.toList, List.cons_append, List.nil_append, if_true, if_false, u2s, lt00, lt01, lt02, lt03, le10, le20, le30, ne10, ne20, ne30, eq00]
    refine ih i (by omega) (by omega) _ (fun a ha => (u2_off _ _ _ ha).trans (hP a ha)) (fun k hk => ?_) ⟨_, by rw [u2k _ _ _ (by omega)]; exact hri, hS2⟩ hq
    by_cases hk1 : k = i
    · rw [if_pos hk1, hk1]
    · rw [if_neg hk1]
      by_cases hk2 : k = i + 1
      · subst hk2
        rw [u2s, ← hq2, ← mvp_dn (show i + 1 ≤ f by omega)]
        congr 1
        unfold sw
        rw [if_pos rfl]
      · rw [u2k _ _ _ hk2, hR k hk, if_neg hk2, ← mvp_dn (show i + 1 ≤ f by omega)]
        unfold sw
        rw [if_neg hk2, if_neg hk1]
theorem k_shift (hs : RuS S N P r π) {f t : Nat} (hf : f < 6) (ht : t < 6) (hq : ∀ P', (∀ a, a ≠ r + 6 → P' a = P a) → RuS S N P' r (fun k => π (mvp f t k)) → Q none I J P') : CWp S N d MX7_shiftCredit [.ref r, .int (nI f), .int (nI t)] I J P Q := by
  rw [c_X7_shiftCredit]
  have hs' := hs
  unfold RuS at hs'
  obtain ⟨hq1, hq2⟩ := hs.2.2.2.2.1 f hf
  have hS2 : S (r + 7 + 3 * π f) = 2 := (hs.2.2.2.2.2.2 _ hq1).1
  have end_ : ∀ (P'' : PM) (x4 : Option Value), (∀ a, a ≠ r + 6 → P'' a = P a) → (∀ k, k < 6 → k ≠ t → P'' (r + 6) k = P (r + 6) (mvp f t k)) → Wp S N d MX7_shiftCredit 69 [some (.ref r), some (.int (nI f)), some (.int (nI t)), some (.ref (r + 7 + 3 * π f)), x4] [] I J P'' Q := by
    intro P'' x4 hP hR
    have hr8 : P'' r 8 = some (r + 6) := by rw [hP r (by omega)]; exact hs'.2.1.2.2.2.2.2
    simp only [e_X7_shiftCredit_69, e_X7_shiftCredit_70, e_X7_shiftCredit_73, e_X7_shiftCredit_74, e_X7_shiftCredit_75, e_X7_shiftCredit_76, hs', hr8, hS2, nI_clamp (show t < 2 ^ 31 by omega), vpn ht (by decide), true_or, or_true, and_self, true_and, and_true, rf_s, not_true_eq_false, not_false_eq_true, true_implies, false_implies, kl_i, kl_n, kl_l, kl_r, Option.toList, List.cons_append, List.nil_append, if_true, if_false, u2s, lt00, lt01, lt02, lt03, le10, le20, le30, ne10, ne20, ne30, eq00]
    refine hq _ (fun a ha => (u2_off _ _ _ ha).trans (hP a ha)) (hs.mv hf ht (fun a ha => (u2_off _ _ _ ha).trans (hP a ha)) (fun k hk => ?_))
    by_cases hkt : k = t
    · subst hkt
      rw [u2s, ← hq2]
      congr 1
      unfold mvp
      rw [if_pos rfl]
    · rw [u2k _ _ _ hkt]
      exact hR k hk hkt
  simp only [e_X7_shiftCredit_0, e_X7_shiftCredit_1, e_X7_shiftCredit_4, e_X7_shiftCredit_5, e_X7_shiftCredit_6, e_X7_shiftCredit_7, e_X7_shiftCredit_8, hs', hq2, nI_clamp (show f < 2 ^ 31 by omega), vpn hf (by decide), true_or, or_true, true_and, and_true, rf_s, not_true_eq_false, not_false_eq_true, true_implies, false_implies, kl_i, kl_n, kl_l, kl_r, Option.toList, List.cons_append, List.nil_append, if_true, if_false, u2s, lt00, lt01, lt02, lt03, le10, le20, le30, ne10, ne20, ne30, eq00]
  have h0 : ∀ k, k < 6 → P (r + 6) k = if k = f then P (r + 6) f else P (r + 6) (mvp f f k) := fun k hk => by
    by_cases hkf : k = f
    · rw [if_pos hkf, hkf]
    · rw [if_neg hkf, mvp_ff]
  by_cases hft : f ≤ t
  · refine sh_up hs hf ht hS2 (t - f) f (by omega) (Nat.le_refl f) P (fun _ _ => rfl) h0 ⟨_, hq2, hS2⟩ (fun P1 a1 a2 a3 => ?_)
    have g1 : nI f ≤ nI t := nI_le hft (by omega)
    simp only [e_X7_shiftCredit_38, e_X7_shiftCredit_39, e_X7_shiftCredit_41, e_X7_shiftCredit_43, e_X7_shiftCredit_44, g1, true_and, and_true, rf_s, not_true_eq_false, not_false_eq_true, true_implies, false_implies, kl_i, kl_n, kl_l, kl_r, Option.toList, List.cons_append, List.nil_append, if_true, if_false, u2s, lt00, lt01, lt02, lt03, le10, le20, le30, ne10, ne20, ne30, eq00]
    exact end_ P1 _ a1 a2
  · have g1 : nI t ≤ nI f := nI_le (by omega) (by omega)
    simp only [e_X7_shiftCredit_10, e_X7_shiftCredit_12, e_X7_shiftCredit_13, e_X7_shiftCredit_38, e_X7_shiftCredit_39, g1, true_and, and_true, rf_s, not_true_eq_false, not_false_eq_true, true_implies, false_implies, kl_i, kl_n, kl_l, kl_r, Option.toList, List.cons_append, List.nil_append, if_true, if_false, u2s, lt00, lt01, lt02, lt03, le10, le20, le30, ne10, ne20, ne30, eq00]
    exact sh_dn hs hf ht hS2 (f - t) f (by omega) (Nat.le_refl f) P (fun _ _ => rfl) h0 ⟨_, hq2, hS2⟩ (fun P1 a1 a2 a3 => end_ P1 _ a1 a2)
theorem k_drop (hs : RuS S N P r π) (h7 : I r 7 = nI (nk + 1)) (hnk : nk < 6) {f : Nat} (hf : f < 6) (hq : ∀ P', (∀ a, a ≠ r + 6 → P' a = P a) → RuS S N P' r (fun k => π (mvp f nk k)) → Q none (u2 I r 7 (nI nk)) J P') : CWp S N (d + 1) MX7_dropCredit [.ref r, .int (nI f)] I J P Q := by
  rw [c_X7_dropCredit]
  have hs' := hs
  unfold RuS at hs'
  simp only [e_X7_dropCredit_0, e_X7_dropCredit_1, e_X7_dropCredit_2, e_X7_dropCredit_3, e_X7_dropCredit_6, e_X7_dropCredit_7, e_X7_dropCredit_8, hs', h7, nI_pred, true_and, and_true, rf_s, not_true_eq_false, not_false_eq_true, true_implies, false_implies, kl_i, kl_n, kl_l, kl_r, Option.toList, List.cons_append, List.nil_append, if_true, if_false, u2s, lt00, lt01, lt02, lt03, le10, le20, le30, ne10, ne20, ne30, eq00]
  refine k_shift hs hf hnk (fun P1 a1 a2 => ?_)
  simp only [e_X7_dropCredit_11, e_X7_dropCredit_12, e_X7_dropCredit_13, e_X7_dropCredit_16, e_X7_dropCredit_17, e_X7_dropCredit_18, e_X7_dropCredit_21, hs', h7, nI_pred, true_and, and_true, rf_s, not_true_eq_false, not_false_eq_true, true_implies, false_implies, kl_i, kl_n, kl_l, kl_r, Option.toList, List.cons_append, List.nil_append, if_true, if_false, u2s, lt00, lt01, lt02, lt03, le10, le20, le30, ne10, ne20, ne30, eq00]
  exact hq P1 a1 a2
theorem co_loop (hs : RuS S N P r π) {as : Nat} (ha : AsS S N P as) (hdis : as + 10 ≤ r ∨ r + 25 ≤ as) (hnk : nk ≤ 6) (h7 : I r 7 = nI nk) {p : Nat} (hp : p < 6) : ∀ (n k : Nat), k + n = nk → ∀ (J : JM), (∀ J', (∀ a, a < r ∨ r + 25 ≤ a → J' a = J a) → (∀ j q, j < nk → q < 6 → J' (r + 9 + 3 * π j) q = if q = p ∧ k ≤ j then J (as + 4 + j) 3 else J (r + 9 + 3 * π j) q) → Q none I J' P) →
    Wp S N d MX7_carryOn 2 [some (.ref r), some (.int (nI p)), some (.ref as), some (.int (nI k))] [] I J P Q := by
  have hs' := hs
  unfold RuS at hs'
  have ha' := ha
  unfold AsS at ha'
  intro n
  induction n with
  | zero =>
    intro k hk J hq
    have hk : k = nk := by omega
    subst hk
    have g1 : nI k ≤ nI k := nI_le (Nat.le_refl k) (by omega)
    simp only [e_X7_carryOn_0, e_X7_carryOn_1, e_X7_carryOn_2, e_X7_carryOn_3, e_X7_carryOn_4, e_X7_carryOn_7, e_X7_carryOn_10, e_X7_carryOn_11, e_X7_carryOn_14, e_X7_carryOn_15, e_X7_carryOn_16, e_X7_carryOn_19, e_X7_carryOn_20, e_X7_carryOn_21, e_X7_carryOn_24, e_X7_carryOn_25, e_X7_carryOn_26, e_X7_carryOn_27, e_X7_carryOn_28, e_X7_carryOn_29, e_X7_carryOn_32, e_X7_carryOn_35, hs', h7, g1, true_and, and_true, rf_s, not_true_eq_false, not_false_eq_true, true_implies, false_implies, kl_i, kl_n, kl_l, kl_r, Option.toList, List.cons_append, List.nil_append, if_true, if_false, u2s, lt00, lt01, lt02, lt03, le10, le20, le30, ne10, ne20, ne30, eq00]
    exact hq J (fun _ _ => rfl) (fun j q hj _ => by rw [if_neg (by omega)])
  | succ n ih =>
    intro k hk J hq
    have hk6 : k < 6 := by omega
    have g1 : ¬ nI nk ≤ nI k := nI_ge (by omega) (by omega)
    have c1 := cr_row hs hk6
    obtain ⟨p1, p2⟩ := hs.2.2.2.2.1 k hk6
    obtain ⟨b1, b2, b3⟩ := ha.2.2.2.2 k hk6
    rw [e_X7_carryOn_2]
    simp only [e_X7_carryOn_0, e_X7_carryOn_1, e_X7_carryOn_3, e_X7_carryOn_4, e_X7_carryOn_7, e_X7_carryOn_10, e_X7_carryOn_11, e_X7_carryOn_14, e_X7_carryOn_15, e_X7_carryOn_16, e_X7_carryOn_19, e_X7_carryOn_20, e_X7_carryOn_21, e_X7_carryOn_24, e_X7_carryOn_25, e_X7_carryOn_26, e_X7_carryOn_27, e_X7_carryOn_28, e_X7_carryOn_29, e_X7_carryOn_32, e_X7_carryOn_35, hs', ha', h7, g1, c1, p2, b1, b2, b3, nI_1, cl_3, vl5_3, nI_clamp (show k < 2 ^ 31 by omega), vpn hk6 (by decide), nI_clamp (show p < 2 ^ 31 by omega), vpn hp (by decide), true_or, or_true, true_and, and_true, rf_s, not_true_eq_false, not_false_eq_true, true_implies, false_implies, kl_i, kl_n, kl_l, kl_r, Option.toList, List.cons_append, List.nil_append, if_true, if_false, u2s, lt00, lt01, lt02, lt03, le10, le20, le30, ne10, ne20, ne30, eq00]
    refine ih (k + 1) (by omega) _ (fun J' a1 a2 => hq J' (fun a ha => (a1 a ha).trans (u2_off _ _ _ (by omega))) (fun j q hj hq6 => ?_))
    have pj := (hs.2.2.2.2.1 j (by omega)).1
    rw [a2 j q hj hq6]
    by_cases hjk : j = k
    · subst hjk
      rw [if_neg (by omega), show r + 9 + 3 * π j = r + 7 + 3 * π j + 2 by omega]
      by_cases hqp : q = p
      · subst hqp
        rw [u2s, if_pos ⟨rfl, Nat.le_refl _⟩]
      · rw [u2k _ _ _ hqp, if_neg (fun z => hqp z.1)]
    · have hpi : π j ≠ π k := fun z => hjk (hs.2.2.2.2.2.1 j k (by omega) hk6 z)
      rw [u2_off _ _ _ (show as + 4 + j ≠ r + 7 + 3 * π k + 2 by omega), u2_off _ _ _ (show r + 9 + 3 * π j ≠ r + 7 + 3 * π k + 2 by omega)]
      by_cases hc : q = p ∧ k ≤ j
      · rw [if_pos hc, if_pos ⟨hc.1, by omega⟩]
      · rw [if_neg hc, if_neg (fun z => hc ⟨z.1, by omega⟩)]
theorem k_carryOn (hs : RuS S N P r π) {as : Nat} (ha : AsS S N P as) (hdis : as + 10 ≤ r ∨ r + 25 ≤ as) (hnk : nk ≤ 6) (h7 : I r 7 = nI nk) {p : Nat} (hp : p < 6) (hq : ∀ J', (∀ a, a < r ∨ r + 25 ≤ a → J' a = J a) → (∀ j q, j < nk → q < 6 → J' (r + 9 + 3 * π j) q = if q = p then J (as + 4 + j) 3 else J (r + 9 + 3 * π j) q) → Q none I J' P) :
    CWp S N d MX7_carryOn [.ref r, .int (nI p), .ref as] I J P Q := by
  rw [c_X7_carryOn]
  simp only [e_X7_carryOn_0, e_X7_carryOn_1, true_and, and_true, rf_s, not_true_eq_false, not_false_eq_true, true_implies, false_implies, kl_i, kl_n, kl_l, kl_r, Option.toList, List.cons_append, List.nil_append, if_true, if_false, u2s, lt00, lt01, lt02, lt03, le10, le20, le30, ne10, ne20, ne30, eq00]
  exact co_loop hs ha hdis hnk h7 hp nk 0 (by omega) J (fun J' a1 a2 => hq J' a1 (fun j q hj hq6 => by rw [a2 j q hj hq6]; simp only [Nat.zero_le, and_true]))
theorem cn_loop (hs : RuS S N P r π) (hnk : nk ≤ 6) (h7 : I r 7 = nI nk) {p : Nat} (hp : p < 6) : ∀ (n k : Nat), k + n = nk → ∀ (J : JM), (∀ J', (∀ a, a < r ∨ r + 25 ≤ a → J' a = J a) → (∀ j q, j < nk → q < 6 → J' (r + 9 + 3 * π j) q = if q = p ∧ k ≤ j then 0 else J (r + 9 + 3 * π j) q) → Q none I J' P) →
    Wp S N d MX7_carryNothing 2 [some (.ref r), some (.int (nI p)), some (.int (nI k))] [] I J P Q := by
  have hs' := hs
  unfold RuS at hs'
  intro n
  induction n with
  | zero =>
    intro k hk J hq
    have hk : k = nk := by omega
    subst hk
    have g1 : nI k ≤ nI k := nI_le (Nat.le_refl k) (by omega)
    simp only [e_X7_carryNothing_0, e_X7_carryNothing_1, e_X7_carryNothing_2, e_X7_carryNothing_3, e_X7_carryNothing_4, e_X7_carryNothing_7, e_X7_carryNothing_10, e_X7_carryNothing_11, e_X7_carryNothing_14, e_X7_carryNothing_15, e_X7_carryNothing_16, e_X7_carryNothing_19, e_X7_carryNothing_20, e_X7_carryNothing_21, e_X7_carryNothing_22, e_X7_carryNothing_25, e_X7_carryNothing_28, hs', h7, g1, true_and, and_true, rf_s, not_true_eq_false, not_false_eq_true, true_implies, false_implies, kl_i, kl_n, kl_l, kl_r, Option.toList, List.cons_append, List.nil_append, if_true, if_false, u2s, lt00, lt01, lt02, lt03, le10, le20, le30, ne10, ne20, ne30, eq00]
    exact hq J (fun _ _ => rfl) (fun j q hj _ => by rw [if_neg (by omega)])
  | succ n ih =>
    intro k hk J hq
    have hk6 : k < 6 := by omega
    have g1 : ¬ nI nk ≤ nI k := nI_ge (by omega) (by omega)
    have c1 := cr_row hs hk6
    obtain ⟨p1, p2⟩ := hs.2.2.2.2.1 k hk6
    rw [e_X7_carryNothing_2]
    simp only [e_X7_carryNothing_0, e_X7_carryNothing_1, e_X7_carryNothing_3, e_X7_carryNothing_4, e_X7_carryNothing_7, e_X7_carryNothing_10, e_X7_carryNothing_11, e_X7_carryNothing_14, e_X7_carryNothing_15, e_X7_carryNothing_16, e_X7_carryNothing_19, e_X7_carryNothing_20, e_X7_carryNothing_21, e_X7_carryNothing_22, e_X7_carryNothing_25, e_X7_carryNothing_28, hs', h7, g1, c1, p2, nI_1, nI_clamp (show k < 2 ^ 31 by omega), vpn hk6 (by decide), nI_clamp (show p < 2 ^ 31 by omega), vpn hp (by decide), true_or, or_true, true_and, and_true, rf_s, not_true_eq_false, not_false_eq_true, true_implies, false_implies, kl_i, kl_n, kl_l, kl_r, Option.toList, List.cons_append, List.nil_append, if_true, if_false, u2s, lt00, lt01, lt02, lt03, le10, le20, le30, ne10, ne20, ne30, eq00]
    refine ih (k + 1) (by omega) _ (fun J' a1 a2 => hq J' (fun a ha => (a1 a ha).trans (u2_off _ _ _ (by omega))) (fun j q hj hq6 => ?_))
    have pj := (hs.2.2.2.2.1 j (by omega)).1
    rw [a2 j q hj hq6]
    by_cases hjk : j = k
    · subst hjk
      rw [if_neg (by omega), show r + 9 + 3 * π j = r + 7 + 3 * π j + 2 by omega]
      by_cases hqp : q = p
      · subst hqp
        rw [u2s, if_pos ⟨rfl, Nat.le_refl _⟩]
      · rw [u2k _ _ _ hqp, if_neg (fun z => hqp z.1)]
    · have hpi : π j ≠ π k := fun z => hjk (hs.2.2.2.2.2.1 j k (by omega) hk6 z)
      rw [u2_off _ _ _ (show r + 9 + 3 * π j ≠ r + 7 + 3 * π k + 2 by omega)]
      by_cases hc : q = p ∧ k ≤ j
      · rw [if_pos hc, if_pos ⟨hc.1, by omega⟩]
      · rw [if_neg hc, if_neg (fun z => hc ⟨z.1, by omega⟩)]
theorem k_carryNothing (hs : RuS S N P r π) (hnk : nk ≤ 6) (h7 : I r 7 = nI nk) {p : Nat} (hp : p < 6) (hq : ∀ J', (∀ a, a < r ∨ r + 25 ≤ a → J' a = J a) → (∀ j q, j < nk → q < 6 → J' (r + 9 + 3 * π j) q = if q = p then 0 else J (r + 9 + 3 * π j) q) → Q none I J' P) :
    CWp S N d MX7_carryNothing [.ref r, .int (nI p)] I J P Q := by
  rw [c_X7_carryNothing]
  simp only [e_X7_carryNothing_0, e_X7_carryNothing_1, true_and, and_true, rf_s, not_true_eq_false, not_false_eq_true, true_implies, false_implies, kl_i, kl_n, kl_l, kl_r, Option.toList, List.cons_append, List.nil_append, if_true, if_false, u2s, lt00, lt01, lt02, lt03, le10, le20, le30, ne10, ne20, ne30, eq00]
  exact cn_loop hs hnk h7 hp nk 0 (by omega) J (fun J' a1 a2 => hq J' a1 (fun j q hj hq6 => by rw [a2 j q hj hq6]; simp only [Nat.zero_le, and_true]))
end KT3

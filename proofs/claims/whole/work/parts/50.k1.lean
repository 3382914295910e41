/-! the class: rules, ledgers -/
theorem cpy_in {α : Type} {f g : Nat → α} {n k : Nat} (h : k < n) : va_cpy f g 0 0 n k = f k := by
  rw [pk_cpy_in (Nat.zero_le _) (by omega)]
  congr 1
  omega
/-- a rules object at r, its credits in the order π -/
def RuS (S N : Nat → Nat) (P : PM) (r : Nat) (π : Nat → Nat) : Prop :=
  S r = 7 ∧ (P r 1 = some (r + 1) ∧ P r 2 = some (r + 2) ∧ P r 3 = some (r + 3) ∧ P r 5 = some (r + 4) ∧ P r 6 = some (r + 5) ∧ P r 8 = some (r + 6))
  ∧ (S (r + 1) = 10 ∧ S (r + 2) = 10 ∧ S (r + 3) = 10 ∧ S (r + 4) = 10 ∧ S (r + 5) = 10 ∧ S (r + 6) = 12)
  ∧ (N (r + 1) = 6 ∧ N (r + 2) = 6 ∧ N (r + 3) = 5 ∧ N (r + 4) = 4 ∧ N (r + 5) = 4 ∧ N (r + 6) = 6)
  ∧ (∀ k, k < 6 → π k < 6 ∧ P (r + 6) k = some (r + 7 + 3 * π k)) ∧ (∀ j k, j < 6 → k < 6 → π j = π k → j = k)
  ∧ ∀ j, j < 6 → S (r + 7 + 3 * j) = 2 ∧ P (r + 7 + 3 * j) 0 = some (r + 8 + 3 * j) ∧ P (r + 7 + 3 * j) 1 = some (r + 9 + 3 * j) ∧ S (r + 8 + 3 * j) = 10 ∧ S (r + 9 + 3 * j) = 11 ∧ N (r + 8 + 3 * j) = 6 ∧ N (r + 9 + 3 * j) = 6
/-- what the rules say, against g and h -/
def Rul (I : IM) (J : JM) (r : Nat) (π : Nat → Nat) (g : Nat → Int32) (h : Nat → Int64) (nb nc nk : Nat) : Prop :=
  (I r 0 = nI nb ∧ I r 4 = nI nc ∧ I r 7 = nI nk) ∧ (∀ k, k < nb → I (r + 1) k = g (1 + 2 * k) ∧ I (r + 2) k = g (2 + 2 * k)) ∧ (∀ j, j < 5 → I (r + 3) j = g (13 + j)) ∧ (∀ k, k < nc → I (r + 4) k = g (19 + 2 * k) ∧ I (r + 5) k = g (20 + 2 * k))
  ∧ ∀ k, k < nk → (∀ j, j < 6 → I (r + 8 + 3 * π k) j = g (28 + 6 * k + j)) ∧ ∀ p, p < 6 → J (r + 9 + 3 * π k) p = h (6 * p + k)
/-- the counts within their rows -/
def Cb (nb nc nk : Nat) : Prop := nb ≤ 6 ∧ nc ≤ 4 ∧ nk ≤ 6
theorem Rul.cg {I : IM} {J : JM} {r : Nat} {π : Nat → Nat} {g g' : Nat → Int32} {h h' : Nat → Int64} {nb nc nk : Nat} (hb : Cb nb nc nk) (hr : Rul I J r π g h nb nc nk) (hg : ∀ k, k < 64 → g' k = g k) (hh : ∀ p k, p < 6 → k < nk → h' (6 * p + k) = h (6 * p + k)) : Rul I J r π g' h' nb nc nk := by
  obtain ⟨h1, h2, h3, h4, h5⟩ := hr
  obtain ⟨b1, b2, b3⟩ := hb
  refine ⟨h1, fun k hk => ?_, fun j hj => ?_, fun k hk => ?_, fun k hk => ⟨fun j hj => ?_, fun p hp => ?_⟩⟩
  · rw [hg _ (by omega), hg _ (by omega)]; exact h2 k hk
  · rw [hg _ (by omega)]; exact h3 j hj
  · rw [hg _ (by omega), hg _ (by omega)]; exact h4 k hk
  · rw [hg _ (by omega)]; exact (h5 k hk).1 j hj
  · rw [hh p k hp hk]; exact (h5 k hk).2 p hp
theorem Rul.on {S N : Nat → Nat} {P : PM} {I I' : IM} {J J' : JM} {r : Nat} {π : Nat → Nat} {g : Nat → Int32} {h : Nat → Int64} {nb nc nk : Nat} (hs : RuS S N P r π) (hb : Cb nb nc nk) (hr : Rul I J r π g h nb nc nk) (hI : ∀ a, r ≤ a → a < r + 25 → I' a = I a) (hJ : ∀ a, r ≤ a → a < r + 25 → J' a = J a) : Rul I' J' r π g h nb nc nk := by
  obtain ⟨h1, h2, h3, h4, h5⟩ := hr
  have hp := hs.2.2.2.2.1
  have b3 := hb.2.2
  refine ⟨?_, fun k hk => ?_, fun j hj => ?_, fun k hk => ?_, fun k hk => ⟨fun j hj => ?_, fun p hp2 => ?_⟩⟩
  · rw [hI r (by omega) (by omega)]; exact h1
  · rw [hI (r + 1) (by omega) (by omega), hI (r + 2) (by omega) (by omega)]; exact h2 k hk
  · rw [hI (r + 3) (by omega) (by omega)]; exact h3 j hj
  · rw [hI (r + 4) (by omega) (by omega), hI (r + 5) (by omega) (by omega)]; exact h4 k hk
  · have := (hp k (by omega)).1
    rw [hI (r + 8 + 3 * π k) (by omega) (by omega)]; exact (h5 k hk).1 j hj
  · have := (hp k (by omega)).1
    rw [hJ (r + 9 + 3 * π k) (by omega) (by omega)]; exact (h5 k hk).2 p hp2
section KT1
variable {S N : Nat → Nat} {d : Nat} {I : IM} {J : JM} {P : PM} {Q : Option Value → IM → JM → PM → Prop} {r r2 : Nat} {π π2 : Nat → Nat} {g : Nat → Int32} {h : Nat → Int64} {nb nc nk : Nat}
theorem k_crCopy {a b : Nat} (ha : S a = 2 ∧ P a 0 = some (a + 1) ∧ P a 1 = some (a + 2) ∧ S (a + 1) = 10 ∧ S (a + 2) = 11 ∧ N (a + 1) = 6 ∧ N (a + 2) = 6) (hb : S b = 2 ∧ P b 0 = some (b + 1) ∧ P b 1 = some (b + 2) ∧ S (b + 1) = 10 ∧ S (b + 2) = 11 ∧ N (b + 1) = 6 ∧ N (b + 2) = 6) :
    CWp S N (d + 1) MX2_copyFrom [.ref a, .ref b] I J P Q ↔ Q none (uA I (a + 1) (va_cpy (I (b + 1)) (I (a + 1)) 0 0 6)) (uA J (a + 2) (va_cpy (J (b + 2)) (J (a + 2)) 0 0 6)) P := by
  rw [c_X2_copyFrom]
  have l1 : ((6 : Int32) < 0) = False := by decide
  simp only [e_X2_copyFrom_0, e_X2_copyFrom_1, e_X2_copyFrom_4, e_X2_copyFrom_5, e_X2_copyFrom_6, e_X2_copyFrom_9, e_X2_copyFrom_10, e_X2_copyFrom_12, e_X2_copyFrom_12L, e_X2_copyFrom_15, e_X2_copyFrom_16, e_X2_copyFrom_19, e_X2_copyFrom_20, e_X2_copyFrom_21, e_X2_copyFrom_24, e_X2_copyFrom_25, e_X2_copyFrom_27, e_X2_copyFrom_27L, e_X2_copyFrom_30, ha, hb, cl_0, cl_6, l1, Nat.zero_add, Nat.le_refl, true_and, and_true, rf_s, not_true_eq_false, not_false_eq_true, true_implies, false_implies, kl_i, kl_n, kl_l, kl_r, Option.toList, List.cons_append, List.nil_append, if_true, if_false, u2s, lt00, lt01, lt02, lt03, le10, le20, le30, ne10, ne20, ne30, eq00]
theorem cr_row (hs : RuS S N P r π) {k : Nat} (hk : k < 6) : S (r + 7 + 3 * π k) = 2 ∧ P (r + 7 + 3 * π k) 0 = some (r + 7 + 3 * π k + 1) ∧ P (r + 7 + 3 * π k) 1 = some (r + 7 + 3 * π k + 2) ∧ S (r + 7 + 3 * π k + 1) = 10 ∧ S (r + 7 + 3 * π k + 2) = 11 ∧ N (r + 7 + 3 * π k + 1) = 6 ∧ N (r + 7 + 3 * π k + 2) = 6 := by
  have h1 := hs.2.2.2.2.2.2 (π k) (hs.2.2.2.2.1 k hk).1
  rw [show r + 8 + 3 * π k = r + 7 + 3 * π k + 1 by omega, show r + 9 + 3 * π k = r + 7 + 3 * π k + 2 by omega] at h1
  exact h1
theorem cc_loop (hs : RuS S N P r π) (hs2 : RuS S N P r2 π2) (hdis : r + 25 ≤ r2 ∨ r2 + 25 ≤ r) : ∀ (n k : Nat), k + n = 6 → ∀ (I : IM) (J : JM), (∀ I' J', (∀ a, a < r + 7 ∨ r + 25 ≤ a → I' a = I a ∧ J' a = J a) → (∀ j, j < k → I' (r + 8 + 3 * π j) = I (r + 8 + 3 * π j) ∧ J' (r + 9 + 3 * π j) = J (r + 9 + 3 * π j)) → (∀ j, k ≤ j → j < 6 → (∀ x, x < 6 → I' (r + 8 + 3 * π j) x = I (r2 + 8 + 3 * π2 j) x) ∧ ∀ x, x < 6 → J' (r + 9 + 3 * π j) x = J (r2 + 9 + 3 * π2 j) x) → Q none I' J' P) →
    Wp S N (d + 2) MX7_copyFrom 98 [some (.ref r), some (.ref r2), some (.int (nI k))] [] I J P Q := by
  intro n
  induction n with
  | zero =>
    intro k hk I J hq
    have hk : k = 6 := by omega
    subst hk
    have g1 : (6 : Int32) ≤ nI 6 := by decide
    simp only [e_X7_copyFrom_98, e_X7_copyFrom_99, e_X7_copyFrom_101, e_X7_copyFrom_125, g1, true_and, and_true, rf_s, not_true_eq_false, not_false_eq_true, true_implies, false_implies, kl_i, kl_n, kl_l, kl_r, Option.toList, List.cons_append, List.nil_append, if_true, if_false, u2s, lt00, lt01, lt02, lt03, le10, le20, le30, ne10, ne20, ne30, eq00]
    exact hq I J (fun _ _ => ⟨rfl, rfl⟩) (fun _ _ => ⟨rfl, rfl⟩) (fun j h1 h2 => by omega)
  | succ n ih =>
    intro k hk I J hq
    have hk6 : k < 6 := by omega
    have g1 : ¬ (6 : Int32) ≤ nI k := nI_ge (b := 6) hk6 (by decide)
    have c1 := cr_row hs hk6
    have c2 := cr_row hs2 hk6
    have p1 := (hs.2.2.2.2.1 k hk6)
    have p2 := (hs2.2.2.2.2.1 k hk6)
    have hs' := hs
    have hs2' := hs2
    unfold RuS at hs' hs2'
    rw [e_X7_copyFrom_98]
    simp only [e_X7_copyFrom_99, e_X7_copyFrom_101, e_X7_copyFrom_104, e_X7_copyFrom_105, e_X7_copyFrom_108, e_X7_copyFrom_109, e_X7_copyFrom_110, e_X7_copyFrom_111, e_X7_copyFrom_114, e_X7_copyFrom_115, e_X7_copyFrom_116, e_X7_copyFrom_119, e_X7_copyFrom_122, hs', hs2', p1.2, p2.2, g1, k_crCopy c1 c2, c1, nI_clamp (show k < 2 ^ 31 by omega), vpn hk6 (by decide), nI_1, true_or, or_true, true_and, and_true, rf_s, not_true_eq_false, not_false_eq_true, true_implies, false_implies, kl_i, kl_n, kl_l, kl_r, Option.toList, List.cons_append, List.nil_append, if_true, if_false, u2s, lt00, lt01, lt02, lt03, le10, le20, le30, ne10, ne20, ne30, eq00]
    refine ih (k + 1) (by omega) _ _ (fun I' J' a1 a2 a3 => hq I' J' (fun a ha => ?_) (fun j hj => ?_) (fun j h1 h2 => ?_))
    · rw [(a1 a ha).1, (a1 a ha).2, uA_off _ _ (by omega), uA_off _ _ (by omega)]
      exact ⟨rfl, rfl⟩
    · have hjk : π j ≠ π k := fun z => by have := hs.2.2.2.2.2.1 j k (by omega) hk6 z; omega
      rw [(a2 j (by omega)).1, (a2 j (by omega)).2, uA_off _ _ (by omega), uA_off _ _ (by omega)]
      exact ⟨rfl, rfl⟩
    · have q2 := (hs2.2.2.2.2.1 j h2).1
      by_cases hjk : j = k
      · subst hjk
        rw [(a2 j (by omega)).1, (a2 j (by omega)).2]
        refine ⟨fun x hx => ?_, fun x hx => ?_⟩
        · rw [show r + 8 + 3 * π j = r + 7 + 3 * π j + 1 by omega, uA_row, cpy_in hx, show r2 + 8 + 3 * π2 j = r2 + 7 + 3 * π2 j + 1 by omega]
        · rw [show r + 9 + 3 * π j = r + 7 + 3 * π j + 2 by omega, uA_row, cpy_in hx, show r2 + 9 + 3 * π2 j = r2 + 7 + 3 * π2 j + 2 by omega]
      · obtain ⟨b1, b2⟩ := a3 j (by omega) h2
        refine ⟨fun x hx => ?_, fun x hx => ?_⟩
        · rw [b1 x hx, uA_off _ _ (by omega)]
        · rw [b2 x hx, uA_off _ _ (by omega)]
theorem k_ruCopy (hs : RuS S N P r π) (hs2 : RuS S N P r2 π2) (hdis : r + 25 ≤ r2 ∨ r2 + 25 ≤ r) (hb : Cb nb nc nk) (hr : Rul I J r2 π2 g h nb nc nk)
    (hq : ∀ I' J', (∀ a, a < r ∨ r + 25 ≤ a → I' a = I a ∧ J' a = J a) → Rul I' J' r π g h nb nc nk → Q none I' J' P) : CWp S N (d + 2) MX7_copyFrom [.ref r, .ref r2] I J P Q := by
  rw [c_X7_copyFrom]
  have hs' := hs
  have hs2' := hs2
  unfold RuS at hs' hs2'
  have l1 : ((6 : Int32) < 0) = False := by decide
  have l2 : ((5 : Int32) < 0) = False := by decide
  have l3 : ((4 : Int32) < 0) = False := by decide
  simp only [e_X7_copyFrom_0, e_X7_copyFrom_1, e_X7_copyFrom_2, e_X7_copyFrom_5, e_X7_copyFrom_8, e_X7_copyFrom_9, e_X7_copyFrom_12, e_X7_copyFrom_13, e_X7_copyFrom_14, e_X7_copyFrom_17, e_X7_copyFrom_18, e_X7_copyFrom_20, e_X7_copyFrom_20L, e_X7_copyFrom_23, e_X7_copyFrom_24, e_X7_copyFrom_27, e_X7_copyFrom_28, e_X7_copyFrom_29, e_X7_copyFrom_32, e_X7_copyFrom_33, e_X7_copyFrom_35, e_X7_copyFrom_35L, e_X7_copyFrom_38, e_X7_copyFrom_39, e_X7_copyFrom_42, e_X7_copyFrom_43, e_X7_copyFrom_44, e_X7_copyFrom_47, e_X7_copyFrom_48, e_X7_copyFrom_49, e_X7_copyFrom_49L, e_X7_copyFrom_52, e_X7_copyFrom_53, e_X7_copyFrom_54, e_X7_copyFrom_57, e_X7_copyFrom_60, e_X7_copyFrom_61, e_X7_copyFrom_64, e_X7_copyFrom_65, e_X7_copyFrom_66, e_X7_copyFrom_69, e_X7_copyFrom_70, e_X7_copyFrom_71, e_X7_copyFrom_71L, e_X7_copyFrom_74, e_X7_copyFrom_75, e_X7_copyFrom_78, e_X7_copyFrom_79, e_X7_copyFrom_80, e_X7_copyFrom_83, e_X7_copyFrom_84, e_X7_copyFrom_85, e_X7_copyFrom_85L, e_X7_copyFrom_88, e_X7_copyFrom_89, e_X7_copyFrom_90, e_X7_copyFrom_93, e_X7_copyFrom_96, e_X7_copyFrom_97, hs', hs2', cl_0, cl_6, cl_5, cl_4, l1, l2, l3, Nat.zero_add, Nat.le_refl, true_and, and_true, rf_s, not_true_eq_false, not_false_eq_true, true_implies, false_implies, kl_i, kl_n, kl_l, kl_r, Option.toList, List.cons_append, List.nil_append, if_true, if_false, u2s, lt00, lt01, lt02, lt03, le10, le20, le30, ne10, ne20, ne30, eq00]
  obtain ⟨b1, b2, b3⟩ := hb
  obtain ⟨⟨e0, e4, e7⟩, h2, h3, h4, h5⟩ := hr
  refine cc_loop hs hs2 hdis 6 0 rfl _ J (fun I' J' a1 _ a3 => hq I' J' (fun a ha => ?_) ⟨⟨?_, ?_, ?_⟩, fun k hk => ⟨?_, ?_⟩, fun j hj => ?_, fun k hk => ⟨?_, ?_⟩, fun k hk => ⟨fun j hj => ?_, fun p hp => ?_⟩⟩)
  · rw [(a1 a (by omega)).1, (a1 a (by omega)).2]
    simp only [uA_off _ _ (show a ≠ r + 1 by omega), uA_off _ _ (show a ≠ r + 2 by omega), uA_off _ _ (show a ≠ r + 3 by omega), uA_off _ _ (show a ≠ r + 4 by omega), uA_off _ _ (show a ≠ r + 5 by omega), u2_off _ _ _ (show a ≠ r by omega), and_self]
  all_goals first | (rw [(a1 _ (Or.inl (by omega))).1]) | skip
  all_goals try simp only [uA_row, uA_off _ _ (show r ≠ r + 1 by omega), uA_off _ _ (show r ≠ r + 2 by omega), uA_off _ _ (show r ≠ r + 3 by omega), uA_off _ _ (show r ≠ r + 4 by omega), uA_off _ _ (show r ≠ r + 5 by omega), uA_off _ _ (show r + 1 ≠ r + 2 by omega), uA_off _ _ (show r + 1 ≠ r + 3 by omega), uA_off _ _ (show r + 1 ≠ r + 4 by omega), uA_off _ _ (show r + 1 ≠ r + 5 by omega), uA_off _ _ (show r + 2 ≠ r + 3 by omega), uA_off _ _ (show r + 2 ≠ r + 4 by omega), uA_off _ _ (show r + 2 ≠ r + 5 by omega), uA_off _ _ (show r + 3 ≠ r + 4 by omega), uA_off _ _ (show r + 3 ≠ r + 5 by omega), uA_off _ _ (show r + 4 ≠ r + 5 by omega), u2_off _ _ _ (show r + 1 ≠ r by omega), u2_off _ _ _ (show r + 2 ≠ r by omega), u2_off _ _ _ (show r + 3 ≠ r by omega), u2_off _ _ _ (show r + 4 ≠ r by omega), u2_off _ _ _ (show r + 5 ≠ r by omega), u2s, u2k _ _ _ (show (0 : Nat) ≠ 4 by decide), u2k _ _ _ (show (0 : Nat) ≠ 7 by decide), u2k _ _ _ (show (4 : Nat) ≠ 7 by decide), uA_off _ _ (show r2 ≠ r + 1 by omega), uA_off _ _ (show r2 ≠ r + 2 by omega), uA_off _ _ (show r2 ≠ r + 3 by omega), uA_off _ _ (show r2 ≠ r + 4 by omega), uA_off _ _ (show r2 ≠ r + 5 by omega), u2_off _ _ _ (show r2 ≠ r by omega), uA_off _ _ (show r2 + 1 ≠ r + 1 by omega), uA_off _ _ (show r2 + 2 ≠ r + 1 by omega), uA_off _ _ (show r2 + 2 ≠ r + 2 by omega), uA_off _ _ (show r2 + 3 ≠ r + 1 by omega), uA_off _ _ (show r2 + 3 ≠ r + 2 by omega), uA_off _ _ (show r2 + 3 ≠ r + 3 by omega), uA_off _ _ (show r2 + 4 ≠ r + 1 by omega), uA_off _ _ (show r2 + 4 ≠ r + 2 by omega), uA_off _ _ (show r2 + 4 ≠ r + 3 by omega), uA_off _ _ (show r2 + 4 ≠ r + 4 by omega), uA_off _ _ (show r2 + 5 ≠ r + 1 by omega), uA_off _ _ (show r2 + 5 ≠ r + 2 by omega), uA_off _ _ (show r2 + 5 ≠ r + 3 by omega), uA_off _ _ (show r2 + 5 ≠ r + 4 by omega), uA_off _ _ (show r2 + 5 ≠ r + 5 by omega), u2_off _ _ _ (show r2 + 1 ≠ r by omega), u2_off _ _ _ (show r2 + 2 ≠ r by omega), u2_off _ _ _ (show r2 + 3 ≠ r by omega), u2_off _ _ _ (show r2 + 4 ≠ r by omega), u2_off _ _ _ (show r2 + 5 ≠ r by omega)]
  · exact e0
  · exact e4
  · exact e7
  · rw [cpy_in (by omega)]; exact (h2 k hk).1
  · rw [cpy_in (by omega)]; exact (h2 k hk).2
  · rw [cpy_in hj]; exact h3 j hj
  · rw [cpy_in (by omega)]; exact (h4 k hk).1
  · rw [cpy_in (by omega)]; exact (h4 k hk).2
  · have q := (hs2.2.2.2.2.1 k (by omega)).1
    rw [(a3 k (Nat.zero_le _) (by omega)).1 j hj]
    simp only [uA_off _ _ (show r2 + 8 + 3 * π2 k ≠ r + 1 by omega), uA_off _ _ (show r2 + 8 + 3 * π2 k ≠ r + 2 by omega), uA_off _ _ (show r2 + 8 + 3 * π2 k ≠ r + 3 by omega), uA_off _ _ (show r2 + 8 + 3 * π2 k ≠ r + 4 by omega), uA_off _ _ (show r2 + 8 + 3 * π2 k ≠ r + 5 by omega), u2_off _ _ _ (show r2 + 8 + 3 * π2 k ≠ r by omega)]
    exact (h5 k hk).1 j hj
  · rw [(a3 k (Nat.zero_le _) (by omega)).2 p hp]
    exact (h5 k hk).2 p hp
end KT1

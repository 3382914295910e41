/-! the model's past, and what it keeps -/
/-- i places of row b from y on, copied into row a from x on -/
def cpR {α : Type} (f : Nat → Nat → α) (a x b y i : Nat) : Nat → Nat → α := fun p k => if p = a ∧ x ≤ k ∧ k < x + i then f b (y + (k - x)) else f p k
theorem cpR_0 {α : Type} (f : Nat → Nat → α) (a x b y : Nat) : cpR f a x b y 0 = f := by
  funext p k
  simp only [cpR]
  rw [if_neg (by omega)]
theorem cpR_off {α : Type} (f : Nat → Nat → α) {a : Nat} (x b y i : Nat) {p : Nat} (h : p ≠ a) : cpR f a x b y i p = f p := by
  funext k
  simp only [cpR]
  rw [if_neg (fun q => h q.1)]
theorem cpR_in {α : Type} (f : Nat → Nat → α) (a : Nat) {x : Nat} (b y : Nat) {i k : Nat} (h : k < i) : cpR f a x b y i a (x + k) = f b (y + k) := by
  simp only [cpR]
  rw [if_pos ⟨trivial, by omega, by omega⟩, show x + k - x = k by omega]
theorem cpR_out {α : Type} (f : Nat → Nat → α) (a : Nat) {x : Nat} (b y : Nat) {i k : Nat} (h : k < x ∨ x + i ≤ k) : cpR f a x b y i a k = f a k := by
  simp only [cpR]
  rw [if_neg (by omega)]
theorem cpR_step {α : Type} (f : Nat → Nat → α) (a x b y i : Nat) (h : b ≠ a ∨ x ≤ y) : u2 (cpR f a x b y i) a (x + i) (cpR f a x b y i b (y + i)) = cpR f a x b y (i + 1) := by
  have e : cpR f a x b y i b (y + i) = f b (y + i) := by
    simp only [cpR]
    rw [if_neg (by rintro ⟨h1, h2, h3⟩; rcases h with h | h; exact h h1; omega)]
  rw [e]
  funext p k
  simp only [u2, cpR]
  by_cases h1 : p = a
  · subst h1
    by_cases h2 : k = x + i
    · subst h2
      rw [if_pos ⟨rfl, rfl⟩, if_pos ⟨rfl, by omega, by omega⟩, show x + i - x = i by omega]
    · rw [if_neg (fun q => h2 q.2)]
      by_cases h3 : x ≤ k ∧ k < x + i
      · rw [if_pos ⟨rfl, h3⟩, if_pos ⟨rfl, h3.1, by omega⟩]
      · rw [if_neg (fun q => h3 q.2), if_neg (fun q => h3 ⟨q.2.1, by omega⟩)]
  · rw [if_neg (fun q => h1 q.1), if_neg (fun q => h1 q.1), if_neg (fun q => h1 q.1)]
section MTA
variable {S N : Nat → Nat} {d : Nat} {I : IM} {J : JM} {P : PM} {Q : Option Value → IM → JM → PM → Prop} {m : Nat} {g : Nat → Int32} {h : Nat → Int64} {nb nc nk : Nat}

theorem ch_l1 (hm : MdS S N P m)  : ∀ (n k : Nat), k + n = 445 → (Wp S N d MX9_changes 11 [some (.ref m), some (.int (nI k))] [] (cpR I (m + 5) (0) (m + 5) (89) k) J P Q ↔ Wp S N d MX9_changes 39 [some (.ref m), some (.int (nI 445))] [] (cpR I (m + 5) (0) (m + 5) (89) 445) J P Q) := by
  have hm0 := hm
  unfold MdS at hm
  intro n
  induction n with
  | zero =>
    intro k hk
    have hk : k = 445 := by omega
    subst hk
    have g1 : (445 : Int32) ≤ nI 445 := by decide
    simp only [e_X9_changes_11, e_X9_changes_12, e_X9_changes_15, g1, true_and, and_true, rf_s, not_true_eq_false, not_false_eq_true, true_implies, false_implies, kl_i, kl_n, kl_l, kl_r, Option.toList, List.cons_append, List.nil_append, if_true, if_false, u2s, lt00, lt01, lt02, lt03, le10, le20, le30, ne10, ne20, ne30, eq00]
  | succ n ih =>
    intro k hk
    have g1 : ¬ (445 : Int32) ≤ nI k := nI_ge (a := k) (b := 445) (by omega) (by decide)
    have st : u2 (cpR I (m + 5) (0) (m + 5) (89) k) (m + 5) (k) (cpR I (m + 5) (0) (m + 5) (89) k (m + 5) (89 + k)) = cpR I (m + 5) (0) (m + 5) (89) (k + 1) := by
      have h9 := cpR_step I (m + 5) (0) (m + 5) (89) k (Or.inr (by omega))
      simpa only [Nat.zero_add] using h9
    have q1 : nI k + 89 = nI (89 + k) := by rw [show (89 : Int32) = nI 89 from rfl, nI_add, Nat.add_comm]
    rw [e_X9_changes_11]
    simp only [e_X9_changes_12, e_X9_changes_15, e_X9_changes_18, e_X9_changes_19, e_X9_changes_22, e_X9_changes_23, e_X9_changes_24, e_X9_changes_27, e_X9_changes_28, e_X9_changes_30, e_X9_changes_31, e_X9_changes_32, e_X9_changes_33, e_X9_changes_36, hm, g1, nI_1, q1, nI_clamp (show k < 2 ^ 31 by omega), vp_in_nI (show k < 534 by omega) (show 534 < 2 ^ 31 by decide), nI_clamp (show 89 + k < 2 ^ 31 by omega), vp_in_nI (show 89 + k < 534 by omega) (show 534 < 2 ^ 31 by decide), st, true_and, and_true, rf_s, not_true_eq_false, not_false_eq_true, true_implies, false_implies, kl_i, kl_n, kl_l, kl_r, Option.toList, List.cons_append, List.nil_append, if_true, if_false, u2s, lt00, lt01, lt02, lt03, le10, le20, le30, ne10, ne20, ne30, eq00]
    exact ih (k + 1) (by omega)

theorem ch_l2 (hm : MdS S N P m)  : ∀ (n k : Nat), k + n = 180 → (Wp S N d MX9_changes 41 [some (.ref m), some (.int (nI k))] [] I (cpR J (m + 6) (0) (m + 6) (36) k) P Q ↔ Wp S N d MX9_changes 69 [some (.ref m), some (.int (nI 180))] [] I (cpR J (m + 6) (0) (m + 6) (36) 180) P Q) := by
  have hm0 := hm
  unfold MdS at hm
  intro n
  induction n with
  | zero =>
    intro k hk
    have hk : k = 180 := by omega
    subst hk
    have g1 : (180 : Int32) ≤ nI 180 := by decide
    simp only [e_X9_changes_41, e_X9_changes_42, e_X9_changes_45, g1, true_and, and_true, rf_s, not_true_eq_false, not_false_eq_true, true_implies, false_implies, kl_i, kl_n, kl_l, kl_r, Option.toList, List.cons_append, List.nil_append, if_true, if_false, u2s, lt00, lt01, lt02, lt03, le10, le20, le30, ne10, ne20, ne30, eq00]
  | succ n ih =>
    intro k hk
    have g1 : ¬ (180 : Int32) ≤ nI k := nI_ge (a := k) (b := 180) (by omega) (by decide)
    have st : u2 (cpR J (m + 6) (0) (m + 6) (36) k) (m + 6) (k) (cpR J (m + 6) (0) (m + 6) (36) k (m + 6) (36 + k)) = cpR J (m + 6) (0) (m + 6) (36) (k + 1) := by
      have h9 := cpR_step J (m + 6) (0) (m + 6) (36) k (Or.inr (by omega))
      simpa only [Nat.zero_add] using h9
    have q1 : nI k + 36 = nI (36 + k) := by rw [show (36 : Int32) = nI 36 from rfl, nI_add, Nat.add_comm]
    rw [e_X9_changes_41]
    simp only [e_X9_changes_42, e_X9_changes_45, e_X9_changes_48, e_X9_changes_49, e_X9_changes_52, e_X9_changes_53, e_X9_changes_54, e_X9_changes_57, e_X9_changes_58, e_X9_changes_60, e_X9_changes_61, e_X9_changes_62, e_X9_changes_63, e_X9_changes_66, hm, g1, nI_1, q1, nI_clamp (show k < 2 ^ 31 by omega), vp_in_nI (show k < 216 by omega) (show 216 < 2 ^ 31 by decide), nI_clamp (show 36 + k < 2 ^ 31 by omega), vp_in_nI (show 36 + k < 216 by omega) (show 216 < 2 ^ 31 by decide), st, true_and, and_true, rf_s, not_true_eq_false, not_false_eq_true, true_implies, false_implies, kl_i, kl_n, kl_l, kl_r, Option.toList, List.cons_append, List.nil_append, if_true, if_false, u2s, lt00, lt01, lt02, lt03, le10, le20, le30, ne10, ne20, ne30, eq00]
    exact ih (k + 1) (by omega)

theorem ch_l3 (hm : MdS S N P m) {pn : Nat} (hpn : pn < 6) (h7 : I m 7 = nI pn) : ∀ (n k : Nat), k + n = 89 → (Wp S N d MX9_changes 81 [some (.ref m), some (.int (nI k))] [] (cpR I (m + 5) (89 * pn) (m + 1) (0) k) J P Q ↔ Wp S N d MX9_changes 113 [some (.ref m), some (.int (nI 89))] [] (cpR I (m + 5) (89 * pn) (m + 1) (0) 89) J P Q) := by
  have hm0 := hm
  unfold MdS at hm
  intro n
  induction n with
  | zero =>
    intro k hk
    have hk : k = 89 := by omega
    subst hk
    have g1 : (89 : Int32) ≤ nI 89 := by decide
    simp only [e_X9_changes_81, e_X9_changes_82, e_X9_changes_84, g1, true_and, and_true, rf_s, not_true_eq_false, not_false_eq_true, true_implies, false_implies, kl_i, kl_n, kl_l, kl_r, Option.toList, List.cons_append, List.nil_append, if_true, if_false, u2s, lt00, lt01, lt02, lt03, le10, le20, le30, ne10, ne20, ne30, eq00]
  | succ n ih =>
    intro k hk
    have g1 : ¬ (89 : Int32) ≤ nI k := nI_ge (a := k) (b := 89) (by omega) (by decide)
    have st : u2 (cpR I (m + 5) (89 * pn) (m + 1) (0) k) (m + 5) (89 * pn + k) (cpR I (m + 5) (89 * pn) (m + 1) (0) k (m + 1) (k)) = cpR I (m + 5) (89 * pn) (m + 1) (0) (k + 1) := by
      have h9 := cpR_step I (m + 5) (89 * pn) (m + 1) (0) k (Or.inl (by omega))
      simpa only [Nat.zero_add] using h9
    have o7 : (cpR I (m + 5) (89 * pn) (m + 1) 0 k) m 7 = nI pn := by rw [cpR_off _ _ _ _ _ (by omega)]; exact h7
    have q1 : (89 : Int32) * nI pn + nI k = nI (89 * pn + k) := by rw [show (89 : Int32) = nI 89 from rfl, pk_mul, nI_add]
    rw [e_X9_changes_81]
    simp only [e_X9_changes_82, e_X9_changes_84, e_X9_changes_87, e_X9_changes_88, e_X9_changes_91, e_X9_changes_93, e_X9_changes_94, e_X9_changes_97, e_X9_changes_98, e_X9_changes_99, e_X9_changes_100, e_X9_changes_101, e_X9_changes_104, e_X9_changes_105, e_X9_changes_106, e_X9_changes_107, e_X9_changes_110, hm, g1, nI_1, o7, q1, nI_clamp (show k < 2 ^ 31 by omega), vp_in_nI (show k < 89 by omega) (show 89 < 2 ^ 31 by decide), nI_clamp (show 89 * pn + k < 2 ^ 31 by omega), vp_in_nI (show 89 * pn + k < 534 by omega) (show 534 < 2 ^ 31 by decide), st, true_and, and_true, rf_s, not_true_eq_false, not_false_eq_true, true_implies, false_implies, kl_i, kl_n, kl_l, kl_r, Option.toList, List.cons_append, List.nil_append, if_true, if_false, u2s, lt00, lt01, lt02, lt03, le10, le20, le30, ne10, ne20, ne30, eq00]
    exact ih (k + 1) (by omega)

theorem ch_l4 (hm : MdS S N P m) {pn : Nat} (hpn : pn < 6) (h7 : I m 7 = nI pn) : ∀ (n k : Nat), k + n = 36 → (Wp S N d MX9_changes 115 [some (.ref m), some (.int (nI k))] [] I (cpR J (m + 6) (36 * pn) (m + 2) (0) k) P Q ↔ Wp S N d MX9_changes 147 [some (.ref m), some (.int (nI 36))] [] I (cpR J (m + 6) (36 * pn) (m + 2) (0) 36) P Q) := by
  have hm0 := hm
  unfold MdS at hm
  intro n
  induction n with
  | zero =>
    intro k hk
    have hk : k = 36 := by omega
    subst hk
    have g1 : (36 : Int32) ≤ nI 36 := by decide
    simp only [e_X9_changes_115, e_X9_changes_116, e_X9_changes_118, g1, true_and, and_true, rf_s, not_true_eq_false, not_false_eq_true, true_implies, false_implies, kl_i, kl_n, kl_l, kl_r, Option.toList, List.cons_append, List.nil_append, if_true, if_false, u2s, lt00, lt01, lt02, lt03, le10, le20, le30, ne10, ne20, ne30, eq00]
  | succ n ih =>
    intro k hk
    have g1 : ¬ (36 : Int32) ≤ nI k := nI_ge (a := k) (b := 36) (by omega) (by decide)
    have st : u2 (cpR J (m + 6) (36 * pn) (m + 2) (0) k) (m + 6) (36 * pn + k) (cpR J (m + 6) (36 * pn) (m + 2) (0) k (m + 2) (k)) = cpR J (m + 6) (36 * pn) (m + 2) (0) (k + 1) := by
      have h9 := cpR_step J (m + 6) (36 * pn) (m + 2) (0) k (Or.inl (by omega))
      simpa only [Nat.zero_add] using h9
    have q1 : (36 : Int32) * nI pn + nI k = nI (36 * pn + k) := by rw [show (36 : Int32) = nI 36 from rfl, pk_mul, nI_add]
    rw [e_X9_changes_115]
    simp only [e_X9_changes_116, e_X9_changes_118, e_X9_changes_121, e_X9_changes_122, e_X9_changes_125, e_X9_changes_127, e_X9_changes_128, e_X9_changes_131, e_X9_changes_132, e_X9_changes_133, e_X9_changes_134, e_X9_changes_135, e_X9_changes_138, e_X9_changes_139, e_X9_changes_140, e_X9_changes_141, e_X9_changes_144, hm, g1, nI_1, h7, q1, nI_clamp (show k < 2 ^ 31 by omega), vp_in_nI (show k < 36 by omega) (show 36 < 2 ^ 31 by decide), nI_clamp (show 36 * pn + k < 2 ^ 31 by omega), vp_in_nI (show 36 * pn + k < 216 by omega) (show 216 < 2 ^ 31 by decide), st, true_and, and_true, rf_s, not_true_eq_false, not_false_eq_true, true_implies, false_implies, kl_i, kl_n, kl_l, kl_r, Option.toList, List.cons_append, List.nil_append, if_true, if_false, u2s, lt00, lt01, lt02, lt03, le10, le20, le30, ne10, ne20, ne30, eq00]
    exact ih (k + 1) (by omega)

theorem un_l1 (hm : MdS S N P m) {pn : Nat} (hpn : pn < 6) (h7 : I m 7 = nI pn) : ∀ (n k : Nat), k + n = 89 → (Wp S N d MX9_undo 30 [some (.ref m), some (.int (nI k))] [] (cpR I (m + 1) (0) (m + 5) (89 * pn) k) J P Q ↔ Wp S N d MX9_undo 62 [some (.ref m), some (.int (nI 89))] [] (cpR I (m + 1) (0) (m + 5) (89 * pn) 89) J P Q) := by
  have hm0 := hm
  unfold MdS at hm
  intro n
  induction n with
  | zero =>
    intro k hk
    have hk : k = 89 := by omega
    subst hk
    have g1 : (89 : Int32) ≤ nI 89 := by decide
    simp only [e_X9_undo_30, e_X9_undo_31, e_X9_undo_33, g1, true_and, and_true, rf_s, not_true_eq_false, not_false_eq_true, true_implies, false_implies, kl_i, kl_n, kl_l, kl_r, Option.toList, List.cons_append, List.nil_append, if_true, if_false, u2s, lt00, lt01, lt02, lt03, le10, le20, le30, ne10, ne20, ne30, eq00]
  | succ n ih =>
    intro k hk
    have g1 : ¬ (89 : Int32) ≤ nI k := nI_ge (a := k) (b := 89) (by omega) (by decide)
    have st : u2 (cpR I (m + 1) (0) (m + 5) (89 * pn) k) (m + 1) (k) (cpR I (m + 1) (0) (m + 5) (89 * pn) k (m + 5) (89 * pn + k)) = cpR I (m + 1) (0) (m + 5) (89 * pn) (k + 1) := by
      have h9 := cpR_step I (m + 1) (0) (m + 5) (89 * pn) k (Or.inl (by omega))
      simpa only [Nat.zero_add] using h9
    have o7 : (cpR I (m + 1) 0 (m + 5) (89 * pn) k) m 7 = nI pn := by rw [cpR_off _ _ _ _ _ (by omega)]; exact h7
    have q1 : (89 : Int32) * nI pn + nI k = nI (89 * pn + k) := by rw [show (89 : Int32) = nI 89 from rfl, pk_mul, nI_add]
    rw [e_X9_undo_30]
    simp only [e_X9_undo_31, e_X9_undo_33, e_X9_undo_36, e_X9_undo_37, e_X9_undo_40, e_X9_undo_41, e_X9_undo_42, e_X9_undo_45, e_X9_undo_47, e_X9_undo_48, e_X9_undo_51, e_X9_undo_52, e_X9_undo_53, e_X9_undo_54, e_X9_undo_55, e_X9_undo_56, e_X9_undo_59, hm, g1, nI_1, o7, q1, nI_clamp (show k < 2 ^ 31 by omega), vp_in_nI (show k < 89 by omega) (show 89 < 2 ^ 31 by decide), nI_clamp (show 89 * pn + k < 2 ^ 31 by omega), vp_in_nI (show 89 * pn + k < 534 by omega) (show 534 < 2 ^ 31 by decide), st, true_and, and_true, rf_s, not_true_eq_false, not_false_eq_true, true_implies, false_implies, kl_i, kl_n, kl_l, kl_r, Option.toList, List.cons_append, List.nil_append, if_true, if_false, u2s, lt00, lt01, lt02, lt03, le10, le20, le30, ne10, ne20, ne30, eq00]
    exact ih (k + 1) (by omega)

theorem un_l2 (hm : MdS S N P m) {pn : Nat} (hpn : pn < 6) (h7 : I m 7 = nI pn) : ∀ (n k : Nat), k + n = 36 → (Wp S N d MX9_undo 64 [some (.ref m), some (.int (nI k))] [] I (cpR J (m + 2) (0) (m + 6) (36 * pn) k) P Q ↔ Wp S N d MX9_undo 96 [some (.ref m), some (.int (nI 36))] [] I (cpR J (m + 2) (0) (m + 6) (36 * pn) 36) P Q) := by
  have hm0 := hm
  unfold MdS at hm
  intro n
  induction n with
  | zero =>
    intro k hk
    have hk : k = 36 := by omega
    subst hk
    have g1 : (36 : Int32) ≤ nI 36 := by decide
    simp only [e_X9_undo_64, e_X9_undo_65, e_X9_undo_67, g1, true_and, and_true, rf_s, not_true_eq_false, not_false_eq_true, true_implies, false_implies, kl_i, kl_n, kl_l, kl_r, Option.toList, List.cons_append, List.nil_append, if_true, if_false, u2s, lt00, lt01, lt02, lt03, le10, le20, le30, ne10, ne20, ne30, eq00]
  | succ n ih =>
    intro k hk
    have g1 : ¬ (36 : Int32) ≤ nI k := nI_ge (a := k) (b := 36) (by omega) (by decide)
    have st : u2 (cpR J (m + 2) (0) (m + 6) (36 * pn) k) (m + 2) (k) (cpR J (m + 2) (0) (m + 6) (36 * pn) k (m + 6) (36 * pn + k)) = cpR J (m + 2) (0) (m + 6) (36 * pn) (k + 1) := by
      have h9 := cpR_step J (m + 2) (0) (m + 6) (36 * pn) k (Or.inl (by omega))
      simpa only [Nat.zero_add] using h9
    have q1 : (36 : Int32) * nI pn + nI k = nI (36 * pn + k) := by rw [show (36 : Int32) = nI 36 from rfl, pk_mul, nI_add]
    rw [e_X9_undo_64]
    simp only [e_X9_undo_65, e_X9_undo_67, e_X9_undo_70, e_X9_undo_71, e_X9_undo_74, e_X9_undo_75, e_X9_undo_76, e_X9_undo_79, e_X9_undo_81, e_X9_undo_82, e_X9_undo_85, e_X9_undo_86, e_X9_undo_87, e_X9_undo_88, e_X9_undo_89, e_X9_undo_90, e_X9_undo_93, hm, g1, nI_1, h7, q1, nI_clamp (show k < 2 ^ 31 by omega), vp_in_nI (show k < 36 by omega) (show 36 < 2 ^ 31 by decide), nI_clamp (show 36 * pn + k < 2 ^ 31 by omega), vp_in_nI (show 36 * pn + k < 216 by omega) (show 216 < 2 ^ 31 by decide), st, true_and, and_true, rf_s, not_true_eq_false, not_false_eq_true, true_implies, false_implies, kl_i, kl_n, kl_l, kl_r, Option.toList, List.cons_append, List.nil_append, if_true, if_false, u2s, lt00, lt01, lt02, lt03, le10, le20, le30, ne10, ne20, ne30, eq00]
    exact ih (k + 1) (by omega)

theorem sv_l1 (hm : MdS S N P m)  : ∀ (n k : Nat), k + n = 89 → (Wp S N d MX9_save 12 [some (.ref m), some (.int (nI k))] [] (cpR I (m + 3) (0) (m + 1) (0) k) J P Q ↔ Wp S N d MX9_save 36 [some (.ref m), some (.int (nI 89))] [] (cpR I (m + 3) (0) (m + 1) (0) 89) J P Q) := by
  have hm0 := hm
  unfold MdS at hm
  intro n
  induction n with
  | zero =>
    intro k hk
    have hk : k = 89 := by omega
    subst hk
    have g1 : (89 : Int32) ≤ nI 89 := by decide
    simp only [e_X9_save_12, e_X9_save_13, e_X9_save_15, g1, true_and, and_true, rf_s, not_true_eq_false, not_false_eq_true, true_implies, false_implies, kl_i, kl_n, kl_l, kl_r, Option.toList, List.cons_append, List.nil_append, if_true, if_false, u2s, lt00, lt01, lt02, lt03, le10, le20, le30, ne10, ne20, ne30, eq00]
  | succ n ih =>
    intro k hk
    have g1 : ¬ (89 : Int32) ≤ nI k := nI_ge (a := k) (b := 89) (by omega) (by decide)
    have st : u2 (cpR I (m + 3) (0) (m + 1) (0) k) (m + 3) (k) (cpR I (m + 3) (0) (m + 1) (0) k (m + 1) (k)) = cpR I (m + 3) (0) (m + 1) (0) (k + 1) := by
      have h9 := cpR_step I (m + 3) (0) (m + 1) (0) k (Or.inl (by omega))
      simpa only [Nat.zero_add] using h9
    rw [e_X9_save_12]
    simp only [e_X9_save_13, e_X9_save_15, e_X9_save_18, e_X9_save_19, e_X9_save_22, e_X9_save_23, e_X9_save_24, e_X9_save_27, e_X9_save_28, e_X9_save_29, e_X9_save_30, e_X9_save_33, hm, g1, nI_1, nI_clamp (show k < 2 ^ 31 by omega), vp_in_nI (show k < 89 by omega) (show 89 < 2 ^ 31 by decide), st, true_and, and_true, rf_s, not_true_eq_false, not_false_eq_true, true_implies, false_implies, kl_i, kl_n, kl_l, kl_r, Option.toList, List.cons_append, List.nil_append, if_true, if_false, u2s, lt00, lt01, lt02, lt03, le10, le20, le30, ne10, ne20, ne30, eq00]
    exact ih (k + 1) (by omega)

theorem sv_l2 (hm : MdS S N P m)  : ∀ (n k : Nat), k + n = 36 → (Wp S N d MX9_save 38 [some (.ref m), some (.int (nI k))] [] I (cpR J (m + 4) (0) (m + 2) (0) k) P Q ↔ Wp S N d MX9_save 62 [some (.ref m), some (.int (nI 36))] [] I (cpR J (m + 4) (0) (m + 2) (0) 36) P Q) := by
  have hm0 := hm
  unfold MdS at hm
  intro n
  induction n with
  | zero =>
    intro k hk
    have hk : k = 36 := by omega
    subst hk
    have g1 : (36 : Int32) ≤ nI 36 := by decide
    simp only [e_X9_save_38, e_X9_save_39, e_X9_save_41, g1, true_and, and_true, rf_s, not_true_eq_false, not_false_eq_true, true_implies, false_implies, kl_i, kl_n, kl_l, kl_r, Option.toList, List.cons_append, List.nil_append, if_true, if_false, u2s, lt00, lt01, lt02, lt03, le10, le20, le30, ne10, ne20, ne30, eq00]
  | succ n ih =>
    intro k hk
    have g1 : ¬ (36 : Int32) ≤ nI k := nI_ge (a := k) (b := 36) (by omega) (by decide)
    have st : u2 (cpR J (m + 4) (0) (m + 2) (0) k) (m + 4) (k) (cpR J (m + 4) (0) (m + 2) (0) k (m + 2) (k)) = cpR J (m + 4) (0) (m + 2) (0) (k + 1) := by
      have h9 := cpR_step J (m + 4) (0) (m + 2) (0) k (Or.inl (by omega))
      simpa only [Nat.zero_add] using h9
    rw [e_X9_save_38]
    simp only [e_X9_save_39, e_X9_save_41, e_X9_save_44, e_X9_save_45, e_X9_save_48, e_X9_save_49, e_X9_save_50, e_X9_save_53, e_X9_save_54, e_X9_save_55, e_X9_save_56, e_X9_save_59, hm, g1, nI_1, nI_clamp (show k < 2 ^ 31 by omega), vp_in_nI (show k < 36 by omega) (show 36 < 2 ^ 31 by decide), st, true_and, and_true, rf_s, not_true_eq_false, not_false_eq_true, true_implies, false_implies, kl_i, kl_n, kl_l, kl_r, Option.toList, List.cons_append, List.nil_append, if_true, if_false, u2s, lt00, lt01, lt02, lt03, le10, le20, le30, ne10, ne20, ne30, eq00]
    exact ih (k + 1) (by omega)

theorem rs_l1 (hm : MdS S N P m)  : ∀ (n k : Nat), k + n = 89 → (Wp S N d MX9_restore 30 [some (.ref m), some (.int (nI k))] [] (cpR I (m + 1) (0) (m + 3) (0) k) J P Q ↔ Wp S N d MX9_restore 54 [some (.ref m), some (.int (nI 89))] [] (cpR I (m + 1) (0) (m + 3) (0) 89) J P Q) := by
  have hm0 := hm
  unfold MdS at hm
  intro n
  induction n with
  | zero =>
    intro k hk
    have hk : k = 89 := by omega
    subst hk
    have g1 : (89 : Int32) ≤ nI 89 := by decide
    simp only [e_X9_restore_30, e_X9_restore_31, e_X9_restore_33, g1, true_and, and_true, rf_s, not_true_eq_false, not_false_eq_true, true_implies, false_implies, kl_i, kl_n, kl_l, kl_r, Option.toList, List.cons_append, List.nil_append, if_true, if_false, u2s, lt00, lt01, lt02, lt03, le10, le20, le30, ne10, ne20, ne30, eq00]
  | succ n ih =>
    intro k hk
    have g1 : ¬ (89 : Int32) ≤ nI k := nI_ge (a := k) (b := 89) (by omega) (by decide)
    have st : u2 (cpR I (m + 1) (0) (m + 3) (0) k) (m + 1) (k) (cpR I (m + 1) (0) (m + 3) (0) k (m + 3) (k)) = cpR I (m + 1) (0) (m + 3) (0) (k + 1) := by
      have h9 := cpR_step I (m + 1) (0) (m + 3) (0) k (Or.inl (by omega))
      simpa only [Nat.zero_add] using h9
    rw [e_X9_restore_30]
    simp only [e_X9_restore_31, e_X9_restore_33, e_X9_restore_36, e_X9_restore_37, e_X9_restore_40, e_X9_restore_41, e_X9_restore_42, e_X9_restore_45, e_X9_restore_46, e_X9_restore_47, e_X9_restore_48, e_X9_restore_51, hm, g1, nI_1, nI_clamp (show k < 2 ^ 31 by omega), vp_in_nI (show k < 89 by omega) (show 89 < 2 ^ 31 by decide), st, true_and, and_true, rf_s, not_true_eq_false, not_false_eq_true, true_implies, false_implies, kl_i, kl_n, kl_l, kl_r, Option.toList, List.cons_append, List.nil_append, if_true, if_false, u2s, lt00, lt01, lt02, lt03, le10, le20, le30, ne10, ne20, ne30, eq00]
    exact ih (k + 1) (by omega)

theorem rs_l2 (hm : MdS S N P m)  : ∀ (n k : Nat), k + n = 36 → (Wp S N d MX9_restore 56 [some (.ref m), some (.int (nI k))] [] I (cpR J (m + 2) (0) (m + 4) (0) k) P Q ↔ Wp S N d MX9_restore 80 [some (.ref m), some (.int (nI 36))] [] I (cpR J (m + 2) (0) (m + 4) (0) 36) P Q) := by
  have hm0 := hm
  unfold MdS at hm
  intro n
  induction n with
  | zero =>
    intro k hk
    have hk : k = 36 := by omega
    subst hk
    have g1 : (36 : Int32) ≤ nI 36 := by decide
    simp only [e_X9_restore_56, e_X9_restore_57, e_X9_restore_59, g1, true_and, and_true, rf_s, not_true_eq_false, not_false_eq_true, true_implies, false_implies, kl_i, kl_n, kl_l, kl_r, Option.toList, List.cons_append, List.nil_append, if_true, if_false, u2s, lt00, lt01, lt02, lt03, le10, le20, le30, ne10, ne20, ne30, eq00]
  | succ n ih =>
    intro k hk
    have g1 : ¬ (36 : Int32) ≤ nI k := nI_ge (a := k) (b := 36) (by omega) (by decide)
    have st : u2 (cpR J (m + 2) (0) (m + 4) (0) k) (m + 2) (k) (cpR J (m + 2) (0) (m + 4) (0) k (m + 4) (k)) = cpR J (m + 2) (0) (m + 4) (0) (k + 1) := by
      have h9 := cpR_step J (m + 2) (0) (m + 4) (0) k (Or.inl (by omega))
      simpa only [Nat.zero_add] using h9
    rw [e_X9_restore_56]
    simp only [e_X9_restore_57, e_X9_restore_59, e_X9_restore_62, e_X9_restore_63, e_X9_restore_66, e_X9_restore_67, e_X9_restore_68, e_X9_restore_71, e_X9_restore_72, e_X9_restore_73, e_X9_restore_74, e_X9_restore_77, hm, g1, nI_1, nI_clamp (show k < 2 ^ 31 by omega), vp_in_nI (show k < 36 by omega) (show 36 < 2 ^ 31 by decide), st, true_and, and_true, rf_s, not_true_eq_false, not_false_eq_true, true_implies, false_implies, kl_i, kl_n, kl_l, kl_r, Option.toList, List.cons_append, List.nil_append, if_true, if_false, u2s, lt00, lt01, lt02, lt03, le10, le20, le30, ne10, ne20, ne30, eq00]
    exact ih (k + 1) (by omega)

theorem cy_l3 (hm : MdS S N P m)  : ∀ (n k : Nat), k + n = 36 → (Wp S N d MX9_closeYear 59 [some (.ref m), some (.int (nI k))] [] I (cpR J (m + 2) (0) (m + 14) (0) k) P Q ↔ Wp S N d MX9_closeYear 83 [some (.ref m), some (.int (nI 36))] [] I (cpR J (m + 2) (0) (m + 14) (0) 36) P Q) := by
  have hm0 := hm
  unfold MdS at hm
  intro n
  induction n with
  | zero =>
    intro k hk
    have hk : k = 36 := by omega
    subst hk
    have g1 : (36 : Int32) ≤ nI 36 := by decide
    simp only [e_X9_closeYear_59, e_X9_closeYear_60, e_X9_closeYear_62, g1, true_and, and_true, rf_s, not_true_eq_false, not_false_eq_true, true_implies, false_implies, kl_i, kl_n, kl_l, kl_r, Option.toList, List.cons_append, List.nil_append, if_true, if_false, u2s, lt00, lt01, lt02, lt03, le10, le20, le30, ne10, ne20, ne30, eq00]
  | succ n ih =>
    intro k hk
    have g1 : ¬ (36 : Int32) ≤ nI k := nI_ge (a := k) (b := 36) (by omega) (by decide)
    have st : u2 (cpR J (m + 2) (0) (m + 14) (0) k) (m + 2) (k) (cpR J (m + 2) (0) (m + 14) (0) k (m + 14) (k)) = cpR J (m + 2) (0) (m + 14) (0) (k + 1) := by
      have h9 := cpR_step J (m + 2) (0) (m + 14) (0) k (Or.inl (by omega))
      simpa only [Nat.zero_add] using h9
    rw [e_X9_closeYear_59]
    simp only [e_X9_closeYear_60, e_X9_closeYear_62, e_X9_closeYear_65, e_X9_closeYear_66, e_X9_closeYear_69, e_X9_closeYear_70, e_X9_closeYear_71, e_X9_closeYear_74, e_X9_closeYear_75, e_X9_closeYear_76, e_X9_closeYear_77, e_X9_closeYear_80, hm, g1, nI_1, nI_clamp (show k < 2 ^ 31 by omega), vp_in_nI (show k < 36 by omega) (show 36 < 2 ^ 31 by decide), st, true_and, and_true, rf_s, not_true_eq_false, not_false_eq_true, true_implies, false_implies, kl_i, kl_n, kl_l, kl_r, Option.toList, List.cons_append, List.nil_append, if_true, if_false, u2s, lt00, lt01, lt02, lt03, le10, le20, le30, ne10, ne20, ne30, eq00]
    exact ih (k + 1) (by omega)

end MTA

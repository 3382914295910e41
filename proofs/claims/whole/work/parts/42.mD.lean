/-! the model's credits in their order -/
def sw (a b k : Nat) : Nat := if k = a then b else if k = b then a else k
def mvp (f t i : Nat) : Nat := if i = t then f else if f ≤ i ∧ i < t then i + 1 else if t < i ∧ i ≤ f then i - 1 else i
theorem sw_lt {a b k : Nat} (ha : a < 6) (hb : b < 6) (hk : k < 6) : sw a b k < 6 := by
  unfold sw
  split
  · omega
  · split <;> omega
theorem mvp_ff (f i : Nat) : mvp f f i = i := by
  unfold mvp
  split
  · omega
  · split
    · omega
    · split <;> omega
theorem mvp_up {f s i : Nat} (h : f ≤ s) : mvp f s (sw s (s + 1) i) = mvp f (s + 1) i := by
  unfold mvp sw
  rcases Nat.lt_trichotomy i s with h1 | h1 | h1
  · simp only [show ¬ i = s by omega, show ¬ i = s + 1 by omega, if_false]
    by_cases h2 : f ≤ i
    · simp only [show f ≤ i ∧ i < s by omega, show f ≤ i ∧ i < s + 1 by omega, if_true, and_self]
    · simp only [show ¬ (f ≤ i ∧ i < s) by omega, show ¬ (f ≤ i ∧ i < s + 1) by omega, show ¬ (s < i ∧ i ≤ f) by omega, show ¬ (s + 1 < i ∧ i ≤ f) by omega, if_false]
  · subst h1
    simp only [if_true, show ¬ i + 1 = i by omega, show ¬ i = i + 1 by omega, if_false, show ¬ (f ≤ i + 1 ∧ i + 1 < i) by omega, show f ≤ i ∧ i < i + 1 by omega, and_self, show ¬ (i < i + 1 ∧ i + 1 ≤ f) by omega]
    exact if_neg (fun q => by have := q.2; omega)
  · by_cases h2 : i = s + 1
    · subst h2
      simp only [show ¬ s + 1 = s by omega, if_true, if_false]
    · simp only [show ¬ i = s by omega, h2, if_false, show ¬ (f ≤ i ∧ i < s) by omega, show ¬ (f ≤ i ∧ i < s + 1) by omega, show ¬ (s < i ∧ i ≤ f) by omega, show ¬ (s + 1 < i ∧ i ≤ f) by omega]
theorem mvp_dn {f s i : Nat} (h : s + 1 ≤ f) : mvp f (s + 1) (sw (s + 1) s i) = mvp f s i := by
  unfold mvp sw
  rcases Nat.lt_trichotomy i s with h1 | h1 | h1
  · simp only [show ¬ i = s by omega, show ¬ i = s + 1 by omega, if_false, show ¬ (f ≤ i ∧ i < s) by omega, show ¬ (f ≤ i ∧ i < s + 1) by omega, show ¬ (s < i ∧ i ≤ f) by omega, show ¬ (s + 1 < i ∧ i ≤ f) by omega]
  · subst h1
    simp only [show ¬ i = i + 1 by omega, if_true, if_false]
  · by_cases h2 : i = s + 1
    · subst h2
      simp only [if_true, show ¬ s + 1 = s by omega, show ¬ s = s + 1 by omega, if_false, show ¬ (f ≤ s ∧ s < s + 1) by omega, show ¬ (s + 1 < s ∧ s ≤ f) by omega, show ¬ (f ≤ s + 1 ∧ s + 1 < s) by omega, show s < s + 1 ∧ s + 1 ≤ f by omega, and_self, show s + 1 - 1 = s by omega]
      exact if_neg (fun q => by have := q.1; omega)
    · simp only [show ¬ i = s by omega, h2, if_false, show ¬ (f ≤ i ∧ i < s) by omega, show ¬ (f ≤ i ∧ i < s + 1) by omega]
      by_cases h3 : i ≤ f
      · simp only [show s < i ∧ i ≤ f by omega, show s + 1 < i ∧ i ≤ f by omega, and_self, if_true]
      · simp only [show ¬ (s < i ∧ i ≤ f) by omega, show ¬ (s + 1 < i ∧ i ≤ f) by omega, if_false]
/-- the credits of g and h, in the order π -/
def Prm (m : Nat) (I : IM) (J : JM) (g : Nat → Int32) (h : Nat → Int64) (π : Nat → Nat) : Prop := (∀ k j, k < 6 → j < 6 → I (m + 1) (28 + 6 * k + j) = g (28 + 6 * π k + j)) ∧ (∀ p k, p < 6 → k < 6 → J (m + 2) (6 * p + k) = h (6 * p + π k)) ∧ ∀ x, x < 28 ∨ 64 ≤ x → I (m + 1) x = g x
theorem Prm.id {m : Nat} {I : IM} {J : JM} : Prm m I J (I (m + 1)) (J (m + 2)) (fun k => k) := ⟨fun _ _ _ _ => rfl, fun _ _ _ _ => rfl, fun _ _ => rfl⟩
section MTD
variable {S N : Nat → Nat} {d : Nat} {I : IM} {J : JM} {P : PM} {Q : Option Value → IM → JM → PM → Prop} {m : Nat} {g : Nat → Int32} {h : Nat → Int64} {nb nc nk : Nat}
theorem ex_loop (hm : MdS S N P m) {a b : Nat} (ha : a < 6) (hb : b < 6) (hab : a ≠ b) : ∀ (n i : Nat), i + n = 6 → ∀ (I : IM) (J : JM) (x4 x5 x6 : Option Value), (∀ I' J', (∀ c, c ≠ m + 1 → I' c = I c) → (∀ c, c ≠ m + 2 → J' c = J c) →
      (∀ k j, k < 6 → j < 6 → I' (m + 1) (28 + 6 * k + j) = if i ≤ j then I (m + 1) (28 + 6 * sw a b k + j) else I (m + 1) (28 + 6 * k + j)) → (∀ p k, p < 6 → k < 6 → J' (m + 2) (6 * p + k) = if i ≤ p then J (m + 2) (6 * p + sw a b k) else J (m + 2) (6 * p + k)) → (∀ x, x < 28 ∨ 64 ≤ x → I' (m + 1) x = I (m + 1) x) → Q none I' J' P) →
    Wp S N d MX9_exchanges 2 [some (.ref m), some (.int (nI a)), some (.int (nI b)), some (.int (nI i)), x4, x5, x6] [] I J P Q := by
  have hm0 := hm
  unfold MdS at hm
  intro n
  induction n with
  | zero =>
    intro i hi I J x4 x5 x6 hq
    have hi : i = 6 := by omega
    subst hi
    have g1 : (6 : Int32) ≤ nI 6 := by decide
    simp only [e_X9_exchanges_2, e_X9_exchanges_3, e_X9_exchanges_5, e_X9_exchanges_122, g1, true_and, and_true, rf_s, not_true_eq_false, not_false_eq_true, true_implies, false_implies, kl_i, kl_n, kl_l, kl_r, Option.toList, List.cons_append, List.nil_append, if_true, if_false, u2s, lt00, lt01, lt02, lt03, le10, le20, le30, ne10, ne20, ne30, eq00]
    exact hq I J (fun _ _ => rfl) (fun _ _ => rfl) (fun k j _ hj => by rw [if_neg (by omega)]) (fun p k hp _ => by rw [if_neg (by omega)]) (fun _ _ => rfl)
  | succ n ih =>
    intro i hi I J x4 x5 x6 hq
    have hi6 : i < 6 := by omega
    have g1 : ¬ (6 : Int32) ≤ nI i := nI_ge (a := i) (b := 6) (by omega) (by decide)
    have q1 : (28 : Int32) + 6 * nI a + nI i = nI (28 + 6 * a + i) := nIx2 (a := 28) (b := 6) a
    have q2 : (28 : Int32) + 6 * nI b + nI i = nI (28 + 6 * b + i) := nIx2 (a := 28) (b := 6) b
    have q3 : (6 : Int32) * nI i + nI a = nI (6 * i + a) := by rw [show (6 : Int32) = nI 6 from rfl, pk_mul, nI_add]
    have q4 : (6 : Int32) * nI i + nI b = nI (6 * i + b) := by rw [show (6 : Int32) = nI 6 from rfl, pk_mul, nI_add]
    rw [e_X9_exchanges_2]
    simp only [e_X9_exchanges_3, e_X9_exchanges_5, e_X9_exchanges_8, e_X9_exchanges_9, e_X9_exchanges_12, e_X9_exchanges_14, e_X9_exchanges_16, e_X9_exchanges_17, e_X9_exchanges_18, e_X9_exchanges_19, e_X9_exchanges_20, e_X9_exchanges_21, e_X9_exchanges_22, e_X9_exchanges_24, e_X9_exchanges_25, e_X9_exchanges_28, e_X9_exchanges_30, e_X9_exchanges_32, e_X9_exchanges_33, e_X9_exchanges_34, e_X9_exchanges_35, e_X9_exchanges_36, e_X9_exchanges_37, e_X9_exchanges_38, e_X9_exchanges_41, e_X9_exchanges_43, e_X9_exchanges_45, e_X9_exchanges_46, e_X9_exchanges_47, e_X9_exchanges_48, e_X9_exchanges_49, e_X9_exchanges_50, e_X9_exchanges_51, e_X9_exchanges_52, e_X9_exchanges_53, e_X9_exchanges_56, e_X9_exchanges_58, e_X9_exchanges_60, e_X9_exchanges_61, e_X9_exchanges_62, e_X9_exchanges_63, e_X9_exchanges_64, e_X9_exchanges_65, e_X9_exchanges_67, e_X9_exchanges_68, e_X9_exchanges_69, e_X9_exchanges_72, e_X9_exchanges_74, e_X9_exchanges_75, e_X9_exchanges_76, e_X9_exchanges_77, e_X9_exchanges_78, e_X9_exchanges_79, e_X9_exchanges_81, e_X9_exchanges_82, e_X9_exchanges_85, e_X9_exchanges_87, e_X9_exchanges_88, e_X9_exchanges_89, e_X9_exchanges_90, e_X9_exchanges_91, e_X9_exchanges_92, e_X9_exchanges_95, e_X9_exchanges_97, e_X9_exchanges_98, e_X9_exchanges_99, e_X9_exchanges_100, e_X9_exchanges_101, e_X9_exchanges_102, e_X9_exchanges_103, e_X9_exchanges_104, e_X9_exchanges_107, e_X9_exchanges_109, e_X9_exchanges_110, e_X9_exchanges_111, e_X9_exchanges_112, e_X9_exchanges_113, e_X9_exchanges_115, e_X9_exchanges_116, e_X9_exchanges_119, hm, g1, q1, q2, q3, q4, nI_1, nI_clamp (show 28 + 6 * a + i < 2 ^ 31 by omega), nI_clamp (show 28 + 6 * b + i < 2 ^ 31 by omega), nI_clamp (show 6 * i + a < 2 ^ 31 by omega), nI_clamp (show 6 * i + b < 2 ^ 31 by omega), vpn (show 28 + 6 * a + i < 89 by omega) (by decide), vpn (show 28 + 6 * b + i < 89 by omega) (by decide), vpn (show 6 * i + a < 36 by omega) (by decide), vpn (show 6 * i + b < 36 by omega) (by decide), true_and, and_true, rf_s, not_true_eq_false, not_false_eq_true, true_implies, false_implies, kl_i, kl_n, kl_l, kl_r, Option.toList, List.cons_append, List.nil_append, if_true, if_false, u2s, lt00, lt01, lt02, lt03, le10, le20, le30, ne10, ne20, ne30, eq00]
    refine ih (i + 1) (by omega) _ _ _ _ _ (fun I' J' b1 b2 b3 b4 b5 => hq I' J' (fun c hc => ?_) (fun c hc => ?_) (fun k j hk hj => ?_) (fun p k hp hk => ?_) (fun x hx => ?_))
    · rw [b1 c hc, u2_off _ _ _ hc, u2_off _ _ _ hc]
    · rw [b2 c hc, u2_off _ _ _ hc, u2_off _ _ _ hc]
    · rw [b3 k j hk hj]
      have hs := sw_lt ha hb hk
      by_cases hij : i + 1 ≤ j
      · rw [if_pos hij, if_pos (by omega), u2k _ _ _ (by omega), u2k _ _ _ (by omega)]
      · rw [if_neg hij]
        by_cases hj2 : j = i
        · subst hj2
          rw [if_pos (Nat.le_refl j)]
          unfold sw
          by_cases hka : k = a
          · subst hka
            rw [if_pos rfl, u2k _ _ _ (by omega), u2s]
          · by_cases hkb : k = b
            · subst hkb
              rw [if_neg hka, if_pos rfl, u2s]
            · rw [if_neg hka, if_neg hkb, u2k _ _ _ (by omega), u2k _ _ _ (by omega)]
        · rw [if_neg (by omega), u2k _ _ _ (by omega), u2k _ _ _ (by omega)]
    · rw [b4 p k hp hk]
      have hs := sw_lt ha hb hk
      by_cases hij : i + 1 ≤ p
      · rw [if_pos hij, if_pos (by omega), u2k _ _ _ (by omega), u2k _ _ _ (by omega)]
      · rw [if_neg hij]
        by_cases hj2 : p = i
        · subst hj2
          rw [if_pos (Nat.le_refl p)]
          unfold sw
          by_cases hka : k = a
          · subst hka
            rw [if_pos rfl, u2k _ _ _ (by omega), u2s]
          · by_cases hkb : k = b
            · subst hkb
              rw [if_neg hka, if_pos rfl, u2s]
            · rw [if_neg hka, if_neg hkb, u2k _ _ _ (by omega), u2k _ _ _ (by omega)]
        · rw [if_neg (by omega), u2k _ _ _ (by omega), u2k _ _ _ (by omega)]
    · rw [b5 x hx, u2k _ _ _ (by omega), u2k _ _ _ (by omega)]
theorem s_exchanges (hm : MdS S N P m) {a b : Nat} (ha : a < 6) (hb : b < 6) (hab : a ≠ b) {π : Nat → Nat} (hp : Prm m I J g h π)
    (hq : ∀ I' J', (∀ c, c ≠ m + 1 → I' c = I c) → (∀ c, c ≠ m + 2 → J' c = J c) → Prm m I' J' g h (fun k => π (sw a b k)) → Q none I' J' P) : CWp S N d MX9_exchanges [.ref m, .int (nI a), .int (nI b)] I J P Q := by
  rw [c_X9_exchanges]
  simp only [e_X9_exchanges_0, e_X9_exchanges_1, true_and, and_true, rf_s, not_true_eq_false, not_false_eq_true, true_implies, false_implies, kl_i, kl_n, kl_l, kl_r, Option.toList, List.cons_append, List.nil_append, if_true, if_false, u2s, lt00, lt01, lt02, lt03, le10, le20, le30, ne10, ne20, ne30, eq00]
  obtain ⟨p1, p2, p3⟩ := hp
  refine ex_loop hm ha hb hab 6 0 rfl I J _ _ _ (fun I' J' b1 b2 b3 b4 b5 => hq I' J' b1 b2 ⟨fun k j hk hj => ?_, fun p k hp hk => ?_, fun x hx => (b5 x hx).trans (p3 x hx)⟩)
  · rw [b3 k j hk hj, if_pos (Nat.zero_le _)]
    exact p1 _ j (sw_lt ha hb hk) hj
  · rw [b4 p k hp hk, if_pos (Nat.zero_le _)]
    exact p2 p _ hp (sw_lt ha hb hk)
theorem mv_up (hm : MdS S N P m) {f t : Nat} (ht : t < 6) : ∀ (n s : Nat), s + n = t → f ≤ s → ∀ (I : IM) (J : JM), Prm m I J g h (mvp f s) → (∀ I' J', (∀ c, c ≠ m + 1 → I' c = I c) → (∀ c, c ≠ m + 2 → J' c = J c) → Prm m I' J' g h (mvp f t) → Wp S N (d + 1) MX9_moves 21 [some (.ref m), some (.int (nI f)), some (.int (nI t)), some (.int (nI t))] [] I' J' P Q) →
    Wp S N (d + 1) MX9_moves 2 [some (.ref m), some (.int (nI f)), some (.int (nI t)), some (.int (nI s))] [] I J P Q := by
  have hm0 := hm
  unfold MdS at hm
  intro n
  induction n with
  | zero =>
    intro s hs hf I J hp hq
    have hs : s = t := by omega
    subst hs
    have g1 : nI s ≤ nI s := nI_le (Nat.le_refl s) (by omega)
    simp only [e_X9_moves_2, e_X9_moves_3, e_X9_moves_4, g1, true_and, and_true, rf_s, not_true_eq_false, not_false_eq_true, true_implies, false_implies, kl_i, kl_n, kl_l, kl_r, Option.toList, List.cons_append, List.nil_append, if_true, if_false, u2s, lt00, lt01, lt02, lt03, le10, le20, le30, ne10, ne20, ne30, eq00]
    exact hq I J (fun _ _ => rfl) (fun _ _ => rfl) hp
  | succ n ih =>
    intro s hs hf I J hp hq
    have g1 : ¬ nI t ≤ nI s := nI_ge (by omega) (by omega)
    simp only [e_X9_moves_2, e_X9_moves_3, e_X9_moves_4, e_X9_moves_7, e_X9_moves_8, e_X9_moves_9, e_X9_moves_10, e_X9_moves_11, e_X9_moves_12, hm, g1, nI_1, true_and, and_true, rf_s, not_true_eq_false, not_false_eq_true, true_implies, false_implies, kl_i, kl_n, kl_l, kl_r, Option.toList, List.cons_append, List.nil_append, if_true, if_false, u2s, lt00, lt01, lt02, lt03, le10, le20, le30, ne10, ne20, ne30, eq00]
    refine s_exchanges hm0 (show s < 6 by omega) (show s + 1 < 6 by omega) (by omega) hp (fun I1 J1 a1 a2 a3 => ?_)
    simp only [e_X9_moves_15, e_X9_moves_18, nI_1, true_and, and_true, rf_s, not_true_eq_false, not_false_eq_true, true_implies, false_implies, kl_i, kl_n, kl_l, kl_r, Option.toList, List.cons_append, List.nil_append, if_true, if_false, u2s, lt00, lt01, lt02, lt03, le10, le20, le30, ne10, ne20, ne30, eq00]
    refine ih (s + 1) (by omega) (by omega) I1 J1 ?_ (fun I' J' b1 b2 b3 => hq I' J' (fun c hc => (b1 c hc).trans (a1 c hc)) (fun c hc => (b2 c hc).trans (a2 c hc)) b3)
    rw [show mvp f (s + 1) = fun k => mvp f s (sw s (s + 1) k) from funext fun k => (mvp_up hf).symm]
    exact a3
theorem mv_dn (hm : MdS S N P m) {f t : Nat} (hf6 : f < 6) : ∀ (n s : Nat), s = t + n → s ≤ f → ∀ (I : IM) (J : JM), Prm m I J g h (mvp f s) → (∀ I' J', (∀ c, c ≠ m + 1 → I' c = I c) → (∀ c, c ≠ m + 2 → J' c = J c) → Prm m I' J' g h (mvp f t) → Q none I' J' P) →
    Wp S N (d + 1) MX9_moves 23 [some (.ref m), some (.int (nI f)), some (.int (nI t)), some (.int (nI s))] [] I J P Q := by
  have hm0 := hm
  unfold MdS at hm
  intro n
  induction n with
  | zero =>
    intro s hs hf I J hp hq
    have hs : s = t := by omega
    subst hs
    have g1 : nI s ≤ nI s := nI_le (Nat.le_refl s) (by omega)
    simp only [e_X9_moves_23, e_X9_moves_24, e_X9_moves_25, e_X9_moves_42, g1, true_and, and_true, rf_s, not_true_eq_false, not_false_eq_true, true_implies, false_implies, kl_i, kl_n, kl_l, kl_r, Option.toList, List.cons_append, List.nil_append, if_true, if_false, u2s, lt00, lt01, lt02, lt03, le10, le20, le30, ne10, ne20, ne30, eq00]
    exact hq I J (fun _ _ => rfl) (fun _ _ => rfl) hp
  | succ n ih =>
    intro s hs hf I J hp hq
    obtain ⟨s, rfl⟩ : ∃ s', s = s' + 1 := ⟨s - 1, by omega⟩
    have g1 : ¬ nI (s + 1) ≤ nI t := nI_ge (by omega) (by omega)
    have q1 : nI (s + 1) + -1 = nI s := pk_m1 s
    simp only [e_X9_moves_23, e_X9_moves_24, e_X9_moves_25, e_X9_moves_28, e_X9_moves_29, e_X9_moves_30, e_X9_moves_31, e_X9_moves_32, e_X9_moves_33, hm, g1, nI_pred, true_and, and_true, rf_s, not_true_eq_false, not_false_eq_true, true_implies, false_implies, kl_i, kl_n, kl_l, kl_r, Option.toList, List.cons_append, List.nil_append, if_true, if_false, u2s, lt00, lt01, lt02, lt03, le10, le20, le30, ne10, ne20, ne30, eq00]
    refine s_exchanges hm0 (show s + 1 < 6 by omega) (show s < 6 by omega) (by omega) hp (fun I1 J1 a1 a2 a3 => ?_)
    simp only [e_X9_moves_36, e_X9_moves_39, q1, true_and, and_true, rf_s, not_true_eq_false, not_false_eq_true, true_implies, false_implies, kl_i, kl_n, kl_l, kl_r, Option.toList, List.cons_append, List.nil_append, if_true, if_false, u2s, lt00, lt01, lt02, lt03, le10, le20, le30, ne10, ne20, ne30, eq00]
    refine ih s (by omega) (by omega) I1 J1 ?_ (fun I' J' b1 b2 b3 => hq I' J' (fun c hc => (b1 c hc).trans (a1 c hc)) (fun c hc => (b2 c hc).trans (a2 c hc)) b3)
    rw [show mvp f s = fun k => mvp f (s + 1) (sw (s + 1) s k) from funext fun k => (mvp_dn hf).symm]
    exact a3
theorem s_moves (hm : MdS S N P m) {f t : Nat} (hf : f < 6) (ht : t < 6) (hq : ∀ I' J', (∀ c, c ≠ m + 1 → I' c = I c) → (∀ c, c ≠ m + 2 → J' c = J c) → Prm m I' J' (I (m + 1)) (J (m + 2)) (mvp f t) → Q none I' J' P) : CWp S N (d + 1) MX9_moves [.ref m, .int (nI f), .int (nI t)] I J P Q := by
  rw [c_X9_moves]
  have hm0 := hm
  unfold MdS at hm
  have h0 : Prm m I J (I (m + 1)) (J (m + 2)) (mvp f f) := by
    rw [show mvp f f = fun k => k from funext fun k => mvp_ff f k]
    exact Prm.id
  simp only [e_X9_moves_0, e_X9_moves_1, true_and, and_true, rf_s, not_true_eq_false, not_false_eq_true, true_implies, false_implies, kl_i, kl_n, kl_l, kl_r, Option.toList, List.cons_append, List.nil_append, if_true, if_false, u2s, lt00, lt01, lt02, lt03, le10, le20, le30, ne10, ne20, ne30, eq00]
  by_cases hft : f ≤ t
  · refine mv_up hm0 ht (t - f) f (by omega) (Nat.le_refl f) I J h0 (fun I1 J1 a1 a2 a3 => ?_)
    have g1 : nI f ≤ nI t := nI_le hft (by omega)
    simp only [e_X9_moves_21, e_X9_moves_22, e_X9_moves_23, e_X9_moves_24, e_X9_moves_25, e_X9_moves_42, g1, true_and, and_true, rf_s, not_true_eq_false, not_false_eq_true, true_implies, false_implies, kl_i, kl_n, kl_l, kl_r, Option.toList, List.cons_append, List.nil_append, if_true, if_false, u2s, lt00, lt01, lt02, lt03, le10, le20, le30, ne10, ne20, ne30, eq00]
    exact hq I1 J1 a1 a2 a3
  · have g1 : nI t ≤ nI f := nI_le (by omega) (by omega)
    simp only [e_X9_moves_2, e_X9_moves_3, e_X9_moves_4, e_X9_moves_21, e_X9_moves_22, g1, true_and, and_true, rf_s, not_true_eq_false, not_false_eq_true, true_implies, false_implies, kl_i, kl_n, kl_l, kl_r, Option.toList, List.cons_append, List.nil_append, if_true, if_false, u2s, lt00, lt01, lt02, lt03, le10, le20, le30, ne10, ne20, ne30, eq00]
    exact mv_dn hm0 hf (f - t) f (by omega) (Nat.le_refl f) I J h0 hq
theorem s_removeCredit_bad (hm : MdS S N P m) (hg : I (m + 1) = g) (hc : Cnt g nb nc nk) {v : Int32} (hv : v < 0 ∨ nI nk ≤ v) : CWp S N (d + 2) MX9_removeCredit [.ref m, .int v] I J P Q ↔ Q (some (.int 0)) (u2 (u2 I m 8 0) m 8 1) J P := by
  rw [c_X9_removeCredit]
  have hm0 := hm
  unfold MdS at hm
  have e0 : (u2 I m 8 0) (m + 1) = g := by rw [u2_off _ _ _ (by omega)]; exact hg
  simp only [e_X9_removeCredit_0, e_X9_removeCredit_1, e_X9_removeCredit_2, e_X9_removeCredit_5, e_X9_removeCredit_6, e_X9_removeCredit_7, e_X9_removeCredit_10, e_X9_removeCredit_13, e_X9_removeCredit_14, e_X9_removeCredit_15, e_X9_removeCredit_18, hm, s_isCredit hm0 e0 hc.2.2.2.2.2, badk hc.2.2.1 hv, s_fails hm0, true_and, and_true, rf_s, not_true_eq_false, not_false_eq_true, true_implies, false_implies, kl_i, kl_n, kl_l, kl_r, Option.toList, List.cons_append, List.nil_append, if_true, if_false, u2s, lt00, lt01, lt02, lt03, le10, le20, le30, ne10, ne20, ne30, eq00]
theorem Pas.off8 {m : Nat} {I : IM} {J : JM} {pn : Nat} {G : Nat → Nat → Int32} {H : Nat → Nat → Int64} (hp : Pas m I J pn G H) (v : Int32) : Pas m (u2 I m 8 v) J pn G H := ⟨hp.1, by rw [u2k _ _ _ (by decide)]; exact hp.2.1, fun i hi => by rw [u2_off _ _ _ (by omega)]; exact hp.2.2 i hi⟩
theorem Pas.on {m : Nat} {I I' : IM} {J J' : JM} {pn : Nat} {G : Nat → Nat → Int32} {H : Nat → Nat → Int64} (hp : Pas m I J pn G H) (h7 : I' m 7 = I m 7) (h5 : I' (m + 5) = I (m + 5)) (h6 : J' (m + 6) = J (m + 6)) : Pas m I' J' pn G H := ⟨hp.1, by rw [h7]; exact hp.2.1, fun i hi => by rw [h5, h6]; exact hp.2.2 i hi⟩
theorem s_removeCredit_ok (hm : MdS S N P m) (hg : I (m + 1) = g) (hh : J (m + 2) = h) (hc : Cnt g nb nc nk) {k : Nat} (hk : k < nk) {pn : Nat} {G : Nat → Nat → Int32} {H : Nat → Nat → Int64} (hp : Pas m I J pn G H)
    (hq : ∀ I' J', (∀ x, x < 28 ∨ 64 ≤ x → I' (m + 1) x = if x = 27 then nI (nk - 1) else g x) → (∀ k' j, k' < 6 → j < 6 → I' (m + 1) (28 + 6 * k' + j) = g (28 + 6 * mvp k (nk - 1) k' + j)) → (∀ p k', p < 6 → k' < nk - 1 → J' (m + 2) (6 * p + k') = h (6 * p + mvp k (nk - 1) k')) → (∀ a, a ≠ m → a ≠ m + 1 → a ≠ m + 5 → I' a = I a) → (∀ k, k ≠ 7 → k ≠ 8 → I' m k = I m k) → I' m 8 = 0 → (∀ a, a ≠ m + 2 → a ≠ m + 6 → J' a = J a) → Pas m I' J' (psn pn) (psh pn G g) (psh pn H h) → Q (some (.int (nI (nk - 1)))) I' J' P) : CWp S N (d + 2) MX9_removeCredit [.ref m, .int (nI k)] I J P Q := by
  rw [c_X9_removeCredit]
  have hm0 := hm
  unfold MdS at hm
  have hnk := hc.2.2.1
  have h27 := hc.2.2.2.2.2
  have e0 : (u2 I m 8 0) (m + 1) = g := by rw [u2_off _ _ _ (by omega)]; exact hg
  obtain ⟨n, rfl⟩ : ∃ n, nk = n + 1 := ⟨nk - 1, by omega⟩
  simp only [e_X9_removeCredit_0, e_X9_removeCredit_1, e_X9_removeCredit_2, e_X9_removeCredit_5, e_X9_removeCredit_6, e_X9_removeCredit_7, e_X9_removeCredit_10, e_X9_removeCredit_19, e_X9_removeCredit_20, hm, s_isCredit hm0 e0 h27, goodk hnk hk, ne10, true_and, and_true, rf_s, not_true_eq_false, not_false_eq_true, true_implies, false_implies, kl_i, kl_n, kl_l, kl_r, Option.toList, List.cons_append, List.nil_append, if_true, if_false, u2s, lt00, lt01, lt02, lt03, le10, le20, le30, ne10, ne20, ne30, eq00]
  refine s_changes hm0 (hp.off8 0) (fun I1 J1 a1 a2 a3 a4 => ?_)
  rw [e0, hh] at a4
  have g1 : I1 (m + 1) = g := by rw [a1 _ (by omega) (by omega)]; exact e0
  have h1 : J1 (m + 2) = h := by rw [a3 _ (by omega)]; exact hh
  simp only [e_X9_removeCredit_23, e_X9_removeCredit_24, e_X9_removeCredit_25, e_X9_removeCredit_26, e_X9_removeCredit_29, e_X9_removeCredit_31, e_X9_removeCredit_32, e_X9_removeCredit_33, e_X9_removeCredit_34, hm, g1, h27, cl_27, vl89_27, nI_pred, true_and, and_true, rf_s, not_true_eq_false, not_false_eq_true, true_implies, false_implies, kl_i, kl_n, kl_l, kl_r, Option.toList, List.cons_append, List.nil_append, if_true, if_false, u2s, lt00, lt01, lt02, lt03, le10, le20, le30, ne10, ne20, ne30, eq00]
  refine s_moves hm0 (show k < 6 by omega) (show n < 6 by omega) (fun I2 J2 b1 b2 b3 => ?_)
  rw [g1, h1] at b3
  have z27 : I2 (m + 1) 27 = nI (n + 1) := by rw [b3.2.2 27 (by omega)]; exact h27
  simp only [e_X9_removeCredit_37, e_X9_removeCredit_38, e_X9_removeCredit_41, e_X9_removeCredit_43, e_X9_removeCredit_44, e_X9_removeCredit_45, e_X9_removeCredit_46, e_X9_removeCredit_47, e_X9_removeCredit_48, e_X9_removeCredit_49, e_X9_removeCredit_50, e_X9_removeCredit_53, e_X9_removeCredit_55, e_X9_removeCredit_56, hm, z27, cl_27, vl89_27, nI_pred, true_and, and_true, rf_s, not_true_eq_false, not_false_eq_true, true_implies, false_implies, kl_i, kl_n, kl_l, kl_r, Option.toList, List.cons_append, List.nil_append, if_true, if_false, u2s, lt00, lt01, lt02, lt03, le10, le20, le30, ne10, ne20, ne30, eq00]
  refine s_forgets hm0 (show n < 6 by omega) (fun J3 c1 c2 => ?_)
  simp only [e_X9_removeCredit_59, e_X9_removeCredit_60, e_X9_removeCredit_63, e_X9_removeCredit_65, e_X9_removeCredit_66, hm, cl_27, vl89_27, true_and, and_true, rf_s, not_true_eq_false, not_false_eq_true, true_implies, false_implies, kl_i, kl_n, kl_l, kl_r, Option.toList, List.cons_append, List.nil_append, if_true, if_false, u2s, lt00, lt01, lt02, lt03, le10, le20, le30, ne10, ne20, ne30, eq00]
  refine hq _ _ (fun x hx => ?_) (fun k' j hk' hj => ?_) (fun p k' hp hk' => ?_) (fun a n1 n2 n3 => ?_) (fun k k1 k2 => ?_) ?_ (fun a n1 n2 => ?_) (a4.on ?_ ?_ ?_)
  · by_cases hx2 : x = 27
    · subst hx2
      rw [u2s, if_pos rfl, Nat.add_sub_cancel]
    · rw [u2k _ _ _ hx2, if_neg hx2]
      exact b3.2.2 x hx
  · rw [u2k _ _ _ (by omega), Nat.add_sub_cancel]
    exact b3.1 k' j hk' hj
  · rw [c2 p k' hp (by omega), if_neg (by omega), Nat.add_sub_cancel]
    exact b3.2.1 p k' hp (by omega)
  · rw [u2_off _ _ _ n2, b1 a n2, a1 a n1 n3, u2_off _ _ _ n1]
  · rw [u2_off _ _ _ (by omega), b1 _ (by omega), a2 k k1, u2k _ _ _ k2]
  · rw [u2_off _ _ _ (by omega), b1 _ (by omega), a2 8 (by decide), u2s]
  · rw [c1 a n1, b2 a n1, a3 a n2]
  · rw [u2_off _ _ _ (by omega), b1 _ (by omega)]
  · rw [u2_off _ _ _ (by omega), b1 _ (by omega)]
  · rw [c1 _ (by omega), b2 _ (by omega)]
theorem s_moveCredit_bad1 (hm : MdS S N P m) (hg : I (m + 1) = g) (hc : Cnt g nb nc nk) {v w : Int32} (hv : v < 0 ∨ nI nk ≤ v) : CWp S N (d + 2) MX9_moveCredit [.ref m, .int v, .int w] I J P Q ↔ Q none (u2 I m 8 1) J P := by
  rw [c_X9_moveCredit]
  have hm0 := hm
  unfold MdS at hm
  simp only [e_X9_moveCredit_0, e_X9_moveCredit_1, e_X9_moveCredit_2, e_X9_moveCredit_3, e_X9_moveCredit_6, e_X9_moveCredit_9, e_X9_moveCredit_10, e_X9_moveCredit_11, e_X9_moveCredit_14, e_X9_moveCredit_17, e_X9_moveCredit_18, e_X9_moveCredit_21, e_X9_moveCredit_22, e_X9_moveCredit_25, e_X9_moveCredit_26, e_X9_moveCredit_29, e_X9_moveCredit_42, hm, s_isCredit hm0 hg hc.2.2.2.2.2, badk hc.2.2.1 hv, ne10, true_and, and_true, rf_s, not_true_eq_false, not_false_eq_true, true_implies, false_implies, kl_i, kl_n, kl_l, kl_r, Option.toList, List.cons_append, List.nil_append, if_true, if_false, u2s, lt00, lt01, lt02, lt03, le10, le20, le30, ne10, ne20, ne30, eq00]
theorem s_moveCredit_bad2 (hm : MdS S N P m) (hg : I (m + 1) = g) (hc : Cnt g nb nc nk) {k : Nat} {w : Int32} (hk : k < nk) (hw : w < 0 ∨ nI nk ≤ w) : CWp S N (d + 2) MX9_moveCredit [.ref m, .int (nI k), .int w] I J P Q ↔ Q none (u2 I m 8 1) J P := by
  rw [c_X9_moveCredit]
  have hm0 := hm
  unfold MdS at hm
  simp only [e_X9_moveCredit_0, e_X9_moveCredit_1, e_X9_moveCredit_2, e_X9_moveCredit_3, e_X9_moveCredit_6, e_X9_moveCredit_9, e_X9_moveCredit_10, e_X9_moveCredit_11, e_X9_moveCredit_14, e_X9_moveCredit_17, e_X9_moveCredit_18, e_X9_moveCredit_21, e_X9_moveCredit_22, e_X9_moveCredit_25, e_X9_moveCredit_26, e_X9_moveCredit_29, e_X9_moveCredit_42, hm, s_isCredit hm0 hg hc.2.2.2.2.2, goodk hc.2.2.1 hk, badk hc.2.2.1 hw, ne10, true_and, and_true, rf_s, not_true_eq_false, not_false_eq_true, true_implies, false_implies, kl_i, kl_n, kl_l, kl_r, Option.toList, List.cons_append, List.nil_append, if_true, if_false, u2s, lt00, lt01, lt02, lt03, le10, le20, le30, ne10, ne20, ne30, eq00]
theorem s_moveCredit_ok (hm : MdS S N P m) (hg : I (m + 1) = g) (hh : J (m + 2) = h) (hc : Cnt g nb nc nk) {k t : Nat} (hk : k < nk) (ht : t < nk) {pn : Nat} {G : Nat → Nat → Int32} {H : Nat → Nat → Int64} (hp : Pas m I J pn G H)
    (hq : ∀ I' J', Prm m I' J' g h (mvp k t) → (∀ a, a ≠ m → a ≠ m + 1 → a ≠ m + 5 → I' a = I a) → (∀ k, k ≠ 7 → k ≠ 8 → I' m k = I m k) → I' m 8 = 0 → (∀ a, a ≠ m + 2 → a ≠ m + 6 → J' a = J a) → Pas m I' J' (psn pn) (psh pn G g) (psh pn H h) → Q none I' J' P) : CWp S N (d + 2) MX9_moveCredit [.ref m, .int (nI k), .int (nI t)] I J P Q := by
  rw [c_X9_moveCredit]
  have hm0 := hm
  unfold MdS at hm
  have hnk := hc.2.2.1
  have e0 : (u2 I m 8 0) (m + 1) = g := by rw [u2_off _ _ _ (by omega)]; exact hg
  simp only [e_X9_moveCredit_0, e_X9_moveCredit_1, e_X9_moveCredit_2, e_X9_moveCredit_3, e_X9_moveCredit_6, e_X9_moveCredit_9, e_X9_moveCredit_10, e_X9_moveCredit_11, e_X9_moveCredit_14, e_X9_moveCredit_17, e_X9_moveCredit_18, e_X9_moveCredit_21, e_X9_moveCredit_22, e_X9_moveCredit_25, e_X9_moveCredit_26, e_X9_moveCredit_29, e_X9_moveCredit_32, e_X9_moveCredit_33, hm, s_isCredit hm0 hg hc.2.2.2.2.2, goodk hc.2.2.1 hk, goodk hc.2.2.1 ht, ne10, true_and, and_true, rf_s, not_true_eq_false, not_false_eq_true, true_implies, false_implies, kl_i, kl_n, kl_l, kl_r, Option.toList, List.cons_append, List.nil_append, if_true, if_false, u2s, lt00, lt01, lt02, lt03, le10, le20, le30, ne10, ne20, ne30, eq00]
  refine s_changes hm0 (hp.off8 0) (fun I1 J1 a1 a2 a3 a4 => ?_)
  rw [e0, hh] at a4
  have g1 : I1 (m + 1) = g := by rw [a1 _ (by omega) (by omega)]; exact e0
  have h1 : J1 (m + 2) = h := by rw [a3 _ (by omega)]; exact hh
  simp only [e_X9_moveCredit_36, e_X9_moveCredit_37, e_X9_moveCredit_38, e_X9_moveCredit_39, hm, true_and, and_true, rf_s, not_true_eq_false, not_false_eq_true, true_implies, false_implies, kl_i, kl_n, kl_l, kl_r, Option.toList, List.cons_append, List.nil_append, if_true, if_false, u2s, lt00, lt01, lt02, lt03, le10, le20, le30, ne10, ne20, ne30, eq00]
  refine s_moves hm0 (show k < 6 by omega) (show t < 6 by omega) (fun I2 J2 b1 b2 b3 => ?_)
  rw [g1, h1] at b3
  simp only [e_X9_moveCredit_42, true_and, and_true, rf_s, not_true_eq_false, not_false_eq_true, true_implies, false_implies, kl_i, kl_n, kl_l, kl_r, Option.toList, List.cons_append, List.nil_append, if_true, if_false, u2s, lt00, lt01, lt02, lt03, le10, le20, le30, ne10, ne20, ne30, eq00]
  refine hq _ _ b3 (fun a n1 n2 n3 => ?_) (fun k k1 k2 => ?_) ?_ (fun a n1 n2 => ?_) (a4.on ?_ ?_ ?_)
  · rw [b1 a n2, a1 a n1 n3, u2_off _ _ _ n1]
  · rw [b1 _ (by omega), a2 k k1, u2k _ _ _ k2]
  · rw [b1 _ (by omega), a2 8 (by decide), u2s]
  · rw [b2 a n1, a3 a n2]
  · rw [b1 _ (by omega)]
  · rw [b1 _ (by omega)]
  · rw [b2 _ (by omega)]
end MTD

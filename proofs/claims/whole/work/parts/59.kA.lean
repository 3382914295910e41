/-! the class: what items do to the rules -/
theorem PutP_low : ∀ (l : List Nat) (k : Nat) (t : Nat → Int32) (y : Nat), k ≤ 6 → y ≤ 2 * k → PutP k l t y = t y
  | [], _, _, _, _, _ => by simp [PutP]
  | [_], _, _, _, _, _ => by simp [PutP]
  | a :: b :: l, k, t, y, hk, h => by
    rw [PutP, PutP_low l _ _ y (by split <;> omega) (by split <;> omega)]
    split
    · show (if y = 2 + 2 * k then nI b else if y = 1 + 2 * k then nI a else t y) = t y
      rw [if_neg (by omega), if_neg (by omega)]
    · rfl
theorem KpP_eq : ∀ (j k : Nat) (l : List Nat), l.length = 2 * j → k + j ≤ 6 → KpP k l = k + j
  | 0, k, l, hl, h => by
    have : l = [] := List.length_eq_zero_iff.mp (by omega)
    subst this
    simp [KpP]
  | j + 1, k, [], hl, h => by simp at hl
  | j + 1, k, [_], hl, h => by simp at hl; omega
  | j + 1, k, a :: b :: l, hl, h => by
    rw [KpP, if_pos (by omega), KpP_eq j (k + 1) l (by simp at hl; omega) (by omega)]
    omega
theorem OdP_long : ∀ (j k last : Nat) (l : List Nat), l.length = 2 * j → k ≤ 6 → 6 < k + j → OdP k last l = true
  | 0, k, last, l, hl, hk, h => by omega
  | j + 1, k, last, [], hl, hk, h => by simp at hl
  | j + 1, k, last, [_], hl, hk, h => by simp at hl; omega
  | j + 1, k, last, a :: b :: l, hl, hk, h => by
    rw [OdP]
    by_cases h6 : k = 6
    · rw [decide_eq_true h6, Bool.true_or, Bool.true_or, Bool.true_or]
    · rw [if_pos (show k < 6 by omega), OdP_long j (k + 1) a l (by simp at hl; omega) (by omega) (by omega), Bool.or_true]
/-- the draft: its counts stay within their rows; while nothing was odd it says what t says -/
def DS (I : IM) (J : JM) (r : Nat) (π : Nat → Nat) (o : Bool) (t : Nat → Int32) (hF : Nat → Int64) : Prop := (∃ nc, nc ≤ 4 ∧ I r 4 = nI nc) ∧ (∃ nk, nk ≤ 6 ∧ I r 7 = nI nk) ∧ (o = false → ∃ nb nc nk, Cb nb nc nk ∧ Rul I J r π t hF nb nc nk ∧ t 0 = nI nb ∧ t 18 = nI nc ∧ t 27 = nI nk ∧ ∀ p k, p < 6 → nk ≤ k → k < 6 → hF (6 * p + k) = 0)
section KTA
variable {S N : Nat → Nat} {d : Nat} {I : IM} {J : JM} {P : PM} {Q : Option Value → IM → JM → PM → Prop} {r q : Nat} {π : Nat → Nat} {g t : Nat → Int32} {hF : Nat → Int64} {nb nc nk : Nat} {o : Bool} {l : List Nat}
theorem sb_loop (hs : RuS S N P r π) (hq1 : S q = 10) (hq2 : N q = 80) (hdis : q < r ∨ r + 25 ≤ q) {pr : Nat} (hpr : pr ≤ 6) : ∀ (n i : Nat), i + n = pr → ∀ (lr : List Nat) (I : IM) (t : Nat → Int32) (last : Nat), lr.length = 2 * n → (∀ v ∈ lr, v < 10000) → (∀ x, x < lr.length → I q (2 * i + x) = nI (lr.getD x 0)) → (i = 0 → lr.getD 0 0 = 0) → (0 < i → last < 10000 ∧ I (r + 1) (i - 1) = nI last) →
    (OdP i last lr = true → ∀ I', (∀ a, a ≠ r + 1 → a ≠ r + 2 → I' a = I a) → Q (some (.int 0)) I' J P) →
    (OdP i last lr = false → ∀ I', (∀ a, a ≠ r + 1 → a ≠ r + 2 → I' a = I a) → (∀ k, k < i → I' (r + 1) k = I (r + 1) k ∧ I' (r + 2) k = I (r + 2) k) → (∀ k, i ≤ k → k < pr → I' (r + 1) k = PutP i lr t (1 + 2 * k) ∧ I' (r + 2) k = PutP i lr t (2 + 2 * k)) → Wp S N d MX7_setBrackets 88 [some (.ref r), some (.ref q), some (.int (nI pr)), some (.int (nI pr))] [] I' J P Q) →
    Wp S N d MX7_setBrackets 16 [some (.ref r), some (.ref q), some (.int (nI pr)), some (.int (nI i))] [] I J P Q := by
  have hs' := hs.f
  intro n
  induction n with
  | zero =>
    intro i hi lr I t last hl hv hn h0 hla hF hT
    have hi : i = pr := by omega
    subst hi
    have : lr = [] := List.length_eq_zero_iff.mp (by omega)
    subst this
    have g1 : nI i ≤ nI i := nI_le (Nat.le_refl i) (by omega)
    simp only [e_X7_setBrackets_16, e_X7_setBrackets_17, e_X7_setBrackets_18, g1, true_and, and_true, rf_s, not_true_eq_false, not_false_eq_true, true_implies, false_implies, kl_i, kl_n, kl_l, kl_r, Option.toList, List.cons_append, List.nil_append, if_true, if_false, u2s, lt00, lt01, lt02, lt03, le10, le20, le30, ne10, ne20, ne30, eq00]
    exact hT (by simp [OdP]) I (fun _ _ _ => rfl) (fun _ _ => ⟨rfl, rfl⟩) (fun k h1 h2 => by omega)
  | succ n ih =>
    intro i hi lr I t last hl hv hn h0 hla hF hT
    obtain ⟨a, b, lr, rfl⟩ : ∃ a b l', lr = a :: b :: l' := by
      match lr, hl with
      | [], hl => simp at hl
      | [_], hl => simp at hl; omega
      | a :: b :: l', _ => exact ⟨a, b, l', rfl⟩
    have hi6 : i < 6 := by omega
    have hva : a < 10000 := hv a (by simp)
    have hvb : b < 10000 := hv b (by simp)
    have na : I q (2 * i) = nI a := by
      have := hn 0 (by simp)
      simpa using this
    have nb' : I q (2 * i + 1) = nI b := by
      have := hn 1 (by simp)
      simpa using this
    have g1 : ¬ nI pr ≤ nI i := nI_ge (by omega) (by omega)
    have q1 : (2 : Int32) * nI i = nI (2 * i) := by rw [show (2 : Int32) = nI 2 from rfl, pk_mul]
    have e1 : ∀ v : Int32, (u2 I (r + 1) i v) q (2 * i + 1) = nI b := fun v => by rw [u2_off _ _ _ (by omega)]; exact nb'
    rw [OdP, if_pos hi6] at hF hT
    rw [decide_eq_false (show ¬ i = 6 by omega), Bool.false_or] at hF hT
    rw [PutP, if_pos hi6, if_pos hi6] at hT
    have nrow : ∀ v w : Int32, ∀ x, x < lr.length → (u2 (u2 I (r + 1) i v) (r + 2) i w) q (2 * (i + 1) + x) = nI (lr.getD x 0) := fun v w x hx => by
      rw [u2_off _ _ _ (by omega), u2_off _ _ _ (by omega)]
      have := hn (x + 2) (by simp; omega)
      simp only [List.getD_cons_succ] at this
      rw [show 2 * (i + 1) + x = 2 * i + (x + 2) by omega]
      exact this
    have fr : ∀ (v w : Int32) a, a ≠ r + 1 → a ≠ r + 2 → (u2 (u2 I (r + 1) i v) (r + 2) i w) a = I a := fun v w a h1 h2 => by rw [u2_off _ _ _ h2, u2_off _ _ _ h1]
    have nxt : (if i = 0 then decide (a ≠ 0) else decide (a ≤ last)) = false → decide (999 < b) = false → Wp S N d MX7_setBrackets 82 [some (.ref r), some (.ref q), some (.int (nI pr)), some (.int (nI i))] [] (u2 (u2 I (r + 1) i (nI a)) (r + 2) i (nI b)) J P Q := by
      intro c1 c2
      rw [c1, c2, Bool.false_or, Bool.false_or] at hF hT
      simp only [e_X7_setBrackets_82, e_X7_setBrackets_85, nI_1, true_and, and_true, rf_s, not_true_eq_false, not_false_eq_true, true_implies, false_implies, kl_i, kl_n, kl_l, kl_r, Option.toList, List.cons_append, List.nil_append, if_true, if_false, u2s, lt00, lt01, lt02, lt03, le10, le20, le30, ne10, ne20, ne30, eq00]
      refine ih (i + 1) (by omega) lr _ (fun y => if y = 2 + 2 * i then nI b else if y = 1 + 2 * i then nI a else t y) a (by simp at hl; omega) (fun v hv' => hv v (by simp [hv'])) (nrow _ _) (fun z => by omega) (fun _ => ⟨hva, by rw [Nat.add_sub_cancel, u2_off _ _ _ (by omega), u2s]⟩) (fun ho I' f' => hF ho I' (fun x h1 h2 => (f' x h1 h2).trans (fr _ _ x h1 h2))) (fun ho I' f' k' p' => hT ho I' (fun x h1 h2 => (f' x h1 h2).trans (fr _ _ x h1 h2)) (fun k hk => ?_) (fun k h1 h2 => ?_))
      · rw [(k' k (by omega)).1, (k' k (by omega)).2, u2_off _ _ _ (show r + 1 ≠ r + 2 by omega), u2k _ _ _ (show k ≠ i by omega), u2k _ _ _ (show k ≠ i by omega), u2_off _ _ _ (show r + 2 ≠ r + 1 by omega)]
        exact ⟨rfl, rfl⟩
      · by_cases hk : k = i
        · subst hk
          rw [(k' k (by omega)).1, (k' k (by omega)).2, u2_off _ _ _ (show r + 1 ≠ r + 2 by omega), u2s, u2s, PutP_low _ _ _ _ (by omega) (by omega), PutP_low _ _ _ _ (by omega) (by omega)]
          constructor
          · show nI a = if 1 + 2 * k = 2 + 2 * k then nI b else if 1 + 2 * k = 1 + 2 * k then nI a else t (1 + 2 * k)
            rw [if_neg (by omega), if_pos rfl]
          · show nI b = if 2 + 2 * k = 2 + 2 * k then nI b else _
            rw [if_pos rfl]
        · exact p' k (by omega) h2
    rw [e_X7_setBrackets_16]
    by_cases hb : 999 < b
    · have g2 : ¬ nI b ≤ (999 : Int32) := nI_ge (a := 999) hb (by omega)
      rw [decide_eq_true hb, Bool.or_true, Bool.true_or] at hF
      simp only [e_X7_setBrackets_17, e_X7_setBrackets_18, e_X7_setBrackets_21, e_X7_setBrackets_22, e_X7_setBrackets_25, e_X7_setBrackets_26, e_X7_setBrackets_27, e_X7_setBrackets_28, e_X7_setBrackets_29, e_X7_setBrackets_30, e_X7_setBrackets_31, e_X7_setBrackets_32, e_X7_setBrackets_33, e_X7_setBrackets_36, e_X7_setBrackets_37, e_X7_setBrackets_38, e_X7_setBrackets_39, e_X7_setBrackets_40, e_X7_setBrackets_41, e_X7_setBrackets_42, e_X7_setBrackets_43, e_X7_setBrackets_44, e_X7_setBrackets_45, e_X7_setBrackets_46, e_X7_setBrackets_49, e_X7_setBrackets_50, e_X7_setBrackets_51, e_X7_setBrackets_54, e_X7_setBrackets_57, e_X7_setBrackets_58 isB0, e_X7_setBrackets_58 isB1, e_X7_setBrackets_58 isB_ite, hs', hq1, hq2, g1, q1, na, e1, nI_1, u2s, g2, nI_clamp (show i < 2 ^ 31 by omega), vpn hi6 (by decide), nI_clamp (show 2 * i < 2 ^ 31 by omega), vpn (show 2 * i < 80 by omega) (by decide), nI_clamp (show 2 * i + 1 < 2 ^ 31 by omega), vpn (show 2 * i + 1 < 80 by omega) (by decide), true_and, and_true, rf_s, not_true_eq_false, not_false_eq_true, true_implies, false_implies, kl_i, kl_n, kl_l, kl_r, Option.toList, List.cons_append, List.nil_append, if_true, if_false, u2s, lt00, lt01, lt02, lt03, le10, le20, le30, ne10, ne20, ne30, eq00]
      exact hF rfl _ (fr _ _)
    · have g2 : nI b ≤ (999 : Int32) := nI_le (b := 999) (by omega) (by decide)
      by_cases hi0 : i = 0
      · subst hi0
        have ha0 : a = 0 := by
          have := h0 rfl
          simpa using this
        have g3 : nI 0 ≤ (0 : Int32) := by decide
        have i0 : (nI 0 : Int32).toNatClampNeg = 0 := rfl
        simp only [e_X7_setBrackets_17, e_X7_setBrackets_18, e_X7_setBrackets_21, e_X7_setBrackets_22, e_X7_setBrackets_25, e_X7_setBrackets_26, e_X7_setBrackets_27, e_X7_setBrackets_28, e_X7_setBrackets_29, e_X7_setBrackets_30, e_X7_setBrackets_31, e_X7_setBrackets_32, e_X7_setBrackets_33, e_X7_setBrackets_36, e_X7_setBrackets_37, e_X7_setBrackets_38, e_X7_setBrackets_39, e_X7_setBrackets_40, e_X7_setBrackets_41, e_X7_setBrackets_42, e_X7_setBrackets_43, e_X7_setBrackets_44, e_X7_setBrackets_45, e_X7_setBrackets_46, e_X7_setBrackets_49, e_X7_setBrackets_50, e_X7_setBrackets_51, e_X7_setBrackets_54, e_X7_setBrackets_57, e_X7_setBrackets_58 isB0, e_X7_setBrackets_58 isB1, e_X7_setBrackets_58 isB_ite, e_X7_setBrackets_59, e_X7_setBrackets_60, hs', hq1, hq2, g1, q1, na, e1, nI_1, u2s, g2, g3, i0, vpn hi6 (by decide), nI_clamp (show 2 * 0 < 2 ^ 31 by omega), vpn (show 2 * 0 < 80 by omega) (by decide), nI_clamp (show 2 * 0 + 1 < 2 ^ 31 by omega), vpn (show 2 * 0 + 1 < 80 by omega) (by decide), true_and, and_true, rf_s, not_true_eq_false, not_false_eq_true, true_implies, false_implies, kl_i, kl_n, kl_l, kl_r, Option.toList, List.cons_append, List.nil_append, if_true, if_false, u2s, lt00, lt01, lt02, lt03, le10, le20, le30, ne10, ne20, ne30, eq00]
        exact nxt (by rw [if_pos rfl, ha0]; rfl) (decide_eq_false hb)
      · have g3 : ¬ nI i ≤ (0 : Int32) := nI_nle (by omega) (by omega)
        obtain ⟨hl1, hl2⟩ := hla (by omega)
        obtain ⟨i, rfl⟩ : ∃ i', i = i' + 1 := ⟨i - 1, by omega⟩
        rw [Nat.add_sub_cancel] at hl2
        have e3 : ∀ v w : Int32, (u2 (u2 I (r + 1) (i + 1) v) (r + 2) (i + 1) w) (r + 1) (i + 1) = v := fun v w => by rw [u2_off _ _ _ (by omega), u2s]
        have e4 : ∀ v w : Int32, (u2 (u2 I (r + 1) (i + 1) v) (r + 2) (i + 1) w) (r + 1) i = nI last := fun v w => by rw [u2_off _ _ _ (by omega), u2k _ _ _ (by omega)]; exact hl2
        by_cases hal : a ≤ last
        · have g4 : ¬ nI last < nI a := nI_nlt hal (by omega)
          rw [if_neg hi0, decide_eq_true hal, Bool.true_or, Bool.true_or] at hF
          simp only [e_X7_setBrackets_17, e_X7_setBrackets_18, e_X7_setBrackets_21, e_X7_setBrackets_22, e_X7_setBrackets_25, e_X7_setBrackets_26, e_X7_setBrackets_27, e_X7_setBrackets_28, e_X7_setBrackets_29, e_X7_setBrackets_30, e_X7_setBrackets_31, e_X7_setBrackets_32, e_X7_setBrackets_33, e_X7_setBrackets_36, e_X7_setBrackets_37, e_X7_setBrackets_38, e_X7_setBrackets_39, e_X7_setBrackets_40, e_X7_setBrackets_41, e_X7_setBrackets_42, e_X7_setBrackets_43, e_X7_setBrackets_44, e_X7_setBrackets_45, e_X7_setBrackets_46, e_X7_setBrackets_49, e_X7_setBrackets_50, e_X7_setBrackets_51, e_X7_setBrackets_54, e_X7_setBrackets_57, e_X7_setBrackets_58 isB0, e_X7_setBrackets_58 isB1, e_X7_setBrackets_58 isB_ite, e_X7_setBrackets_59, e_X7_setBrackets_60, e_X7_setBrackets_63, e_X7_setBrackets_64, e_X7_setBrackets_67, e_X7_setBrackets_68, e_X7_setBrackets_69, e_X7_setBrackets_70, e_X7_setBrackets_73, e_X7_setBrackets_74, e_X7_setBrackets_75, e_X7_setBrackets_76, e_X7_setBrackets_77, e_X7_setBrackets_80, e_X7_setBrackets_81 isB0, e_X7_setBrackets_81 isB1, e_X7_setBrackets_81 isB_ite, hs', hq1, hq2, g1, q1, na, e1, e3, e4, nI_1, nI_pred, u2s, g2, g3, g4, nI_clamp (show i + 1 < 2 ^ 31 by omega), vpn hi6 (by decide), nI_clamp (show i < 2 ^ 31 by omega), vpn (show i < 6 by omega) (by decide), nI_clamp (show 2 * (i + 1) < 2 ^ 31 by omega), vpn (show 2 * (i + 1) < 80 by omega) (by decide), nI_clamp (show 2 * (i + 1) + 1 < 2 ^ 31 by omega), vpn (show 2 * (i + 1) + 1 < 80 by omega) (by decide), true_and, and_true, rf_s, not_true_eq_false, not_false_eq_true, true_implies, false_implies, kl_i, kl_n, kl_l, kl_r, Option.toList, List.cons_append, List.nil_append, if_true, if_false, u2s, lt00, lt01, lt02, lt03, le10, le20, le30, ne10, ne20, ne30, eq00]
          exact hF rfl _ (fr _ _)
        · have g4 : nI last < nI a := nI_lt (by omega) (by omega)
          simp only [e_X7_setBrackets_17, e_X7_setBrackets_18, e_X7_setBrackets_21, e_X7_setBrackets_22, e_X7_setBrackets_25, e_X7_setBrackets_26, e_X7_setBrackets_27, e_X7_setBrackets_28, e_X7_setBrackets_29, e_X7_setBrackets_30, e_X7_setBrackets_31, e_X7_setBrackets_32, e_X7_setBrackets_33, e_X7_setBrackets_36, e_X7_setBrackets_37, e_X7_setBrackets_38, e_X7_setBrackets_39, e_X7_setBrackets_40, e_X7_setBrackets_41, e_X7_setBrackets_42, e_X7_setBrackets_43, e_X7_setBrackets_44, e_X7_setBrackets_45, e_X7_setBrackets_46, e_X7_setBrackets_49, e_X7_setBrackets_50, e_X7_setBrackets_51, e_X7_setBrackets_54, e_X7_setBrackets_57, e_X7_setBrackets_58 isB0, e_X7_setBrackets_58 isB1, e_X7_setBrackets_58 isB_ite, e_X7_setBrackets_59, e_X7_setBrackets_60, e_X7_setBrackets_63, e_X7_setBrackets_64, e_X7_setBrackets_67, e_X7_setBrackets_68, e_X7_setBrackets_69, e_X7_setBrackets_70, e_X7_setBrackets_73, e_X7_setBrackets_74, e_X7_setBrackets_75, e_X7_setBrackets_76, e_X7_setBrackets_77, hs', hq1, hq2, g1, q1, na, e1, e3, e4, nI_1, nI_pred, u2s, g2, g3, g4, nI_clamp (show i + 1 < 2 ^ 31 by omega), vpn hi6 (by decide), nI_clamp (show i < 2 ^ 31 by omega), vpn (show i < 6 by omega) (by decide), nI_clamp (show 2 * (i + 1) < 2 ^ 31 by omega), vpn (show 2 * (i + 1) < 80 by omega) (by decide), nI_clamp (show 2 * (i + 1) + 1 < 2 ^ 31 by omega), vpn (show 2 * (i + 1) + 1 < 80 by omega) (by decide), true_and, and_true, rf_s, not_true_eq_false, not_false_eq_true, true_implies, false_implies, kl_i, kl_n, kl_l, kl_r, Option.toList, List.cons_append, List.nil_append, if_true, if_false, u2s, lt00, lt01, lt02, lt03, le10, le20, le30, ne10, ne20, ne30, eq00]
          exact nxt (by rw [if_neg hi0]; exact decide_eq_false hal) (decide_eq_false hb)
/-- what each setter tells and leaves -/
abbrev DQ (S N : Nat → Nat) (I : IM) (J : JM) (P : PM) (r : Nat) (π : Nat → Nat) (o : Bool) (t : Nat → Int32) (hF : Nat → Int64) (a : Nat) (l : List Nat) (e : Bool) (Q : Option Value → IM → JM → PM → Prop) : Prop :=
  ∀ I' J' b, (∀ x, x < r ∨ r + 25 ≤ x → I' x = I x ∧ J' x = J x) → (o = false → b = !ItO a l t) → DS I' J' r π (o || ItO a l t) (ItG a l e t) hF → Q (some (.int (bI b))) I' J' P
theorem k_setBrackets (hs : RuS S N P r π) (hq1 : S q = 10) (hq2 : N q = 80) (hdis : q < r ∨ r + 25 ≤ q) {j : Nat} (hj : 0 < j) (hl : l.length = 2 * j) (hj80 : j < 40) (hv : ∀ v ∈ l, v < 10000) (hn : ∀ x, x < l.length → I q x = nI (l.getD x 0)) {e : Bool} (hd : DS I J r π o t hF) (hq : DQ S N I J P r π o t hF 0 l e Q) :
    CWp S N d MX7_setBrackets [.ref r, .ref q, .int (nI j)] I J P Q := by
  rw [c_X7_setBrackets]
  have hs' := hs.f
  obtain ⟨d1, d2, d3⟩ := hd
  have eO : ItO 0 l t = OdP 0 0 l := rfl
  have keep : ∀ (I' : IM), (∀ a, a ≠ r + 1 → a ≠ r + 2 → I' a = I a) → OdP 0 0 l = true → Q (some (.int 0)) I' J P := fun I' f' ho => by
    have h9 := hq I' J false (fun x hx => ⟨f' x (by omega) (by omega), rfl⟩) (fun _ => by rw [eO, ho]; rfl) (by rw [eO, ho, Bool.or_true]; exact ⟨by rw [f' r (by omega) (by omega)]; exact d1, by rw [f' r (by omega) (by omega)]; exact d2, fun z => by cases z⟩)
    exact h9
  by_cases h6 : 6 < j
  · have g1 : (6 : Int32) < nI j := nI_lt (a := 6) h6 (by omega)
    have ho := OdP_long j 0 0 l hl (by decide) (by omega)
    simp only [e_X7_setBrackets_0, e_X7_setBrackets_1, e_X7_setBrackets_3, e_X7_setBrackets_6, e_X7_setBrackets_7, e_X7_setBrackets_8, e_X7_setBrackets_9, e_X7_setBrackets_12, e_X7_setBrackets_13 isB0, e_X7_setBrackets_13 isB1, e_X7_setBrackets_13 isB_ite, g1, true_and, and_true, rf_s, not_true_eq_false, not_false_eq_true, true_implies, false_implies, kl_i, kl_n, kl_l, kl_r, Option.toList, List.cons_append, List.nil_append, if_true, if_false, u2s, lt00, lt01, lt02, lt03, le10, le20, le30, ne10, ne20, ne30, eq00]
    exact keep I (fun _ _ _ => rfl) ho
  · have g1 : ¬ (6 : Int32) < nI j := nI_nlt (a := 6) (b := j) (by omega) (by decide)
    obtain ⟨a, b, l', rfl⟩ : ∃ a b l', l = a :: b :: l' := by
      match l, hl with
      | [], hl => simp at hl; omega
      | [_], hl => simp at hl; omega
      | a :: b :: l', _ => exact ⟨a, b, l', rfl⟩
    have na : I q 0 = nI a := by
      have := hn 0 (by simp)
      simpa using this
    by_cases ha : a = 0
    · subst ha
      have g2 : (nI 0 = (0 : Int32)) = True := by decide
      simp only [e_X7_setBrackets_0, e_X7_setBrackets_1, e_X7_setBrackets_3, e_X7_setBrackets_6, e_X7_setBrackets_7, e_X7_setBrackets_8, e_X7_setBrackets_9, e_X7_setBrackets_12, e_X7_setBrackets_13 isB0, e_X7_setBrackets_13 isB1, e_X7_setBrackets_13 isB_ite, e_X7_setBrackets_14, e_X7_setBrackets_15, hq1, hq2, g1, na, g2, cl_0, vl80_0, true_and, and_true, rf_s, not_true_eq_false, not_false_eq_true, true_implies, false_implies, kl_i, kl_n, kl_l, kl_r, Option.toList, List.cons_append, List.nil_append, if_true, if_false, u2s, lt00, lt01, lt02, lt03, le10, le20, le30, ne10, ne20, ne30, eq00]
      refine sb_loop hs hq1 hq2 hdis (show j ≤ 6 by omega) j 0 (by omega) (0 :: b :: l') I t 0 hl hv (fun x hx => by rw [Nat.mul_zero, Nat.zero_add]; exact hn x hx) (fun _ => by simp) (fun z => by omega) (fun ho I' f' => keep I' f' ho) (fun ho I' f' _ p' => ?_)
      simp only [e_X7_setBrackets_88, e_X7_setBrackets_89, e_X7_setBrackets_90, e_X7_setBrackets_93, e_X7_setBrackets_94 isB0, e_X7_setBrackets_94 isB1, e_X7_setBrackets_94 isB_ite, hs', true_and, and_true, rf_s, not_true_eq_false, not_false_eq_true, true_implies, false_implies, kl_i, kl_n, kl_l, kl_r, Option.toList, List.cons_append, List.nil_append, if_true, if_false, u2s, lt00, lt01, lt02, lt03, le10, le20, le30, ne10, ne20, ne30, eq00]
      have h9 := hq (u2 I' r 0 (nI j)) J true (fun x hx => ⟨by rw [u2_off _ _ _ (by omega)]; exact f' x (by omega) (by omega), rfl⟩) (fun _ => by rw [eO, ho]; rfl) ?_
      · exact h9
      · rw [eO, ho, Bool.or_false]
        refine ⟨?_, ?_, fun z => ?_⟩
        · rw [u2k _ _ _ (by decide), f' r (by omega) (by omega)]; exact d1
        · rw [u2k _ _ _ (by decide), f' r (by omega) (by omega)]; exact d2
        · obtain ⟨nb, nc, nk, ⟨b1, b2, b3⟩, ⟨⟨r1, r4, r7⟩, r2, r3, r5, r6⟩, t0, t18, t27, tz⟩ := d3 z
          have eG : ∀ y, ItG 0 (0 :: b :: l') e t y = if y = 0 then nI (KpP 0 (0 :: b :: l')) else PutP 0 (0 :: b :: l') t y := fun _ => rfl
          have hK : KpP 0 (0 :: b :: l') = j := by rw [KpP_eq j 0 _ hl (by omega), Nat.zero_add]
          refine ⟨j, nc, nk, ⟨by omega, b2, b3⟩, ⟨⟨u2s _ _ _ _, ?_, ?_⟩, fun k hk => ?_, fun x hx => ?_, fun k hk => ?_, fun k hk => ⟨fun x hx => ?_, fun p hp => ?_⟩⟩, ?_, ?_, ?_, tz⟩
          · rw [u2k _ _ _ (by decide), f' r (by omega) (by omega)]; exact r4
          · rw [u2k _ _ _ (by decide), f' r (by omega) (by omega)]; exact r7
          · rw [u2_off _ _ _ (show r + 1 ≠ r by omega), u2_off _ _ _ (show r + 2 ≠ r by omega), eG, eG, if_neg (by omega), if_neg (by omega)]
            exact p' k (Nat.zero_le _) hk
          · rw [u2_off _ _ _ (by omega), f' (r + 3) (by omega) (by omega), eG, if_neg (by omega), PutP_off _ _ _ _ (by omega)]; exact r3 x hx
          · rw [u2_off _ _ _ (show r + 4 ≠ r by omega), u2_off _ _ _ (show r + 5 ≠ r by omega), f' (r + 4) (by omega) (by omega), f' (r + 5) (by omega) (by omega), eG, eG, if_neg (by omega), if_neg (by omega), PutP_off _ _ _ _ (by omega), PutP_off _ _ _ _ (by omega)]; exact r5 k hk
          · rw [u2_off _ _ _ (by omega), f' _ (by omega) (by omega), eG, if_neg (by omega), PutP_off _ _ _ _ (by omega)]; exact (r6 k hk).1 x hx
          · exact (r6 k hk).2 p hp
          · rw [eG, if_pos rfl, hK]
          · rw [eG, if_neg (by decide), PutP_off _ _ _ _ (by omega)]; exact t18
          · rw [eG, if_neg (by decide), PutP_off _ _ _ _ (by omega)]; exact t27
    · have g2 : (nI a = (0 : Int32)) = False := eq_false (nI_ne0 (by omega) (by have := hv a (by simp); omega))
      have ho : OdP 0 0 (a :: b :: l') = true := by
        rw [OdP, if_pos rfl, decide_eq_true ha, Bool.or_true, Bool.true_or, Bool.true_or]
      simp only [e_X7_setBrackets_0, e_X7_setBrackets_1, e_X7_setBrackets_3, e_X7_setBrackets_6, e_X7_setBrackets_7, e_X7_setBrackets_8, e_X7_setBrackets_9, e_X7_setBrackets_12, e_X7_setBrackets_13 isB0, e_X7_setBrackets_13 isB1, e_X7_setBrackets_13 isB_ite, hq1, hq2, g1, na, g2, cl_0, vl80_0, true_and, and_true, rf_s, not_true_eq_false, not_false_eq_true, true_implies, false_implies, kl_i, kl_n, kl_l, kl_r, Option.toList, List.cons_append, List.nil_append, if_true, if_false, u2s, lt00, lt01, lt02, lt03, le10, le20, le30, ne10, ne20, ne30, eq00]
      exact keep I (fun _ _ _ => rfl) ho
end KTA

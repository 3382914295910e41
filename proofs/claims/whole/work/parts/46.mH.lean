/-! the model's reader: rows of numbers -/
theorem LsF_ok {c : Nat → Int32} {n : Nat} : ∀ (r k s : Nat) (l : List Nat) (s' : Nat), s ≤ n → LsF c n k r s = (some l, s') → l.length = r ∧ (∀ v ∈ l, v < 10000) ∧ s ≤ s' ∧ s' ≤ n
  | 0, k, s, l, s', h, e => by
    rw [LsF] at e
    cases e
    exact ⟨rfl, fun v hv => absurd hv (by simp), Nat.le_refl _, h⟩
  | r + 1, k, s, l, s', h, e => by
    rw [LsF] at e
    split at e
    · cases e
    · next hc =>
      have hs1 : s ≤ (if 0 < k then s + 1 else s) ∧ (if 0 < k then s + 1 else s) ≤ n := by
        split
        · next hk =>
          have : s < n := Classical.byContradiction fun z => hc ⟨hk, fun y => z y.1⟩
          omega
        · omega
      split at e
      · cases e
      · next v s1 e1 =>
        have h1 := NumF_lt hs1.2 e1
        split at e
        · cases e
        · next l2 s2 e2 =>
          cases e
          obtain ⟨q1, q2, q3, q4⟩ := LsF_ok r (k + 1) s1 l2 s' h1.2.1 e2
          exact ⟨by rw [List.length_cons, q1], fun x hx => by
            rcases List.mem_cons.mp hx with rfl | hx
            · exact h1.2.2
            · exact q2 x hx, by omega, q4⟩
section MTH
variable {S N : Nat → Nat} {d : Nat} {I : IM} {J : JM} {P : PM} {Q : Option Value → IM → JM → PM → Prop} {m : Nat} {c : Nat → Int32} {n s : Nat} {o : Bool} {t : Nat → Int32}
theorem ls_loop (hm : MdS S N P m) {w : Bool} {a many : Nat} {atv rates : Int32} (ha : atv = if w then nI a else -1) (hat : w = true → 0 < a ∧ a + many ≤ 89) (hmany : many ≤ 4) : ∀ (r k : Nat), k + r = many → ∀ (I : IM) (s : Nat) (o : Bool) (t : Nat → Int32), TS m I c n s o t →
    (∀ s', LsF c n k r s = (none, s') → ∀ I' o' t', TS m I' c n s' o' t' → Pf m I I' → Q (some (.int 0)) I' J P) →
    (∀ l s', LsF c n k r s = (some l, s') → ∀ I', TS m I' c n s' (o || OdL rates k l) (if w then PutL (a + k) l t else t) → Pf m I I' → Q (some (.int 1)) I' J P) →
    Wp S N (d + 2) MX9_numbers 3 [some (.ref m), some (.int atv), some (.int (nI many)), some (.int rates), some (.int (nI k))] [] I J P Q := by
  have hm0 := hm
  unfold MdS at hm
  intro r
  induction r with
  | zero =>
    intro k hk I s o t ht hN hS
    have hk : k = many := by omega
    subst hk
    have g1 : nI k ≤ nI k := nI_le (Nat.le_refl k) (by omega)
    simp only [e_X9_numbers_3, e_X9_numbers_5, e_X9_numbers_6, e_X9_numbers_69, e_X9_numbers_70 isB0, e_X9_numbers_70 isB1, e_X9_numbers_70 isB_ite, g1, true_and, and_true, rf_s, not_true_eq_false, not_false_eq_true, true_implies, false_implies, kl_i, kl_n, kl_l, kl_r, Option.toList, List.cons_append, List.nil_append, if_true, if_false, u2s, lt00, lt01, lt02, lt03, le10, le20, le30, ne10, ne20, ne30, eq00]
    refine hS [] s rfl I ?_ Pf.rf
    rw [OdL, Bool.or_false, PutL]
    cases w <;> exact ht
  | succ r ih =>
    intro k hk I s o t ht hN hS
    have g1 : ¬ nI many ≤ nI k := nI_ge (by omega) (by omega)
    have tail : ∀ (I1 : IM) (s1 : Nat), TS m I1 c n s1 o t → Pf m I I1 → LsF c n k (r + 1) s = (match NumF c n s1 with
        | (none, s1) => (none, s1)
        | (some v, s1) => match LsF c n (k + 1) r s1 with
          | (none, s2) => (none, s2)
          | (some l, s2) => (some (v :: l), s2)) → Wp S N (d + 2) MX9_numbers 23 [some (.ref m), some (.int atv), some (.int (nI many)), some (.int rates), some (.int (nI k))] [] I1 J P Q := by
      intro I1 s1 ht1 hf1 he
      simp only [e_X9_numbers_23, e_X9_numbers_24, hm, true_and, and_true, rf_s, not_true_eq_false, not_false_eq_true, true_implies, false_implies, kl_i, kl_n, kl_l, kl_r, Option.toList, List.cons_append, List.nil_append, if_true, if_false, u2s, lt00, lt01, lt02, lt03, le10, le20, le30, ne10, ne20, ne30, eq00]
      refine s_number hm0 ht1 (fun I2 ht2 hf2 hv => ?_)
      cases hN1 : NumF c n s1 with
      | mk o1 s2 =>
        rw [hN1] at ht2 he hv
        cases o1 with
        | none =>
          have e0 : bI (none : Option Nat).isSome = 0 := rfl
          simp only [e_X9_numbers_27, e_X9_numbers_30, e_X9_numbers_31 isB0, e_X9_numbers_31 isB1, e_X9_numbers_31 isB_ite, e0, true_and, and_true, rf_s, not_true_eq_false, not_false_eq_true, true_implies, false_implies, kl_i, kl_n, kl_l, kl_r, Option.toList, List.cons_append, List.nil_append, if_true, if_false, u2s, lt00, lt01, lt02, lt03, le10, le20, le30, ne10, ne20, ne30, eq00]
          exact hN s2 he I2 o t ht2 (hf1.tr hf2)
        | some v =>
          have e1 : bI (some v).isSome = 1 := rfl
          have hv1 := hv v rfl
          have hvl := NumF_lt ht1.2.2.2.2.2.1 hN1
          dsimp only at he ht2
          have wr : ∀ (I3 : IM) (o3 : Bool), TS m I3 c n s2 o3 t → Pf m I I3 → I3 m 12 = nI v → (o3 = (o || (decide (rates >>> (nI k &&& 31) &&& 1 = 1) && decide (999 < v)))) → Wp S N (d + 2) MX9_numbers 46 [some (.ref m), some (.int atv), some (.int (nI many)), some (.int rates), some (.int (nI k))] [] I3 J P Q := by
            intro I3 o3 ht3 hf3 hv3 ho3
            cases w with
            | false =>
              have ha' : atv = -1 := by rw [ha]; rfl
              subst ha'
              have g2 : (-1 : Int32) ≤ 0 := by decide
              simp only [e_X9_numbers_46, e_X9_numbers_47, e_X9_numbers_50, e_X9_numbers_51, e_X9_numbers_54, e_X9_numbers_55, e_X9_numbers_57, e_X9_numbers_58, e_X9_numbers_59, e_X9_numbers_62, e_X9_numbers_63, e_X9_numbers_66, g2, nI_1, true_and, and_true, rf_s, not_true_eq_false, not_false_eq_true, true_implies, false_implies, kl_i, kl_n, kl_l, kl_r, Option.toList, List.cons_append, List.nil_append, if_true, if_false, u2s, lt00, lt01, lt02, lt03, le10, le20, le30, ne10, ne20, ne30, eq00]
              refine ih (k + 1) (by omega) I3 s2 o3 t ht3 (fun s' e2 I' o' t' a1 a2 => ?_) (fun l s' e2 I' a1 a2 => ?_)
              · rw [e2] at he
                exact hN s' he I' o' t' a1 (hf3.tr a2)
              · rw [e2] at he
                refine hS (v :: l) s' he I' ?_ (hf3.tr a2)
                rw [ho3, Bool.or_assoc] at a1
                exact a1
            | true =>
              have ha' : atv = nI a := by rw [ha]; rfl
              subst ha'
              obtain ⟨b1, b2⟩ := hat rfl
              have g2 : ¬ nI a ≤ (0 : Int32) := nI_nle b1 (by omega)
              simp only [e_X9_numbers_46, e_X9_numbers_47, e_X9_numbers_50, e_X9_numbers_51, e_X9_numbers_54, e_X9_numbers_55, e_X9_numbers_57, e_X9_numbers_58, e_X9_numbers_59, e_X9_numbers_62, e_X9_numbers_63, e_X9_numbers_66, g2, hm, hv3, nI_add, nI_1, nI_clamp (show a + k < 2 ^ 31 by omega), vpn (show a + k < 89 by omega) (by decide), true_and, and_true, rf_s, not_true_eq_false, not_false_eq_true, true_implies, false_implies, kl_i, kl_n, kl_l, kl_r, Option.toList, List.cons_append, List.nil_append, if_true, if_false, u2s, lt00, lt01, lt02, lt03, le10, le20, le30, ne10, ne20, ne30, eq00]
              refine ih (k + 1) (by omega) _ s2 o3 _ (ht3.w (a + k) (nI v)) (fun s' e2 I' o' t' a1 a2 => ?_) (fun l s' e2 I' a1 a2 => ?_)
              · rw [e2] at he
                exact hN s' he I' o' t' a1 ((hf3.tr (Pf.w _ _)).tr a2)
              · rw [e2] at he
                refine hS (v :: l) s' he I' ?_ ((hf3.tr (Pf.w _ _)).tr a2)
                rw [ho3, Bool.or_assoc] at a1
                exact a1
          by_cases hb : rates >>> (nI k &&& 31) &&& 1 = 1
          · have hb' := eq_true hb
            simp only [e_X9_numbers_27, e_X9_numbers_30, e_X9_numbers_31 isB0, e_X9_numbers_31 isB1, e_X9_numbers_31 isB_ite, e_X9_numbers_32, e_X9_numbers_33, e_X9_numbers_35, e_X9_numbers_36, e_X9_numbers_37, e_X9_numbers_38, e_X9_numbers_39, e_X9_numbers_42, e_X9_numbers_43, e1, ne10, hb', hm, true_and, and_true, rf_s, not_true_eq_false, not_false_eq_true, true_implies, false_implies, kl_i, kl_n, kl_l, kl_r, Option.toList, List.cons_append, List.nil_append, if_true, if_false, u2s, lt00, lt01, lt02, lt03, le10, le20, le30, ne10, ne20, ne30, eq00]
            refine s_rate hm0 ht2 hvl.2.2 hv1 (fun I3 ht3 hf3 hv3 => ?_)
            simp only [Option.toList, List.nil_append]
            exact wr I3 _ ht3 ((hf1.tr hf2).tr hf3) hv3 (by rw [decide_eq_true hb, Bool.true_and])
          · have hb' := eq_false hb
            simp only [e_X9_numbers_27, e_X9_numbers_30, e_X9_numbers_31 isB0, e_X9_numbers_31 isB1, e_X9_numbers_31 isB_ite, e_X9_numbers_32, e_X9_numbers_33, e_X9_numbers_35, e_X9_numbers_36, e_X9_numbers_37, e_X9_numbers_38, e_X9_numbers_39, e1, ne10, hb', hm, true_and, and_true, rf_s, not_true_eq_false, not_false_eq_true, true_implies, false_implies, kl_i, kl_n, kl_l, kl_r, Option.toList, List.cons_append, List.nil_append, if_true, if_false, u2s, lt00, lt01, lt02, lt03, le10, le20, le30, ne10, ne20, ne30, eq00]
            exact wr I2 o ht2 (hf1.tr hf2) hv1 (by rw [decide_eq_false hb, Bool.false_and, Bool.or_false])
    by_cases hk0 : k = 0
    · subst hk0
      have g2 : nI 0 ≤ (0 : Int32) := by decide
      rw [e_X9_numbers_3]
      simp only [e_X9_numbers_5, e_X9_numbers_6, e_X9_numbers_9, e_X9_numbers_11, g1, g2, true_and, and_true, rf_s, not_true_eq_false, not_false_eq_true, true_implies, false_implies, kl_i, kl_n, kl_l, kl_r, Option.toList, List.cons_append, List.nil_append, if_true, if_false, u2s, lt00, lt01, lt02, lt03, le10, le20, le30, ne10, ne20, ne30, eq00]
      refine tail I s ht Pf.rf ?_
      rw [LsF, if_neg (fun z => absurd z.1 (by decide)), if_neg (by decide)]
      rfl
    · have g2 : ¬ nI k ≤ (0 : Int32) := nI_nle (by omega) (by omega)
      rw [e_X9_numbers_3]
      simp only [e_X9_numbers_5, e_X9_numbers_6, e_X9_numbers_9, e_X9_numbers_11, e_X9_numbers_14, e_X9_numbers_15, e_X9_numbers_17, g1, g2, hm, true_and, and_true, rf_s, not_true_eq_false, not_false_eq_true, true_implies, false_implies, kl_i, kl_n, kl_l, kl_r, Option.toList, List.cons_append, List.nil_append, if_true, if_false, u2s, lt00, lt01, lt02, lt03, le10, le20, le30, ne10, ne20, ne30, eq00]
      by_cases hy : s < n ∧ c s = 44
      · refine s_skipY hm0 ht hy (fun I1 ht1 hf1 => ?_)
        simp only [e_X9_numbers_20, ne10, true_and, and_true, rf_s, not_true_eq_false, not_false_eq_true, true_implies, false_implies, kl_i, kl_n, kl_l, kl_r, Option.toList, List.cons_append, List.nil_append, if_true, if_false, u2s, lt00, lt01, lt02, lt03, le10, le20, le30, ne10, ne20, ne30, eq00]
        refine tail I1 (s + 1) ht1 hf1 ?_
        rw [LsF, if_neg (fun z => z.2 hy), if_pos (by omega)]
        rfl
      · rw [s_skipN hm0 ht (by decide) hy]
        simp only [e_X9_numbers_20, e_X9_numbers_30, e_X9_numbers_31 isB0, e_X9_numbers_31 isB1, e_X9_numbers_31 isB_ite, true_and, and_true, rf_s, not_true_eq_false, not_false_eq_true, true_implies, false_implies, kl_i, kl_n, kl_l, kl_r, Option.toList, List.cons_append, List.nil_append, if_true, if_false, u2s, lt00, lt01, lt02, lt03, le10, le20, le30, ne10, ne20, ne30, eq00]
        refine hN s ?_ I o t ht Pf.rf
        rw [LsF, if_pos ⟨by omega, hy⟩]
theorem s_numbers (hm : MdS S N P m) {w : Bool} {a many : Nat} {atv rates : Int32} (ha : atv = if w then nI a else -1) (hat : w = true → 0 < a ∧ a + many ≤ 89) (hmany : many ≤ 4) (ht : TS m I c n s o t)
    (hN : ∀ s', LsF c n 0 many s = (none, s') → ∀ I' o' t', TS m I' c n s' o' t' → Pf m I I' → Q (some (.int 0)) I' J P)
    (hS : ∀ l s', LsF c n 0 many s = (some l, s') → ∀ I', TS m I' c n s' (o || OdL rates 0 l) (if w then PutL a l t else t) → Pf m I I' → Q (some (.int 1)) I' J P) :
    CWp S N (d + 2) MX9_numbers [.ref m, .int atv, .int (nI many), .int rates] I J P Q := by
  rw [c_X9_numbers]
  simp only [e_X9_numbers_0, e_X9_numbers_1, true_and, and_true, rf_s, not_true_eq_false, not_false_eq_true, true_implies, false_implies, kl_i, kl_n, kl_l, kl_r, Option.toList, List.cons_append, List.nil_append, if_true, if_false, u2s, lt00, lt01, lt02, lt03, le10, le20, le30, ne10, ne20, ne30, eq00]
  exact ls_loop hm ha hat hmany many 0 (by omega) I s o t ht hN hS
end MTH
/-- brackets: whether they are odd, where they go -/
def OdP : Nat → Nat → List Nat → Bool
  | k, last, a :: b :: l => ((decide (k = 6) || (if k = 0 then decide (a ≠ 0) else decide (a ≤ last))) || decide (999 < b)) || OdP (if k < 6 then k + 1 else k) a l
  | _, _, _ => false
def PutP : Nat → List Nat → (Nat → Int32) → (Nat → Int32)
  | k, a :: b :: l, t => PutP (if k < 6 then k + 1 else k) l (if k < 6 then (fun y => if y = 2 + 2 * k then nI b else if y = 1 + 2 * k then nI a else t y) else t)
  | _, _, t => t
/-- how many brackets are kept -/
def KpP : Nat → List Nat → Nat
  | k, _ :: _ :: l => KpP (if k < 6 then k + 1 else k) l
  | k, _ => k
theorem KpP_le : ∀ (k : Nat) (l : List Nat), k ≤ 6 → KpP k l ≤ 6
  | k, [], h => by simpa [KpP] using h
  | k, [_], h => by simpa [KpP] using h
  | k, _ :: _ :: l, h => by
    rw [KpP]
    exact KpP_le _ l (by split <;> omega)
section MTH2
variable {S N : Nat → Nat} {d : Nat} {I : IM} {J : JM} {P : PM} {Q : Option Value → IM → JM → PM → Prop} {m : Nat} {c : Nat → Int32} {n s : Nat} {o : Bool} {t : Nat → Int32}
theorem pr_loop (hm : MdS S N P m) : ∀ (f k : Nat), k ≤ 6 → ∀ (I : IM) (s : Nat) (o : Bool) (t : Nat → Int32) (last : Nat) (lv : Int32), last < 10000 → (k = 0 ∨ lv = nI last) → n < s + f → TS m I c n s o t →
    (∀ s', PrF c n f s = (none, s') → ∀ I' o' t', TS m I' c n s' o' t' → Pf m I I' → Q (some (.int 0)) I' J P) →
    (∀ l s', PrF c n f s = (some l, s') → ∀ I', TS m I' c n s' (o || OdP k last l) (fun y => if y = 0 then nI (KpP k l) else PutP k l t y) → Pf m I I' → Q (some (.int 1)) I' J P) →
    Wp S N (d + 2) MX9_brackets 4 [some (.ref m), some (.int (nI k)), some (.int lv)] [] I J P Q := by
  have hm0 := hm
  unfold MdS at hm
  intro f
  induction f with
  | zero =>
    intro k hk I s o t last lv hl hlv hf ht hN hS
    have := ht.2.2.2.2.2.1
    omega
  | succ f ih =>
    intro k hk I s o t last lv hl hlv hf ht hN hS
    have hsn := ht.2.2.2.2.2.1
    rw [PrF] at hN hS
    rw [e_X9_brackets_4]
    simp only [e_X9_brackets_5, hm, true_and, and_true, rf_s, not_true_eq_false, not_false_eq_true, true_implies, false_implies, kl_i, kl_n, kl_l, kl_r, Option.toList, List.cons_append, List.nil_append, if_true, if_false, u2s, lt00, lt01, lt02, lt03, le10, le20, le30, ne10, ne20, ne30, eq00]
    refine s_number hm0 ht (fun I1 ht1 hf1 hv1 => ?_)
    cases hN1 : NumF c n s with
    | mk o1 s1 =>
      rw [hN1] at ht1 hv1 hN hS
      cases o1 with
      | none =>
        have e0 : bI (none : Option Nat).isSome = 0 := rfl
        simp only [e_X9_brackets_8, e_X9_brackets_11, e_X9_brackets_12 isB0, e_X9_brackets_12 isB1, e_X9_brackets_12 isB_ite, e0, true_and, and_true, rf_s, not_true_eq_false, not_false_eq_true, true_implies, false_implies, kl_i, kl_n, kl_l, kl_r, Option.toList, List.cons_append, List.nil_append, if_true, if_false, u2s, lt00, lt01, lt02, lt03, le10, le20, le30, ne10, ne20, ne30, eq00]
        exact hN s1 rfl I1 o t ht1 hf1
      | some a =>
        have e1 : bI (some a).isSome = 1 := rfl
        have hva := hv1 a rfl
        obtain ⟨l1, l2, l3⟩ := NumF_lt hsn hN1
        dsimp only at hN hS ht1
        -- the flag behind the first number
        have first : Wp S N (d + 2) MX9_brackets 57 [some (.ref m), some (.int (nI k)), some (.int lv)] [] (u2 I1 m 14 (bI (o || (decide (k = 6) || (if k = 0 then decide (a ≠ 0) else decide (a ≤ last)))))) J P Q := by
          have ht2 := ht1.o (o || (decide (k = 6) || (if k = 0 then decide (a ≠ 0) else decide (a ≤ last))))
          have hf2 := hf1.tr (Pf.u (m := m) (I := I1) (bI (o || (decide (k = 6) || (if k = 0 then decide (a ≠ 0) else decide (a ≤ last))))) (Or.inr (Or.inr rfl)))
          have hva2 : (u2 I1 m 14 (bI (o || (decide (k = 6) || (if k = 0 then decide (a ≠ 0) else decide (a ≤ last)))))) m 12 = nI a := by rw [u2k _ _ _ (by decide)]; exact hva
          revert ht2 hf2 hva2
          generalize u2 I1 m 14 (bI (o || (decide (k = 6) || (if k = 0 then decide (a ≠ 0) else decide (a ≤ last))))) = I2
          intro ht2 hf2 hva2
          simp only [e_X9_brackets_57, e_X9_brackets_58, e_X9_brackets_61, e_X9_brackets_62, e_X9_brackets_63, e_X9_brackets_65, hm, hva2, true_and, and_true, rf_s, not_true_eq_false, not_false_eq_true, true_implies, false_implies, kl_i, kl_n, kl_l, kl_r, Option.toList, List.cons_append, List.nil_append, if_true, if_false, u2s, lt00, lt01, lt02, lt03, le10, le20, le30, ne10, ne20, ne30, eq00]
          by_cases hy : s1 < n ∧ c s1 = 58
          · rw [if_pos hy] at hN hS
            refine s_skipY hm0 ht2 hy (fun I3 ht3 hf3 => ?_)
            simp only [e_X9_brackets_68, e_X9_brackets_71, e_X9_brackets_72, ne10, hm, true_and, and_true, rf_s, not_true_eq_false, not_false_eq_true, true_implies, false_implies, kl_i, kl_n, kl_l, kl_r, Option.toList, List.cons_append, List.nil_append, if_true, if_false, u2s, lt00, lt01, lt02, lt03, le10, le20, le30, ne10, ne20, ne30, eq00]
            refine s_number hm0 ht3 (fun I4 ht4 hf4 hv4 => ?_)
            cases hN2 : NumF c n (s1 + 1) with
            | mk o2 s2 =>
              rw [hN2] at ht4 hv4 hN hS
              cases o2 with
              | none =>
                have e0 : bI (none : Option Nat).isSome = 0 := rfl
                simp only [e_X9_brackets_75, e_X9_brackets_78, e_X9_brackets_79 isB0, e_X9_brackets_79 isB1, e_X9_brackets_79 isB_ite, e0, true_and, and_true, rf_s, not_true_eq_false, not_false_eq_true, true_implies, false_implies, kl_i, kl_n, kl_l, kl_r, Option.toList, List.cons_append, List.nil_append, if_true, if_false, u2s, lt00, lt01, lt02, lt03, le10, le20, le30, ne10, ne20, ne30, eq00]
                exact hN s2 rfl I4 _ t ht4 ((hf2.tr hf3).tr hf4)
              | some b =>
                have e1 : bI (some b).isSome = 1 := rfl
                have hvb := hv4 b rfl
                obtain ⟨k1, k2, k3⟩ := NumF_lt (by omega) hN2
                dsimp only at hN hS ht4
                simp only [e_X9_brackets_75, e_X9_brackets_80, e_X9_brackets_81, e1, ne10, hm, true_and, and_true, rf_s, not_true_eq_false, not_false_eq_true, true_implies, false_implies, kl_i, kl_n, kl_l, kl_r, Option.toList, List.cons_append, List.nil_append, if_true, if_false, u2s, lt00, lt01, lt02, lt03, le10, le20, le30, ne10, ne20, ne30, eq00]
                refine s_rate hm0 ht4 k3 hvb (fun I5 ht5 hf5 hv5 => ?_)
                have go : ∀ (I6 : IM) (k' : Nat) (t' : Nat → Int32), k' ≤ 6 → k' = (if k < 6 then k + 1 else k) → t' = (if k < 6 then (fun y => if y = 2 + 2 * k then nI b else if y = 1 + 2 * k then nI a else t y) else t) → TS m I6 c n s2 ((o || (decide (k = 6) || (if k = 0 then decide (a ≠ 0) else decide (a ≤ last)))) || decide (999 < b)) t' → Pf m I I6 → Wp S N (d + 2) MX9_brackets 120 [some (.ref m), some (.int (nI k')), some (.int (nI a))] [] I6 J P Q := by
                  intro I6 k' t' hk6 hk' ht' ht6 hf6
                  simp only [e_X9_brackets_120, e_X9_brackets_121, e_X9_brackets_123, hm, true_and, and_true, rf_s, not_true_eq_false, not_false_eq_true, true_implies, false_implies, kl_i, kl_n, kl_l, kl_r, Option.toList, List.cons_append, List.nil_append, if_true, if_false, u2s, lt00, lt01, lt02, lt03, le10, le20, le30, ne10, ne20, ne30, eq00]
                  by_cases hz : s2 < n ∧ c s2 = 44
                  · rw [if_pos hz] at hN hS
                    refine s_skipY hm0 ht6 hz (fun I7 ht7 hf7 => ?_)
                    simp only [e_X9_brackets_126, ne10, true_and, and_true, rf_s, not_true_eq_false, not_false_eq_true, true_implies, false_implies, kl_i, kl_n, kl_l, kl_r, Option.toList, List.cons_append, List.nil_append, if_true, if_false, u2s, lt00, lt01, lt02, lt03, le10, le20, le30, ne10, ne20, ne30, eq00]
                    refine ih k' hk6 I7 (s2 + 1) _ t' a (nI a) l3 (Or.inr rfl) (by omega) ht7 (fun s' e2 I' o' t'' a1 a2 => ?_) (fun l s' e2 I' a1 a2 => ?_)
                    · rw [e2] at hN
                      exact hN s' rfl I' o' t'' a1 ((hf6.tr hf7).tr a2)
                    · rw [e2] at hS
                      refine hS (a :: b :: l) s' rfl I' ?_ ((hf6.tr hf7).tr a2)
                      rw [OdP, KpP, PutP, ← hk', ← ht']
                      rw [Bool.or_assoc, Bool.or_assoc] at a1
                      rw [Bool.or_assoc]
                      exact a1
                  · rw [if_neg hz] at hN hS
                    rw [s_skipN hm0 ht6 (by decide) hz]
                    simp only [e_X9_brackets_126, e_X9_brackets_129, e_X9_brackets_130, e_X9_brackets_133, e_X9_brackets_134, e_X9_brackets_135, e_X9_brackets_136, e_X9_brackets_137 isB0, e_X9_brackets_137 isB1, e_X9_brackets_137 isB_ite, hm, cl_0, vl89_0, true_and, and_true, rf_s, not_true_eq_false, not_false_eq_true, true_implies, false_implies, kl_i, kl_n, kl_l, kl_r, Option.toList, List.cons_append, List.nil_append, if_true, if_false, u2s, lt00, lt01, lt02, lt03, le10, le20, le30, ne10, ne20, ne30, eq00]
                    refine hS [a, b] s2 rfl _ ?_ (hf6.tr (Pf.w _ _))
                    have h9 := ht6.w 0 (nI k')
                    have e3 : OdP k last [a, b] = ((decide (k = 6) || (if k = 0 then decide (a ≠ 0) else decide (a ≤ last))) || decide (999 < b)) := by rw [OdP, OdP]; exact Bool.or_false _; simp
                    have e4 : KpP k [a, b] = k' := by rw [KpP, ← hk', KpP]; simp
                    have e5 : PutP k [a, b] t = t' := by rw [PutP, ← hk', ← ht', PutP]; simp
                    rw [e3, e4, e5, ← Bool.or_assoc]
                    exact h9
                by_cases hk5 : k < 6
                · have g3 : ¬ (6 : Int32) ≤ nI k := nI_ge (b := 6) hk5 (by decide)
                  have q1 : (1 : Int32) + 2 * nI k = nI (1 + 2 * k) := nIx (a := 1) (b := 2) k
                  have q2 : nI (1 + 2 * k) + 1 = nI (2 + 2 * k) := by rw [nI_1]; congr 1; omega
                  have hv5' : ∀ (x : Nat) (v : Int32), (u2 I5 (m + 8) x v) m 12 = nI b := fun x v => by rw [u2_off _ _ _ (by omega)]; exact hv5
                  simp only [e_X9_brackets_84, e_X9_brackets_85, e_X9_brackets_87, e_X9_brackets_90, e_X9_brackets_91, e_X9_brackets_94, e_X9_brackets_95, e_X9_brackets_96, e_X9_brackets_97, e_X9_brackets_98, e_X9_brackets_99, e_X9_brackets_100, e_X9_brackets_101, e_X9_brackets_102, e_X9_brackets_105, e_X9_brackets_106, e_X9_brackets_107, e_X9_brackets_108, e_X9_brackets_109, e_X9_brackets_110, e_X9_brackets_111, e_X9_brackets_112, e_X9_brackets_113, e_X9_brackets_116, e_X9_brackets_117, hm, g3, q1, q2, hv5', nI_1, nI_clamp (show 1 + 2 * k < 2 ^ 31 by omega), nI_clamp (show 2 + 2 * k < 2 ^ 31 by omega), vpn (show 1 + 2 * k < 89 by omega) (by decide), vpn (show 2 + 2 * k < 89 by omega) (by decide), true_and, and_true, rf_s, not_true_eq_false, not_false_eq_true, true_implies, false_implies, kl_i, kl_n, kl_l, kl_r, Option.toList, List.cons_append, List.nil_append, if_true, if_false, u2s, lt00, lt01, lt02, lt03, le10, le20, le30, ne10, ne20, ne30, eq00]
                  exact go _ (k + 1) _ (by omega) (if_pos hk5).symm (if_pos hk5).symm ((ht5.w _ _).w _ _) (((((hf2.tr hf3).tr hf4).tr hf5).tr (Pf.w _ _)).tr (Pf.w _ _))
                · have hk6 : k = 6 := by omega
                  have g3 : (6 : Int32) ≤ nI k := nI_le (a := 6) (by omega) (by omega)
                  simp only [e_X9_brackets_84, e_X9_brackets_85, e_X9_brackets_87, hm, g3, true_and, and_true, rf_s, not_true_eq_false, not_false_eq_true, true_implies, false_implies, kl_i, kl_n, kl_l, kl_r, Option.toList, List.cons_append, List.nil_append, if_true, if_false, u2s, lt00, lt01, lt02, lt03, le10, le20, le30, ne10, ne20, ne30, eq00]
                  exact go _ k t hk (if_neg hk5).symm (if_neg hk5).symm ht5 (((hf2.tr hf3).tr hf4).tr hf5)
          · rw [if_neg hy] at hN hS
            rw [s_skipN hm0 ht2 (by decide) hy]
            simp only [e_X9_brackets_68, e_X9_brackets_78, e_X9_brackets_79 isB0, e_X9_brackets_79 isB1, e_X9_brackets_79 isB_ite, true_and, and_true, rf_s, not_true_eq_false, not_false_eq_true, true_implies, false_implies, kl_i, kl_n, kl_l, kl_r, Option.toList, List.cons_append, List.nil_append, if_true, if_false, u2s, lt00, lt01, lt02, lt03, le10, le20, le30, ne10, ne20, ne30, eq00]
            exact hN s1 rfl I2 _ t ht2 hf2
        have h14 := ht1.2.2.2.1
        cases o with
        | true =>
          have h14' : I1 m 14 = 1 := h14
          rw [Bool.true_or] at first
          have e9 : bI true = 1 := rfl
          rw [e9] at first
          simp only [e_X9_brackets_8, e_X9_brackets_11, e_X9_brackets_12 isB0, e_X9_brackets_12 isB1, e_X9_brackets_12 isB_ite, e_X9_brackets_13, e_X9_brackets_14, e_X9_brackets_15, e_X9_brackets_18, e_X9_brackets_21, e_X9_brackets_22, e_X9_brackets_24, e_X9_brackets_27, e_X9_brackets_28, e_X9_brackets_31, e_X9_brackets_32, e_X9_brackets_35, e_X9_brackets_38, e_X9_brackets_41, e_X9_brackets_42, e_X9_brackets_45, e_X9_brackets_46, e_X9_brackets_49, e_X9_brackets_50, e_X9_brackets_53, e_X9_brackets_54 isB0, e_X9_brackets_54 isB1, e_X9_brackets_54 isB_ite, e1, ne10, hm, h14', true_and, and_true, rf_s, not_true_eq_false, not_false_eq_true, true_implies, false_implies, kl_i, kl_n, kl_l, kl_r, Option.toList, List.cons_append, List.nil_append, if_true, if_false, u2s, lt00, lt01, lt02, lt03, le10, le20, le30, ne10, ne20, ne30, eq00]
          exact first
        | false =>
          have h14' : I1 m 14 = 0 := h14
          rw [Bool.false_or] at first
          by_cases h6 : k = 6
          · subst h6
            rw [decide_eq_true rfl, Bool.true_or] at first
            have e9 : bI true = 1 := rfl
            rw [e9] at first
            have g6 : (nI 6 = (6 : Int32)) = True := by decide
            simp only [e_X9_brackets_8, e_X9_brackets_11, e_X9_brackets_12 isB0, e_X9_brackets_12 isB1, e_X9_brackets_12 isB_ite, e_X9_brackets_13, e_X9_brackets_14, e_X9_brackets_15, e_X9_brackets_18, e_X9_brackets_21, e_X9_brackets_22, e_X9_brackets_24, e_X9_brackets_27, e_X9_brackets_28, e_X9_brackets_31, e_X9_brackets_32, e_X9_brackets_35, e_X9_brackets_38, e_X9_brackets_41, e_X9_brackets_42, e_X9_brackets_45, e_X9_brackets_46, e_X9_brackets_49, e_X9_brackets_50, e_X9_brackets_53, e_X9_brackets_54 isB0, e_X9_brackets_54 isB1, e_X9_brackets_54 isB_ite, e1, ne10, hm, h14', g6, true_and, and_true, rf_s, not_true_eq_false, not_false_eq_true, true_implies, false_implies, kl_i, kl_n, kl_l, kl_r, Option.toList, List.cons_append, List.nil_append, if_true, if_false, u2s, lt00, lt01, lt02, lt03, le10, le20, le30, ne10, ne20, ne30, eq00]
            exact first
          · have g6 : (nI k = (6 : Int32)) = False := eq_false (fun z => h6 ((nI_eq (b := 6) (by omega) (by decide)).mp z))
            rw [decide_eq_false h6, Bool.false_or] at first
            by_cases hk0 : k = 0
            · subst hk0
              have g0 : (nI 0 = (0 : Int32)) = True := by decide
              rw [if_pos rfl] at first
              by_cases ha0 : a = 0
              · subst ha0
                have g7 : (nI 0 = (0 : Int32)) = True := by decide
                have e9 : bI (decide ((0 : Nat) ≠ 0)) = 0 := by decide
                rw [e9] at first
                simp only [e_X9_brackets_8, e_X9_brackets_11, e_X9_brackets_12 isB0, e_X9_brackets_12 isB1, e_X9_brackets_12 isB_ite, e_X9_brackets_13, e_X9_brackets_14, e_X9_brackets_15, e_X9_brackets_18, e_X9_brackets_21, e_X9_brackets_22, e_X9_brackets_24, e_X9_brackets_27, e_X9_brackets_28, e_X9_brackets_31, e_X9_brackets_32, e_X9_brackets_35, e_X9_brackets_38, e_X9_brackets_41, e_X9_brackets_42, e_X9_brackets_45, e_X9_brackets_46, e_X9_brackets_49, e_X9_brackets_50, e_X9_brackets_53, e_X9_brackets_54 isB0, e_X9_brackets_54 isB1, e_X9_brackets_54 isB_ite, e1, ne10, hm, h14', g6, g0, hva, true_and, and_true, rf_s, not_true_eq_false, not_false_eq_true, true_implies, false_implies, kl_i, kl_n, kl_l, kl_r, Option.toList, List.cons_append, List.nil_append, if_true, if_false, u2s, lt00, lt01, lt02, lt03, le10, le20, le30, ne10, ne20, ne30, eq00]
                exact first
              · have g7 : (nI a = (0 : Int32)) = False := eq_false (nI_ne0 (by omega) (by omega))
                rw [decide_eq_true ha0] at first
                have e9 : bI true = 1 := rfl
                rw [e9] at first
                simp only [e_X9_brackets_8, e_X9_brackets_11, e_X9_brackets_12 isB0, e_X9_brackets_12 isB1, e_X9_brackets_12 isB_ite, e_X9_brackets_13, e_X9_brackets_14, e_X9_brackets_15, e_X9_brackets_18, e_X9_brackets_21, e_X9_brackets_22, e_X9_brackets_24, e_X9_brackets_27, e_X9_brackets_28, e_X9_brackets_31, e_X9_brackets_32, e_X9_brackets_35, e_X9_brackets_38, e_X9_brackets_41, e_X9_brackets_42, e_X9_brackets_45, e_X9_brackets_46, e_X9_brackets_49, e_X9_brackets_50, e_X9_brackets_53, e_X9_brackets_54 isB0, e_X9_brackets_54 isB1, e_X9_brackets_54 isB_ite, e1, ne10, hm, h14', g6, g0, hva, g7, true_and, and_true, rf_s, not_true_eq_false, not_false_eq_true, true_implies, false_implies, kl_i, kl_n, kl_l, kl_r, Option.toList, List.cons_append, List.nil_append, if_true, if_false, u2s, lt00, lt01, lt02, lt03, le10, le20, le30, ne10, ne20, ne30, eq00]
                exact first
            · have g0 : (nI k = (0 : Int32)) = False := eq_false (nI_ne0 (by omega) (by omega))
              have hlv' : lv = nI last := hlv.resolve_left hk0
              subst hlv'
              rw [if_neg hk0] at first
              by_cases hal : a ≤ last
              · have g7 : ¬ nI last < nI a := nI_nlt hal (by omega)
                rw [decide_eq_true hal] at first
                have e9 : bI true = 1 := rfl
                rw [e9] at first
                simp only [e_X9_brackets_8, e_X9_brackets_11, e_X9_brackets_12 isB0, e_X9_brackets_12 isB1, e_X9_brackets_12 isB_ite, e_X9_brackets_13, e_X9_brackets_14, e_X9_brackets_15, e_X9_brackets_18, e_X9_brackets_21, e_X9_brackets_22, e_X9_brackets_24, e_X9_brackets_27, e_X9_brackets_28, e_X9_brackets_31, e_X9_brackets_32, e_X9_brackets_35, e_X9_brackets_38, e_X9_brackets_41, e_X9_brackets_42, e_X9_brackets_45, e_X9_brackets_46, e_X9_brackets_49, e_X9_brackets_50, e_X9_brackets_53, e_X9_brackets_54 isB0, e_X9_brackets_54 isB1, e_X9_brackets_54 isB_ite, e1, ne10, hm, h14', g6, g0, hva, g7, true_and, and_true, rf_s, not_true_eq_false, not_false_eq_true, true_implies, false_implies, kl_i, kl_n, kl_l, kl_r, Option.toList, List.cons_append, List.nil_append, if_true, if_false, u2s, lt00, lt01, lt02, lt03, le10, le20, le30, ne10, ne20, ne30, eq00]
                exact first
              · have g7 : nI last < nI a := nI_lt (by omega) (by omega)
                rw [decide_eq_false hal] at first
                have e9 : bI false = 0 := rfl
                rw [e9] at first
                simp only [e_X9_brackets_8, e_X9_brackets_11, e_X9_brackets_12 isB0, e_X9_brackets_12 isB1, e_X9_brackets_12 isB_ite, e_X9_brackets_13, e_X9_brackets_14, e_X9_brackets_15, e_X9_brackets_18, e_X9_brackets_21, e_X9_brackets_22, e_X9_brackets_24, e_X9_brackets_27, e_X9_brackets_28, e_X9_brackets_31, e_X9_brackets_32, e_X9_brackets_35, e_X9_brackets_38, e_X9_brackets_41, e_X9_brackets_42, e_X9_brackets_45, e_X9_brackets_46, e_X9_brackets_49, e_X9_brackets_50, e_X9_brackets_53, e_X9_brackets_54 isB0, e_X9_brackets_54 isB1, e_X9_brackets_54 isB_ite, e1, ne10, hm, h14', g6, g0, hva, g7, true_and, and_true, rf_s, not_true_eq_false, not_false_eq_true, true_implies, false_implies, kl_i, kl_n, kl_l, kl_r, Option.toList, List.cons_append, List.nil_append, if_true, if_false, u2s, lt00, lt01, lt02, lt03, le10, le20, le30, ne10, ne20, ne30, eq00]
                exact first
theorem s_brackets (hm : MdS S N P m) (ht : TS m I c n s o t)
    (hN : ∀ s', PrF c n 81 s = (none, s') → ∀ I' o' t', TS m I' c n s' o' t' → Pf m I I' → Q (some (.int 0)) I' J P)
    (hS : ∀ l s', PrF c n 81 s = (some l, s') → ∀ I', TS m I' c n s' (o || OdP 0 0 l) (fun y => if y = 0 then nI (KpP 0 l) else PutP 0 l t y) → Pf m I I' → Q (some (.int 1)) I' J P) :
    CWp S N (d + 2) MX9_brackets [.ref m] I J P Q := by
  rw [c_X9_brackets]
  simp only [e_X9_brackets_0, e_X9_brackets_1, e_X9_brackets_2, e_X9_brackets_3, true_and, and_true, rf_s, not_true_eq_false, not_false_eq_true, true_implies, false_implies, kl_i, kl_n, kl_l, kl_r, Option.toList, List.cons_append, List.nil_append, if_true, if_false, u2s, lt00, lt01, lt02, lt03, le10, le20, le30, ne10, ne20, ne30, eq00]
  have := ht.2.2.2.2.2.2
  exact pr_loop hm 81 0 (by decide) I s o t 0 (-1) (by decide) (Or.inl rfl) (by omega) ht hN hS
end MTH2

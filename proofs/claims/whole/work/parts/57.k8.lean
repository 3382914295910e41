/-! the class: couples settled -/
/-- what a settled couple shows -/
def CoR (g : Nat → Int32) (h : Nat → Int64) (nb nc nk co p q : Nat) (I : IM) (J : JM) : Prop := I co 1 = nI p ∧ I co 2 = nI q ∧ I co 3 = nI (AllD g p q) ∧ J co 4 = TxJ g h nb nc nk p q ∧ J co 5 = (Tdv g h nb nc nk p q).1 ∧ I co 6 = nI (Tdv g h nb nc nk p q).2
theorem AllD_le {g : Nat → Int32} {nb nc nk : Nat} (hg : Gd g nb nc nk) {p q : Nat} (hp : p < 6) (hq : q < 6) : AllD g p q ≤ 18 ∧ g (66 + 3 * p) + g (66 + 3 * q) = nI (AllD g p q) := by
  obtain ⟨-, -, D, hD, e3⟩ := hg.per hp
  obtain ⟨-, -, D', hD', e3'⟩ := hg.per hq
  unfold AllD
  rw [e3, e3', nI_clamp (by omega), nI_clamp (by omega), nI_add]
  exact ⟨by omega, rfl⟩
section KT8
variable {S N : Nat → Nat} {d : Nat} {I : IM} {J : JM} {P : PM} {Q : Option Value → IM → JM → PM → Prop} {as co l : Nat} {π : Nat → Nat} {g : Nat → Int32} {h : Nat → Int64} {nb nc nk : Nat}
theorem k_divided (hco : CoS S N P co) (hl : LeS S N P l π) (hdis : co + 11 ≤ l ∨ l + 30 ≤ co) (hg : Gd g nb nc nk) (hr : Led I J l π g h nb nc nk) {p q i : Nat} (hp : p < 6) (hq6 : q < 6) (h1 : I co 1 = nI p) (h2 : I co 2 = nI q) (h3 : I co 3 = nI (AllD g p q)) (hi : i ≤ AllD g p q)
    (hq : ∀ I' J', Fr (co + 1) (co + 11) I I' J J' → Led I' J' l π g h nb nc nk → Q (some (.long (TxS g h nb nc nk p q (AllD g p q) i))) I' J' P) : CWp S N (d + 3) MX1_dividedTax [.ref co, .ref l, .int (nI i)] I J P Q := by
  rw [c_X1_dividedTax]
  obtain ⟨o1, o2, ha⟩ := hco
  have ha' := ha.f
  have hl' := hl
  unfold LeS at hl'
  have hs' := hl.r.f
  have hA := (AllD_le hg hp hq6).1
  have e1 : nI (AllD g p q) - nI i = nI (AllD g p q - i) := pk_sub hi
  simp only [e_X1_dividedTax_0, e_X1_dividedTax_1, e_X1_dividedTax_4, e_X1_dividedTax_5, e_X1_dividedTax_6, e_X1_dividedTax_9, e_X1_dividedTax_10, o1, o2, ha', h1, true_and, and_true, rf_s, not_true_eq_false, not_false_eq_true, true_implies, false_implies, kl_i, kl_n, kl_l, kl_r, Option.toList, List.cons_append, List.nil_append, if_true, if_false, u2s, lt00, lt01, lt02, lt03, le10, le20, le30, ne10, ne20, ne30, eq00]
  refine k_tAlone ha hl (by omega) hg hr hp ⟨i, by omega, rfl⟩ (fun I1 J1 f1 c1 r1 b1 => ?_)
  simp only [e_X1_dividedTax_13, e_X1_dividedTax_14, e_X1_dividedTax_17, e_X1_dividedTax_18, e_X1_dividedTax_21, o1, o2, ha', hl'.1, hl'.2.1, true_and, and_true, rf_s, not_true_eq_false, not_false_eq_true, true_implies, false_implies, kl_i, kl_n, kl_l, kl_r, Option.toList, List.cons_append, List.nil_append, if_true, if_false, u2s, lt00, lt01, lt02, lt03, le10, le20, le30, ne10, ne20, ne30, eq00]
  refine k_cAlone ha hl (by omega) hg hp ⟨i, by omega, rfl⟩ c1 r1 b1 (fun J2 a2 v2 _ _ r2 => ?_)
  have i1 : I1 co = I co := (f1 co (by omega)).1
  simp only [e_X1_dividedTax_24, e_X1_dividedTax_25, e_X1_dividedTax_28, e_X1_dividedTax_31, e_X1_dividedTax_32, e_X1_dividedTax_33, e_X1_dividedTax_36, e_X1_dividedTax_37, e_X1_dividedTax_38, e_X1_dividedTax_41, e_X1_dividedTax_42, e_X1_dividedTax_45, e_X1_dividedTax_46, e_X1_dividedTax_47, o1, o2, ha', i1, h2, h3, e1, v2, true_and, and_true, rf_s, not_true_eq_false, not_false_eq_true, true_implies, false_implies, kl_i, kl_n, kl_l, kl_r, Option.toList, List.cons_append, List.nil_append, if_true, if_false, u2s, lt00, lt01, lt02, lt03, le10, le20, le30, ne10, ne20, ne30, eq00]
  refine k_tAlone ha hl (by omega) hg r2 hq6 ⟨AllD g p q - i, by omega, rfl⟩ (fun I3 J3 f3 c3 r3 b3 => ?_)
  simp only [e_X1_dividedTax_50, e_X1_dividedTax_51, e_X1_dividedTax_54, e_X1_dividedTax_55, e_X1_dividedTax_58, o1, o2, ha', hl'.1, hl'.2.1, true_and, and_true, rf_s, not_true_eq_false, not_false_eq_true, true_implies, false_implies, kl_i, kl_n, kl_l, kl_r, Option.toList, List.cons_append, List.nil_append, if_true, if_false, u2s, lt00, lt01, lt02, lt03, le10, le20, le30, ne10, ne20, ne30, eq00]
  refine k_cAlone ha hl (by omega) hg hq6 ⟨AllD g p q - i, by omega, rfl⟩ c3 r3 b3 (fun J4 a4 v4 _ _ r4 => ?_)
  simp only [e_X1_dividedTax_61, e_X1_dividedTax_62, e_X1_dividedTax_63, e_X1_dividedTax_66, e_X1_dividedTax_69, e_X1_dividedTax_70, o1, o2, ha', v4, true_and, and_true, rf_s, not_true_eq_false, not_false_eq_true, true_implies, false_implies, kl_i, kl_n, kl_l, kl_r, Option.toList, List.cons_append, List.nil_append, if_true, if_false, u2s, lt00, lt01, lt02, lt03, le10, le20, le30, ne10, ne20, ne30, eq00]
  refine hq I3 J4 (fun x hx => ⟨?_, ?_⟩) r4
  · rw [(f3 x (by omega)).1, (f1 x (by omega)).1]
  · rw [a4 x (by omega), (f3 x (by omega)).2, a2 x (by omega), (f1 x (by omega)).2]
theorem se_loop (hco : CoS S N P co) (hl : LeS S N P l π) (hdis : co + 11 ≤ l ∨ l + 30 ≤ co) (hg : Gd g nb nc nk) {p q : Nat} (hp : p < 6) (hq6 : q < 6) {x2 : Option Value} {b3 : Int32} : ∀ (n i : Nat), i + n = AllD g p q → ∀ (I : IM) (J : JM) (x5 x6 : Option Value), Led I J l π g h nb nc nk → I co 1 = nI p → I co 2 = nI q → I co 3 = nI (AllD g p q) → J co 4 = TxJ g h nb nc nk p q → J co 5 = (Tap (TxS g h nb nc nk p q (AllD g p q)) i).1 → I co 6 = nI (Tap (TxS g h nb nc nk p q (AllD g p q)) i).2 →
    (∀ I' J', Fr co (co + 11) I I' J J' → Led I' J' l π g h nb nc nk → CoR g h nb nc nk co p q I' J' → Q none I' J' P) →
    Wp S N (d + 4) MX1_settle 97 [some (.ref co), some (.ref l), x2, some (.int b3), some (.int (nI (i + 1))), x5, x6] [] I J P Q := by
  obtain ⟨o1, o2, ha⟩ := id hco
  intro n
  induction n with
  | zero =>
    intro i hi I J x5 x6 hr h1 h2 h3 h4 h5 h6 hq
    have hA := (AllD_le hg hp hq6).1
    have g1 : nI (AllD g p q) < nI (i + 1) := nI_lt (by omega) (by omega)
    simp only [e_X1_settle_97, e_X1_settle_99, e_X1_settle_100, e_X1_settle_103, e_X1_settle_143, o1, h3, g1, true_and, and_true, rf_s, not_true_eq_false, not_false_eq_true, true_implies, false_implies, kl_i, kl_n, kl_l, kl_r, Option.toList, List.cons_append, List.nil_append, if_true, if_false, u2s, lt00, lt01, lt02, lt03, le10, le20, le30, ne10, ne20, ne30, eq00]
    have hi : i = AllD g p q := by omega
    subst hi
    exact hq I J Fr.rf hr ⟨h1, h2, h3, h4, h5, h6⟩
  | succ n ih =>
    intro i hi I J x5 x6 hr h1 h2 h3 h4 h5 h6 hq
    have hA := (AllD_le hg hp hq6).1
    have g1 : ¬ nI (AllD g p q) < nI (i + 1) := nI_nlt (by omega) (by omega)
    simp only [e_X1_settle_97, e_X1_settle_99, e_X1_settle_100, e_X1_settle_103, e_X1_settle_106, e_X1_settle_107, e_X1_settle_108, e_X1_settle_110, o1, h3, g1, true_and, and_true, rf_s, not_true_eq_false, not_false_eq_true, true_implies, false_implies, kl_i, kl_n, kl_l, kl_r, Option.toList, List.cons_append, List.nil_append, if_true, if_false, u2s, lt00, lt01, lt02, lt03, le10, le20, le30, ne10, ne20, ne30, eq00]
    refine k_divided hco hl hdis hg hr hp hq6 h1 h2 h3 (show i + 1 ≤ AllD g p q by omega) (fun I1 J1 f1 r1 => ?_)
    have i1 : I1 co = I co := (f1 co (by omega)).1
    have j1 : J1 co = J co := (f1 co (by omega)).2
    have ih2 := fun I J => ih (i + 1) (by omega) I J (some (.long (TxS g h nb nc nk p q (AllD g p q) (i + 1)))) none
    rw [Tap] at ih2
    by_cases hlt : TxS g h nb nc nk p q (AllD g p q) (i + 1) < (Tap (TxS g h nb nc nk p q (AllD g p q)) i).1
    · have hlt' := eq_true hlt
      rw [if_pos hlt] at ih2
      simp only [e_X1_settle_113, e_X1_settle_115, e_X1_settle_117, e_X1_settle_118, e_X1_settle_121, e_X1_settle_122, e_X1_settle_125, e_X1_settle_126, e_X1_settle_128, e_X1_settle_131, e_X1_settle_132, e_X1_settle_134, e_X1_settle_137, e_X1_settle_140, o1, j1, h5, lc_ge, hlt', nI_1, true_and, and_true, rf_s, not_true_eq_false, not_false_eq_true, true_implies, false_implies, kl_i, kl_n, kl_l, kl_r, Option.toList, List.cons_append, List.nil_append, if_true, if_false, u2s, lt00, lt01, lt02, lt03, le10, le20, le30, ne10, ne20, ne30, eq00]
      refine ih2 _ _ (r1.on hl hg.cb (fun x _ _ => u2_off _ _ _ (by omega)) (fun x _ _ => u2_off _ _ _ (by omega))) ?_ ?_ ?_ ?_ (u2s _ _ _ _) (u2s _ _ _ _) (fun I' J' f' r' c' => hq I' J' ?_ r' c')
      · rw [u2k _ _ _ (by decide), i1]; exact h1
      · rw [u2k _ _ _ (by decide), i1]; exact h2
      · rw [u2k _ _ _ (by decide), i1]; exact h3
      · rw [u2k _ _ _ (by decide), j1]; exact h4
      · intro x hx
        rw [(f' x hx).1, (f' x hx).2, u2_off _ _ _ (by omega), u2_off _ _ _ (by omega)]
        exact f1 x (by omega)
    · have hlt' := eq_false hlt
      rw [if_neg hlt] at ih2
      simp only [e_X1_settle_113, e_X1_settle_115, e_X1_settle_117, e_X1_settle_118, e_X1_settle_121, e_X1_settle_122, e_X1_settle_125, e_X1_settle_126, e_X1_settle_128, e_X1_settle_131, e_X1_settle_132, e_X1_settle_134, e_X1_settle_137, e_X1_settle_140, o1, j1, h5, lc_ge, hlt', nI_1, true_and, and_true, rf_s, not_true_eq_false, not_false_eq_true, true_implies, false_implies, kl_i, kl_n, kl_l, kl_r, Option.toList, List.cons_append, List.nil_append, if_true, if_false, u2s, lt00, lt01, lt02, lt03, le10, le20, le30, ne10, ne20, ne30, eq00]
      refine ih2 _ _ r1 ?_ ?_ ?_ ?_ ?_ ?_ (fun I' J' f' r' c' => hq I' J' ((f1.w (by omega) (by omega)).tr f') r' c')
      · rw [i1]; exact h1
      · rw [i1]; exact h2
      · rw [i1]; exact h3
      · rw [j1]; exact h4
      · rw [j1]; exact h5
      · rw [i1]; exact h6
theorem nI_min {a b : Nat} (ha : a < 6) (hb : b < 6) : (if nI b < nI a then nI b else nI a) = nI (lo a b) := by
  unfold lo
  by_cases h : b < a
  · rw [if_pos (nI_lt h (by omega)), if_pos h]
  · rw [if_neg (nI_nlt (by omega) (by omega)), if_neg h]
theorem nI_max {a b : Nat} (ha : a < 6) (hb : b < 6) : (if nI a < nI b then nI b else nI a) = nI (if a < b then b else a) := by
  by_cases h : a < b
  · rw [if_pos (nI_lt h (by omega)), if_pos h]
  · rw [if_neg (nI_nlt (by omega) (by omega)), if_neg h]
theorem k_settle (hco : CoS S N P co) (hl : LeS S N P l π) (hdis : co + 11 ≤ l ∨ l + 30 ≤ co) (hg : Gd g nb nc nk) (hr : Led I J l π g h nb nc nk) {a b p q : Nat} (ha6 : a < 6) (hb6 : b < 6) (hne : a ≠ b) (ep : p = lo a b) (eq : q = hi a b)
    (hq : ∀ I' J', Fr co (co + 11) I I' J J' → Led I' J' l π g h nb nc nk → CoR g h nb nc nk co p q I' J' → Q none I' J' P) : CWp S N (d + 4) MX1_settle [.ref co, .ref l, .int (nI a), .int (nI b)] I J P Q := by
  rw [c_X1_settle]
  obtain ⟨o1, o2, ha⟩ := id hco
  have ha' := ha.f
  have hl' := hl
  unfold LeS at hl'
  have hs' := hl.r.f
  have e9 : (if a < b then b else a) = hi a b := by unfold hi; split <;> split <;> omega
  have mn := nI_min ha6 hb6
  have mx := nI_max ha6 hb6
  rw [e9] at mx
  rw [← ep] at mn
  rw [← eq] at mx
  have hp : p < 6 := by rw [ep]; unfold lo; split <;> omega
  have hq6 : q < 6 := by rw [eq]; unfold hi; split <;> omega
  obtain ⟨hA, eA⟩ := AllD_le hg hp hq6
  have b1 := hr.2.2 p hp
  have b2 := hr.2.2 q hq6
  have q1 : ∀ v : Int32, (u2 (u2 I co 1 (nI p)) co 2 v) co 1 = nI p := fun v => by rw [u2k _ _ _ (by decide), u2s]
  have q2 : ∀ v : Int32, (u2 (u2 I co 1 (nI p)) co 2 v) (l + 28) p = g (66 + 3 * p) := fun v => by rw [u2_off _ _ _ (by omega), u2_off _ _ _ (by omega)]; exact b1.2.2.1
  have q3 : ∀ v : Int32, (u2 (u2 I co 1 (nI p)) co 2 v) (l + 28) q = g (66 + 3 * q) := fun v => by rw [u2_off _ _ _ (by omega), u2_off _ _ _ (by omega)]; exact b2.2.2.1
  have q4 : ∀ v w : Int32, (u2 (u2 (u2 I co 1 (nI p)) co 2 v) co 3 w) co 1 = nI p := fun v w => by rw [u2k _ _ _ (by decide)]; exact q1 v
  have q5 : ∀ v w : Int32, (u2 (u2 (u2 I co 1 (nI p)) co 2 v) co 3 w) co 2 = v := fun v w => by rw [u2k _ _ _ (by decide), u2s]
  simp only [e_X1_settle_0, e_X1_settle_1, e_X1_settle_2, e_X1_settle_3, e_X1_settle_6, e_X1_settle_9, e_X1_settle_10, e_X1_settle_11, e_X1_settle_12, e_X1_settle_15, e_X1_settle_18, e_X1_settle_19, e_X1_settle_20, e_X1_settle_23, e_X1_settle_24, e_X1_settle_27, e_X1_settle_28, e_X1_settle_29, e_X1_settle_32, e_X1_settle_33, e_X1_settle_36, e_X1_settle_37, e_X1_settle_38, e_X1_settle_41, e_X1_settle_42, e_X1_settle_45, e_X1_settle_46, e_X1_settle_47, e_X1_settle_50, e_X1_settle_51, e_X1_settle_54, o1, o2, ha', hl'.1, hl'.2.1, hl'.2.2.1, hl'.2.2.2.1, mn, mx, q1, q2, q3, q4, q5, eA, nI_clamp (show p < 2 ^ 31 by omega), vpn hp (by decide), nI_clamp (show q < 2 ^ 31 by omega), vpn hq6 (by decide), true_and, and_true, rf_s, not_true_eq_false, not_false_eq_true, true_implies, false_implies, kl_i, kl_n, kl_l, kl_r, Option.toList, List.cons_append, List.nil_append, if_true, if_false, u2s, lt00, lt01, lt02, lt03, le10, le20, le30, ne10, ne20, ne30, eq00]
  have f0 : Fr co (co + 11) I (u2 (u2 (u2 I co 1 (nI p)) co 2 (nI q)) co 3 (nI (AllD g p q))) J J := fun x hx => ⟨by rw [u2_off _ _ _ (by omega), u2_off _ _ _ (by omega), u2_off _ _ _ (by omega)], rfl⟩
  refine k_tTog ha hl (by omega) hg (hr.fr hl hg.cb f0 (by omega)) hp hq6 (fun I1 J1 f1 c1 r1 b1 => ?_)
  simp only [e_X1_settle_57, e_X1_settle_58, e_X1_settle_61, e_X1_settle_62, e_X1_settle_65, o1, o2, ha', hl'.1, hl'.2.1, true_and, and_true, rf_s, not_true_eq_false, not_false_eq_true, true_implies, false_implies, kl_i, kl_n, kl_l, kl_r, Option.toList, List.cons_append, List.nil_append, if_true, if_false, u2s, lt00, lt01, lt02, lt03, le10, le20, le30, ne10, ne20, ne30, eq00]
  refine k_cTog ha hl (by omega) hg hp hq6 c1 r1 b1 (fun J2 a2 v2 _ r2 => ?_)
  have i1 : I1 co = (u2 (u2 (u2 I co 1 (nI p)) co 2 (nI q)) co 3 (nI (AllD g p q))) co := (f1 co (by omega)).1
  simp only [e_X1_settle_68, e_X1_settle_69, e_X1_settle_70, e_X1_settle_73, e_X1_settle_76, e_X1_settle_79, e_X1_settle_80, e_X1_settle_81, e_X1_settle_84, e_X1_settle_85, e_X1_settle_86, e_X1_settle_87, e_X1_settle_88, o1, o2, ha', v2, true_and, and_true, rf_s, not_true_eq_false, not_false_eq_true, true_implies, false_implies, kl_i, kl_n, kl_l, kl_r, Option.toList, List.cons_append, List.nil_append, if_true, if_false, u2s, lt00, lt01, lt02, lt03, le10, le20, le30, ne10, ne20, ne30, eq00]
  have r3 : Led (u2 I1 co 6 0) (u2 J2 co 4 (TxJ g h nb nc nk p q)) l π g h nb nc nk := r2.on hl hg.cb (fun x _ _ => u2_off _ _ _ (by omega)) (fun x _ _ => u2_off _ _ _ (by omega))
  have w1 : (u2 I1 co 6 0) co 1 = nI p := by rw [u2k _ _ _ (by decide), i1]; exact q4 _ _
  have w2 : (u2 I1 co 6 0) co 2 = nI q := by rw [u2k _ _ _ (by decide), i1]; exact q5 _ _
  have w3 : (u2 I1 co 6 0) co 3 = nI (AllD g p q) := by rw [u2k _ _ _ (by decide), i1, u2s]
  refine k_divided hco hl hdis hg r3 hp hq6 w1 w2 w3 (Nat.zero_le _) (fun I4 J4 f4 r4 => ?_)
  have i4 : I4 co = (u2 I1 co 6 0) co := (f4 co (by omega)).1
  have j4 : J4 co = (u2 J2 co 4 (TxJ g h nb nc nk p q)) co := (f4 co (by omega)).2
  simp only [e_X1_settle_91, e_X1_settle_94, e_X1_settle_95, o1, true_and, and_true, rf_s, not_true_eq_false, not_false_eq_true, true_implies, false_implies, kl_i, kl_n, kl_l, kl_r, Option.toList, List.cons_append, List.nil_append, if_true, if_false, u2s, lt00, lt01, lt02, lt03, le10, le20, le30, ne10, ne20, ne30, eq00]
  refine se_loop hco hl hdis hg hp hq6 (AllD g p q) 0 (by omega) _ _ _ _ (r4.on hl hg.cb (fun _ _ _ => rfl) (fun x _ _ => u2_off _ _ _ (by omega))) ?_ ?_ ?_ ?_ (u2s _ _ _ _) ?_ (fun I' J' f' r' c' => hq I' J' (fun x hx => ?_) r' c')
  · rw [i4]; exact w1
  · rw [i4]; exact w2
  · rw [i4]; exact w3
  · rw [u2k _ _ _ (by decide), j4, u2s]
  · rw [i4, u2s]; rfl
  · rw [(f' x hx).1, (f' x hx).2, u2_off _ _ _ (by omega), (f4 x (by omega)).1, (f4 x (by omega)).2, u2_off _ _ _ (by omega), u2_off _ _ _ (by omega), (f1 x (by omega)).1, a2 x (by omega), (f1 x (by omega)).2]
    exact f0 x hx
theorem k_prefers (hco : CoS S N P co) {p q : Nat} (hc : CoR g h nb nc nk co p q I J) : CWp S N d MX1_prefersTogether [.ref co] I J P Q ↔ Q (some (.int (if TxJ g h nb nc nk p q < (Tdv g h nb nc nk p q).1 then 1 else 0))) I J P := by
  rw [c_X1_prefersTogether]
  obtain ⟨o1, o2, ha⟩ := hco
  obtain ⟨-, -, -, h4, h5, -⟩ := hc
  by_cases hlt : TxJ g h nb nc nk p q < (Tdv g h nb nc nk p q).1
  · have hlt' := eq_true hlt
    simp only [e_X1_prefersTogether_0, e_X1_prefersTogether_1, e_X1_prefersTogether_4, e_X1_prefersTogether_5, e_X1_prefersTogether_8, e_X1_prefersTogether_9, e_X1_prefersTogether_12, e_X1_prefersTogether_13, e_X1_prefersTogether_16, e_X1_prefersTogether_17 isB0, e_X1_prefersTogether_17 isB1, e_X1_prefersTogether_17 isB_ite, o1, h4, h5, lc_ge, hlt', true_and, and_true, rf_s, not_true_eq_false, not_false_eq_true, true_implies, false_implies, kl_i, kl_n, kl_l, kl_r, Option.toList, List.cons_append, List.nil_append, if_true, if_false, u2s, lt00, lt01, lt02, lt03, le10, le20, le30, ne10, ne20, ne30, eq00]
  · have hlt' := eq_false hlt
    simp only [e_X1_prefersTogether_0, e_X1_prefersTogether_1, e_X1_prefersTogether_4, e_X1_prefersTogether_5, e_X1_prefersTogether_8, e_X1_prefersTogether_9, e_X1_prefersTogether_12, e_X1_prefersTogether_13, e_X1_prefersTogether_16, e_X1_prefersTogether_17 isB0, e_X1_prefersTogether_17 isB1, e_X1_prefersTogether_17 isB_ite, o1, h4, h5, lc_ge, hlt', true_and, and_true, rf_s, not_true_eq_false, not_false_eq_true, true_implies, false_implies, kl_i, kl_n, kl_l, kl_r, Option.toList, List.cons_append, List.nil_append, if_true, if_false, u2s, lt00, lt01, lt02, lt03, le10, le20, le30, ne10, ne20, ne30, eq00]
/-- the ledger's carried amounts set for one person -/
theorem Led.carry {I : IM} {J J' : JM} (hl : LeS S N P l π) (hb : Cb nb nc nk) (hr : Led I J l π g h nb nc nk) {p : Nat} (hp : p < 6) {v : Nat → Int64} (hJ : ∀ j q, j < nk → q < 6 → J' (l + 1 + 9 + 3 * π j) q = if q = p then v j else J (l + 1 + 9 + 3 * π j) q) {h' : Nat → Int64} (hh : ∀ q k, q < 6 → k < nk → h' (6 * q + k) = if q = p then v k else h (6 * q + k)) : Led I J' l π g h' nb nc nk := by
  obtain ⟨⟨h1, h2, h3, h4, h5⟩, h6⟩ := hr
  refine ⟨⟨h1, h2, h3, h4, fun k hk => ⟨(h5 k hk).1, fun q hq => ?_⟩⟩, h6⟩
  rw [hJ k q hk hq, hh q k hq hk]
  split
  · rfl
  · exact (h5 k hk).2 q hq
theorem k_carryBoth (hco : CoS S N P co) (hl : LeS S N P l π) (hdis : co + 11 ≤ l ∨ l + 30 ≤ co) (hg : Gd g nb nc nk) (hr : Led I J l π g h nb nc nk) {p q : Nat} (hp : p < 6) (hq6 : q < 6) (hne : p ≠ q) (hc : CoR g h nb nc nk co p q I J) {h' : Nat → Int64}
    (hh : ∀ r k, r < 6 → k < nk → h' (6 * r + k) = if TxJ g h nb nc nk p q < (Tdv g h nb nc nk p q).1 then (if r = p then Tun g nb nc (Br2 h p q) (g (64 + 3 * p) + g (64 + 3 * q)) (g (64 + 3 * p) + g (64 + 3 * q) + g (65 + 3 * p) + g (65 + 3 * q)) (g (66 + 3 * p) + g (66 + 3 * q)) 2 k 2 else if r = q then 0 else h (6 * r + k))
      else if r = p then Tun g nb nc (Br1 h p) (g (64 + 3 * p)) (g (64 + 3 * p) + g (65 + 3 * p)) (nI (Tdv g h nb nc nk p q).2) 1 k 2 else if r = q then Tun g nb nc (Br1 h q) (g (64 + 3 * q)) (g (64 + 3 * q) + g (65 + 3 * q)) (nI (AllD g p q - (Tdv g h nb nc nk p q).2)) 1 k 2 else h (6 * r + k))
    (hq : ∀ I' J', (∀ x, (x < co ∨ co + 11 ≤ x) → (x < l ∨ l + 30 ≤ x) → I' x = I x ∧ J' x = J x) → Led I' J' l π g h' nb nc nk → Q none I' J' P) : CWp S N (d + 3) MX1_carryBoth [.ref co, .ref l] I J P Q := by
  rw [c_X1_carryBoth]
  have pf := fun (d : Nat) (Q : Option Value → IM → JM → PM → Prop) => k_prefers (S := S) (N := N) (d := d) (P := P) (Q := Q) hco hc
  obtain ⟨o1, o2, ha⟩ := id hco
  obtain ⟨h1, h2, h3, h4, h5, h6⟩ := hc
  have ha' := ha.f
  have hl' := hl
  unfold LeS at hl'
  have hs' := hl.r.f
  have hb := hg.cb
  have t3 : ∀ br e x dd f k, Tct g nb nc br e x dd f k 3 = Tun g nb nc br e x dd f k 2 := fun _ _ _ _ _ _ => rfl
  by_cases hlt : TxJ g h nb nc nk p q < (Tdv g h nb nc nk p q).1
  · simp only [if_pos hlt] at hh
    have hlt' := eq_true hlt
    simp only [e_X1_carryBoth_0, e_X1_carryBoth_1, e_X1_carryBoth_4, e_X1_carryBoth_7, e_X1_carryBoth_8, e_X1_carryBoth_11, e_X1_carryBoth_12, e_X1_carryBoth_13, e_X1_carryBoth_16, e_X1_carryBoth_17, e_X1_carryBoth_20, o1, o2, ha', pf, hlt', h1, h2, ne10, true_and, and_true, rf_s, not_true_eq_false, not_false_eq_true, true_implies, false_implies, kl_i, kl_n, kl_l, kl_r, Option.toList, List.cons_append, List.nil_append, if_true, if_false, u2s, lt00, lt01, lt02, lt03, le10, le20, le30, ne10, ne20, ne30, eq00]
    refine k_tTog ha hl (by omega) hg hr hp hq6 (fun I1 J1 f1 c1 r1 b1 => ?_)
    simp only [e_X1_carryBoth_23, e_X1_carryBoth_24, e_X1_carryBoth_27, e_X1_carryBoth_28, e_X1_carryBoth_31, o1, o2, ha', hl'.1, hl'.2.1, true_and, and_true, rf_s, not_true_eq_false, not_false_eq_true, true_implies, false_implies, kl_i, kl_n, kl_l, kl_r, Option.toList, List.cons_append, List.nil_append, if_true, if_false, u2s, lt00, lt01, lt02, lt03, le10, le20, le30, ne10, ne20, ne30, eq00]
    refine k_cTog ha hl (by omega) hg hp hq6 c1 r1 b1 (fun J2 a2 _ v2 r2 => ?_)
    have i1 : I1 co = I co := (f1 co (by omega)).1
    have r7 := r2.1.1.2.2
    simp only [e_X1_carryBoth_34, e_X1_carryBoth_35, e_X1_carryBoth_38, e_X1_carryBoth_39, e_X1_carryBoth_42, e_X1_carryBoth_43, e_X1_carryBoth_46, o1, o2, ha', hs', hl'.1, hl'.2.1, i1, h1, true_and, and_true, rf_s, not_true_eq_false, not_false_eq_true, true_implies, false_implies, kl_i, kl_n, kl_l, kl_r, Option.toList, List.cons_append, List.nil_append, if_true, if_false, u2s, lt00, lt01, lt02, lt03, le10, le20, le30, ne10, ne20, ne30, eq00]
    refine k_carryOn hl.r ha (by omega) hb.2.2 r7 hp (fun J3 a3 v3 => ?_)
    obtain ⟨hp', hhp⟩ : ∃ hp' : Nat → Int64, ∀ r k, r < 6 → k < nk → hp' (6 * r + k) = if r = p then Tun g nb nc (Br2 h p q) (g (64 + 3 * p) + g (64 + 3 * q)) (g (64 + 3 * p) + g (64 + 3 * q) + g (65 + 3 * p) + g (65 + 3 * q)) (g (66 + 3 * p) + g (66 + 3 * q)) 2 k 2 else h (6 * r + k) :=
      ⟨fun z => if z / 6 = p then Tun g nb nc (Br2 h p q) (g (64 + 3 * p) + g (64 + 3 * q)) (g (64 + 3 * p) + g (64 + 3 * q) + g (65 + 3 * p) + g (65 + 3 * q)) (g (66 + 3 * p) + g (66 + 3 * q)) 2 (z % 6) 2 else h z, fun r k hr6 hk => by
        have := hb.2.2
        show (if (6 * r + k) / 6 = p then _ else _) = _
        rw [show (6 * r + k) / 6 = r by omega, show (6 * r + k) % 6 = k by omega]⟩
    have r3 : Led I1 J3 l π g hp' nb nc nk := Led.carry hl hb r2 hp (fun j r hj hr6 => by rw [v3 j r hj hr6, v2 j 3 hj (by decide), t3]) hhp
    simp only [e_X1_carryBoth_49, e_X1_carryBoth_50, e_X1_carryBoth_53, e_X1_carryBoth_54, e_X1_carryBoth_57, o1, o2, ha', hs', hl'.1, hl'.2.1, i1, h2, true_and, and_true, rf_s, not_true_eq_false, not_false_eq_true, true_implies, false_implies, kl_i, kl_n, kl_l, kl_r, Option.toList, List.cons_append, List.nil_append, if_true, if_false, u2s, lt00, lt01, lt02, lt03, le10, le20, le30, ne10, ne20, ne30, eq00]
    refine k_carryNothing hl.r hb.2.2 r7 hq6 (fun J4 a4 v4 => ?_)
    simp only [e_X1_carryBoth_60, true_and, and_true, rf_s, not_true_eq_false, not_false_eq_true, true_implies, false_implies, kl_i, kl_n, kl_l, kl_r, Option.toList, List.cons_append, List.nil_append, if_true, if_false, u2s, lt00, lt01, lt02, lt03, le10, le20, le30, ne10, ne20, ne30, eq00]
    refine hq I1 J4 (fun x x1 x2 => ⟨(f1 x (by omega)).1, by rw [a4 x (by omega), a3 x (by omega), a2 x (by omega), (f1 x (by omega)).2]⟩) (Led.carry hl hb r3 hq6 (v := fun _ => 0) v4 (fun r k hr6 hk => ?_))
    have := hb.2.2
    rw [hh r k hr6 hk, hhp r k hr6 hk]
    by_cases hrp : r = p
    · rw [if_pos hrp, if_neg (show ¬ r = q by omega), if_pos hrp]
    · rw [if_neg hrp, if_neg hrp]
  · simp only [if_neg hlt] at hh
    have hlt' := eq_false hlt
    have hA := (AllD_le hg hp hq6).1
    have hle : (Tdv g h nb nc nk p q).2 ≤ AllD g p q := Tap_le _ _
    have e1 : nI (AllD g p q) - nI (Tdv g h nb nc nk p q).2 = nI (AllD g p q - (Tdv g h nb nc nk p q).2) := pk_sub hle
    simp only [e_X1_carryBoth_0, e_X1_carryBoth_1, e_X1_carryBoth_4, e_X1_carryBoth_61, e_X1_carryBoth_62, e_X1_carryBoth_65, e_X1_carryBoth_66, e_X1_carryBoth_67, e_X1_carryBoth_70, e_X1_carryBoth_71, e_X1_carryBoth_74, o1, o2, ha', pf, hlt', h1, h6, true_and, and_true, rf_s, not_true_eq_false, not_false_eq_true, true_implies, false_implies, kl_i, kl_n, kl_l, kl_r, Option.toList, List.cons_append, List.nil_append, if_true, if_false, u2s, lt00, lt01, lt02, lt03, le10, le20, le30, ne10, ne20, ne30, eq00]
    refine k_tAlone ha hl (by omega) hg hr hp ⟨_, by omega, rfl⟩ (fun I1 J1 f1 c1 r1 b1 => ?_)
    simp only [e_X1_carryBoth_77, e_X1_carryBoth_78, e_X1_carryBoth_81, e_X1_carryBoth_82, e_X1_carryBoth_85, o1, o2, ha', hl'.1, hl'.2.1, true_and, and_true, rf_s, not_true_eq_false, not_false_eq_true, true_implies, false_implies, kl_i, kl_n, kl_l, kl_r, Option.toList, List.cons_append, List.nil_append, if_true, if_false, u2s, lt00, lt01, lt02, lt03, le10, le20, le30, ne10, ne20, ne30, eq00]
    refine k_cAlone ha hl (by omega) hg hp ⟨_, by omega, rfl⟩ c1 r1 b1 (fun J2 a2 _ _ v2 r2 => ?_)
    have i1 : I1 co = I co := (f1 co (by omega)).1
    have r7 := r2.1.1.2.2
    simp only [e_X1_carryBoth_88, e_X1_carryBoth_89, e_X1_carryBoth_92, e_X1_carryBoth_93, e_X1_carryBoth_96, e_X1_carryBoth_97, e_X1_carryBoth_100, o1, o2, ha', hs', hl'.1, hl'.2.1, i1, h1, true_and, and_true, rf_s, not_true_eq_false, not_false_eq_true, true_implies, false_implies, kl_i, kl_n, kl_l, kl_r, Option.toList, List.cons_append, List.nil_append, if_true, if_false, u2s, lt00, lt01, lt02, lt03, le10, le20, le30, ne10, ne20, ne30, eq00]
    refine k_carryOn hl.r ha (by omega) hb.2.2 r7 hp (fun J3 a3 v3 => ?_)
    obtain ⟨hp', hh3⟩ : ∃ hp' : Nat → Int64, ∀ r k, r < 6 → k < nk → hp' (6 * r + k) = if r = p then Tun g nb nc (Br1 h p) (g (64 + 3 * p)) (g (64 + 3 * p) + g (65 + 3 * p)) (nI (Tdv g h nb nc nk p q).2) 1 k 2 else h (6 * r + k) :=
      ⟨fun z => if z / 6 = p then Tun g nb nc (Br1 h p) (g (64 + 3 * p)) (g (64 + 3 * p) + g (65 + 3 * p)) (nI (Tdv g h nb nc nk p q).2) 1 (z % 6) 2 else h z, fun r k hr6 hk => by
        have := hb.2.2
        show (if (6 * r + k) / 6 = p then _ else _) = _
        rw [show (6 * r + k) / 6 = r by omega, show (6 * r + k) % 6 = k by omega]⟩
    have r3 : Led I1 J3 l π g hp' nb nc nk := Led.carry hl hb r2 hp (fun j r hj hr6 => by rw [v3 j r hj hr6, v2 j 3 hj (by decide), t3]) hh3
    simp only [e_X1_carryBoth_103, e_X1_carryBoth_104, e_X1_carryBoth_107, e_X1_carryBoth_108, e_X1_carryBoth_109, e_X1_carryBoth_112, e_X1_carryBoth_113, e_X1_carryBoth_116, e_X1_carryBoth_117, e_X1_carryBoth_120, e_X1_carryBoth_121, o1, o2, ha', i1, h2, h3, h6, e1, true_and, and_true, rf_s, not_true_eq_false, not_false_eq_true, true_implies, false_implies, kl_i, kl_n, kl_l, kl_r, Option.toList, List.cons_append, List.nil_append, if_true, if_false, u2s, lt00, lt01, lt02, lt03, le10, le20, le30, ne10, ne20, ne30, eq00]
    refine k_tAlone ha hl (by omega) hg r3 hq6 ⟨AllD g p q - (Tdv g h nb nc nk p q).2, by omega, rfl⟩ (fun I5 J5 f5 c5 r5 b5 => ?_)
    simp only [e_X1_carryBoth_124, e_X1_carryBoth_125, e_X1_carryBoth_128, e_X1_carryBoth_129, e_X1_carryBoth_132, o1, o2, ha', hl'.1, hl'.2.1, true_and, and_true, rf_s, not_true_eq_false, not_false_eq_true, true_implies, false_implies, kl_i, kl_n, kl_l, kl_r, Option.toList, List.cons_append, List.nil_append, if_true, if_false, u2s, lt00, lt01, lt02, lt03, le10, le20, le30, ne10, ne20, ne30, eq00]
    have r5' : Led I5 J5 l π g hp' nb nc nk := r5
    refine k_compute (br := Br1 h q) ha c5 (Cs.one hg hq6 ⟨AllD g p q - (Tdv g h nb nc nk p q).2, by omega, rfl⟩) hl.r (by omega) hb r5'.1 hg.rb (fun j hj => ?_) (fun J6 a6 _ _ v6 => ?_)
    · rw [b5 j hj]
      unfold Br1
      rw [hh3 q j hq6 hj, if_neg (by omega)]
    have i5 : I5 co = I co := by rw [(f5 co (by omega)).1]; exact i1
    have r6 : Led I5 J6 l π g hp' nb nc nk := r5'.on hl hb (fun _ _ _ => rfl) (fun a h1 h2 => a6 a (by omega) (by omega) (by omega))
    have r77 := r6.1.1.2.2
    simp only [e_X1_carryBoth_135, e_X1_carryBoth_136, e_X1_carryBoth_139, e_X1_carryBoth_140, e_X1_carryBoth_143, e_X1_carryBoth_144, e_X1_carryBoth_147, o1, o2, ha', hs', hl'.1, hl'.2.1, i5, h2, true_and, and_true, rf_s, not_true_eq_false, not_false_eq_true, true_implies, false_implies, kl_i, kl_n, kl_l, kl_r, Option.toList, List.cons_append, List.nil_append, if_true, if_false, u2s, lt00, lt01, lt02, lt03, le10, le20, le30, ne10, ne20, ne30, eq00]
    refine k_carryOn hl.r ha (by omega) hb.2.2 r77 hq6 (fun J7 a7 v7 => ?_)
    simp only [e_X1_carryBoth_150, true_and, and_true, rf_s, not_true_eq_false, not_false_eq_true, true_implies, false_implies, kl_i, kl_n, kl_l, kl_r, Option.toList, List.cons_append, List.nil_append, if_true, if_false, u2s, lt00, lt01, lt02, lt03, le10, le20, le30, ne10, ne20, ne30, eq00]
    refine hq I5 J7 (fun x x1 x2 => ⟨by rw [(f5 x (by omega)).1, (f1 x (by omega)).1], by rw [a7 x (by omega), a6 x (by omega) (by omega) (by omega), (f5 x (by omega)).2, a3 x (by omega), a2 x (by omega), (f1 x (by omega)).2]⟩) (Led.carry hl hb r6 hq6 (v := fun k => Tun g nb nc (Br1 h q) (g (64 + 3 * q)) (g (64 + 3 * q) + g (65 + 3 * q)) (nI (AllD g p q - (Tdv g h nb nc nk p q).2)) 1 k 2) (fun j r hj hr6 => by rw [v7 j r hj hr6, v6 j 3 hj (by decide), t3]) (fun r k hr6 hk => ?_))
    rw [hh r k hr6 hk, hh3 r k hr6 hk]
    by_cases hrp : r = p
    · rw [if_pos hrp, if_neg (show ¬ r = q by omega), if_pos hrp]
    · rw [if_neg hrp, if_neg hrp]
end KT8

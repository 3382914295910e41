/-! the model's couples -/
/-- a person's tax alone with some dependents -/
def TxA (g : Nat → Int32) (h : Nat → Int64) (nb nc nk p : Nat) (dd : Int32) : Int64 := Trs g nb nc (Br1 h p) (g (64 + 3 * p)) (g (64 + 3 * p) + g (65 + 3 * p)) dd 1 nk
/-- a couple's tax jointly -/
def TxJ (g : Nat → Int32) (h : Nat → Int64) (nb nc nk p q : Nat) : Int64 := Trs g nb nc (Br2 h p q) (g (64 + 3 * p) + g (64 + 3 * q)) (g (64 + 3 * p) + g (64 + 3 * q) + g (65 + 3 * p) + g (65 + 3 * q)) (g (66 + 3 * p) + g (66 + 3 * q)) 2 nk
/-- the least of the sums 0 to n, and the first place that has it -/
def Tap (s : Nat → Int64) : Nat → Int64 × Nat
  | 0 => (s 0, 0)
  | n + 1 => if s (n + 1) < (Tap s n).1 then (s (n + 1), n + 1) else Tap s n
def TxS (g : Nat → Int32) (h : Nat → Int64) (nb nc nk p q A : Nat) (i : Nat) : Int64 := TxA g h nb nc nk p (nI i) + TxA g h nb nc nk q (nI (A - i))
section MT5
variable {S N : Nat → Nat} {d : Nat} {I : IM} {J : JM} {P : PM} {Q : Option Value → IM → JM → PM → Prop} {m : Nat} {g : Nat → Int32} {h : Nat → Int64} {nb nc nk : Nat}
theorem s_aloneG (hm : MdS S N P m) (hg : I (m + 1) = g) (hh : J (m + 2) = h) (hc : Cnt g nb nc nk) {p : Nat} (hp : p < 6) {e dd : Int32} (he : e = g (64 + 3 * p))
    (hq : ∀ J', Sc m J J' → Res g m nb nc nk (Br1 h p) e (e + g (65 + 3 * p)) dd 1 J' → Q (some (.long (TxA g h nb nc nk p dd))) I J' P) : CWp S N (d + 3) MX9_alone [.ref m, .int (nI p), .int e, .int dd] I J P Q := by
  subst hg
  subst hh
  subst he
  exact s_alone hm hc hp hq
theorem s_taxOfPersonG (hm : MdS S N P m) (hg : I (m + 1) = g) (hh : J (m + 2) = h) (hc : Cnt g nb nc nk) {p : Nat} (hp : p < 6)
    (hq : ∀ J', Sc m J J' → Res g m nb nc nk (Br1 h p) (g (64 + 3 * p)) (g (64 + 3 * p) + g (65 + 3 * p)) (g (66 + 3 * p)) 1 J' → Q (some (.long (TxA g h nb nc nk p (g (66 + 3 * p))))) I J' P) : CWp S N (d + 4) MX9_taxOfPerson [.ref m, .int (nI p)] I J P Q := by
  subst hg
  subst hh
  exact s_taxOfPerson hm hc hp hq
theorem s_ofG (hm : MdS S N P m) (hg : I (m + 1) = g) {p j : Nat} (hp : p < 6) (hj : j < 3) : CWp S N d MX9_of [.ref m, .int (nI p), .int (nI j)] I J P Q ↔ Q (some (.int (g (64 + 3 * p + j)))) I J P := by
  subst hg
  exact s_of hm hp hj
theorem s_of0 (hm : MdS S N P m) (hg : I (m + 1) = g) {p : Nat} (hp : p < 6) : CWp S N d MX9_of [.ref m, .int (nI p), .int 0] I J P Q ↔ Q (some (.int (g (64 + 3 * p)))) I J P := s_ofG hm hg hp (show 0 < 3 by decide)
theorem s_of1 (hm : MdS S N P m) (hg : I (m + 1) = g) {p : Nat} (hp : p < 6) : CWp S N d MX9_of [.ref m, .int (nI p), .int 1] I J P Q ↔ Q (some (.int (g (65 + 3 * p)))) I J P := by
  rw [show 65 + 3 * p = 64 + 3 * p + 1 by omega]
  exact s_ofG hm hg hp (show 1 < 3 by decide)
theorem s_of2 (hm : MdS S N P m) (hg : I (m + 1) = g) {p : Nat} (hp : p < 6) : CWp S N d MX9_of [.ref m, .int (nI p), .int 2] I J P Q ↔ Q (some (.int (g (66 + 3 * p)))) I J P := by
  rw [show 66 + 3 * p = 64 + 3 * p + 2 by omega]
  exact s_ofG hm hg hp (show 2 < 3 by decide)
theorem q82 (p : Nat) : (82 : Int32) + nI p = nI (82 + p) := by rw [show (82 : Int32) = nI 82 from rfl, nI_add]
theorem s_jointly (hm : MdS S N P m) (hg : I (m + 1) = g) (hh : J (m + 2) = h) (hc : Cnt g nb nc nk) {p q : Nat} (hp : p < 6) (hq6 : q < 6) (hpq : g (82 + p) = nI q)
    (hq : ∀ J', Sc m J J' → Res g m nb nc nk (Br2 h p q) (g (64 + 3 * p) + g (64 + 3 * q)) (g (64 + 3 * p) + g (64 + 3 * q) + g (65 + 3 * p) + g (65 + 3 * q)) (g (66 + 3 * p) + g (66 + 3 * q)) 2 J' → Q (some (.long (TxJ g h nb nc nk p q))) I J' P) : CWp S N (d + 3) MX9_jointly [.ref m, .int (nI p)] I J P Q := by
  rw [c_X9_jointly]
  have hm0 := hm
  unfold MdS at hm
  have c0 := fun (d : Nat) (J : JM) (Q : Option Value → IM → JM → PM → Prop) (r : Nat) (hr : r < 6) => s_of0 (S := S) (N := N) (d := d) (I := I) (J := J) (Q := Q) hm0 hg hr
  have c1 := fun (d : Nat) (J : JM) (Q : Option Value → IM → JM → PM → Prop) (r : Nat) (hr : r < 6) => s_of1 (S := S) (N := N) (d := d) (I := I) (J := J) (Q := Q) hm0 hg hr
  have c2 := fun (d : Nat) (J : JM) (Q : Option Value → IM → JM → PM → Prop) (r : Nat) (hr : r < 6) => s_of2 (S := S) (N := N) (d := d) (I := I) (J := J) (Q := Q) hm0 hg hr
  simp only [e_X9_jointly_0, e_X9_jointly_1, e_X9_jointly_4, e_X9_jointly_6, e_X9_jointly_7, e_X9_jointly_8, e_X9_jointly_9, e_X9_jointly_10, e_X9_jointly_11, e_X9_jointly_12, e_X9_jointly_13, e_X9_jointly_16, e_X9_jointly_17, e_X9_jointly_18, e_X9_jointly_19, e_X9_jointly_22, e_X9_jointly_23, e_X9_jointly_24, e_X9_jointly_25, e_X9_jointly_26, e_X9_jointly_27, hm, true_and, rf_s, q82, nI_clamp (show 82 + p < 2 ^ 31 by omega), vp_in_nI (show 82 + p < 89 by omega) (show 89 < 2 ^ 31 by decide), hg, hpq, kl_i, kl_n, kl_r, c0 _ _ _ p hp, c0 _ _ _ q hq6, Option.toList, List.cons_append, List.nil_append]
  refine s_brings2 hm0 hp hq6 (fun J1 a1 a2 => ?_)
  simp only [e_X9_jointly_30, e_X9_jointly_31, e_X9_jointly_32, e_X9_jointly_33, e_X9_jointly_34, e_X9_jointly_35, e_X9_jointly_36, e_X9_jointly_39, e_X9_jointly_40, e_X9_jointly_41, e_X9_jointly_42, e_X9_jointly_43, e_X9_jointly_46, e_X9_jointly_47, e_X9_jointly_48, e_X9_jointly_49, e_X9_jointly_50, e_X9_jointly_53, e_X9_jointly_54, e_X9_jointly_55, e_X9_jointly_56, e_X9_jointly_59, e_X9_jointly_60, e_X9_jointly_61, hm, true_and, c1 _ _ _ p hp, c1 _ _ _ q hq6, c2 _ _ _ p hp, c2 _ _ _ q hq6, Option.toList, List.cons_append, List.nil_append]
  subst hg
  subst hh
  refine s_case hm0 hc (Br2 (J (m + 2)) p q) (fun k hk => a2 k hk) (fun J2 b1 b2 => ?_)
  simp only [e_X9_jointly_64, Option.toList, List.cons_append, List.nil_append]
  exact hq J2 (fun a h1 h2 h3 h4 h5 => (b1 a h1 h2 h3 h4 h5).trans (a1 a h2)) b2
theorem s_firstOf (hm : MdS S N P m) (hg : I (m + 1) = g) {p q : Nat} (hp : p < 6) (hq6 : q < 6) (hpq : g (82 + p) = nI q) : CWp S N d MX9_firstOf [.ref m, .int (nI p)] I J P Q ↔ Q (some (.int (nI (if q < p then q else p)))) I J P := by
  rw [c_X9_firstOf]
  unfold MdS at hm
  by_cases hlt : q < p
  · have g1 : ¬ nI p ≤ nI q := nI_ge (by omega) (by omega)
    simp only [e_X9_firstOf_0, e_X9_firstOf_1, e_X9_firstOf_4, e_X9_firstOf_6, e_X9_firstOf_7, e_X9_firstOf_8, e_X9_firstOf_9, e_X9_firstOf_10, e_X9_firstOf_13, e_X9_firstOf_14, e_X9_firstOf_17, e_X9_firstOf_19, e_X9_firstOf_20, e_X9_firstOf_21, e_X9_firstOf_22, e_X9_firstOf_25, e_X9_firstOf_26, hm, true_and, rf_s, q82, nI_clamp (show 82 + p < 2 ^ 31 by omega), vp_in_nI (show 82 + p < 89 by omega) (show 89 < 2 ^ 31 by decide), hg, hpq, g1, not_true_eq_false, not_false_eq_true, true_implies, false_implies, and_true, if_pos hlt]
  · have g1 : nI p ≤ nI q := nI_le (by omega) (by omega)
    simp only [e_X9_firstOf_0, e_X9_firstOf_1, e_X9_firstOf_4, e_X9_firstOf_6, e_X9_firstOf_7, e_X9_firstOf_8, e_X9_firstOf_9, e_X9_firstOf_10, e_X9_firstOf_13, e_X9_firstOf_14, e_X9_firstOf_17, e_X9_firstOf_19, e_X9_firstOf_20, e_X9_firstOf_21, e_X9_firstOf_22, e_X9_firstOf_25, e_X9_firstOf_26, hm, true_and, rf_s, q82, nI_clamp (show 82 + p < 2 ^ 31 by omega), vp_in_nI (show 82 + p < 89 by omega) (show 89 < 2 ^ 31 by decide), hg, hpq, g1, not_true_eq_false, not_false_eq_true, true_implies, false_implies, and_true, if_neg hlt]
theorem apart_loop (hm : MdS S N P m) (hg : I (m + 1) = g) (hc : Cnt g nb nc nk) {p q A : Nat} (hp : p < 6) (hq6 : q < 6) (hA : A ≤ 18) : ∀ (n j : Nat), j + n = A → ∀ (J : JM) (x1 x8 x9 : Option Value), J (m + 2) = h → (∀ J', Sc m J J' → Q (some (.long (Tap (TxS g h nb nc nk p q A) A).1)) (u2 I m 21 (nI (Tap (TxS g h nb nc nk p q A) A).2)) J' P) →
    Wp S N (d + 4) MX9_apart 37 [some (.ref m), x1, some (.int (nI p)), some (.int (nI q)), some (.int (nI A)), some (.long (Tap (TxS g h nb nc nk p q A) j).1), none, some (.int (nI (j + 1))), x8, x9] [] (u2 I m 21 (nI (Tap (TxS g h nb nc nk p q A) j).2)) J P Q := by
  have hm0 := hm
  unfold MdS at hm
  have n1 : m + 1 ≠ m := by omega
  intro n
  induction n with
  | zero =>
    intro j hj J x1 x8 x9 hh hq
    have hj : j = A := by omega
    subst hj
    have g1 : nI j < nI (j + 1) := nI_lt (by omega) (by omega)
    simp only [e_X9_apart_37, e_X9_apart_39, e_X9_apart_41, e_X9_apart_109, e_X9_apart_111, g1, not_true_eq_false, true_implies, false_implies, and_true]
    exact hq J Sc.rf
  | succ n ih =>
    intro j hj J x1 x8 x9 hh hq
    have g1 : ¬ nI A < nI (j + 1) := nI_nlt (by omega) (by omega)
    have g2 : ¬ nI (j + 1) = 0 := nI_ne0 (by omega) (by omega)
    have hg2 : ∀ v, (u2 I m 21 v) (m + 1) = g := fun v => by rw [u2_off _ _ _ n1]; exact hg
    have c0 := fun (d : Nat) (J : JM) (Q : Option Value → IM → JM → PM → Prop) (v : Int32) (r : Nat) (hr : r < 6) => s_of0 (S := S) (N := N) (d := d) (I := u2 I m 21 v) (J := J) (Q := Q) hm0 (hg2 v) hr
    simp only [e_X9_apart_37, e_X9_apart_39, e_X9_apart_41, e_X9_apart_44, e_X9_apart_45, e_X9_apart_46, e_X9_apart_47, e_X9_apart_48, e_X9_apart_49, e_X9_apart_52, e_X9_apart_54, hm, true_and, g1, c0 _ _ _ _ p hp, Option.toList, List.cons_append, List.nil_append, not_false_eq_true, true_implies, false_implies, and_true]
    refine s_aloneG (h := h) hm0 (hg2 _) hh hc hp rfl (fun J1 a1 _ => ?_)
    have e1 : nI A - nI (j + 1) = nI (A - (j + 1)) := pk_sub (by omega)
    simp only [e_X9_apart_57, e_X9_apart_59, e_X9_apart_61, e_X9_apart_62, e_X9_apart_63, e_X9_apart_64, e_X9_apart_65, e_X9_apart_66, e_X9_apart_69, e_X9_apart_71, e_X9_apart_73, e_X9_apart_74, hm, true_and, c0 _ _ _ _ q hq6, e1, kl_i, kl_n, Option.toList, List.cons_append, List.nil_append]
    refine s_aloneG (h := h) hm0 (hg2 _) (by rw [a1.h]; exact hh) hc hq6 rfl (fun J2 a2 _ => ?_)
    have e2 : TxA g h nb nc nk p (nI (j + 1)) + TxA g h nb nc nk q (nI (A - (j + 1))) = TxS g h nb nc nk p q A (j + 1) := rfl
    have ih2 := ih (j + 1) (by omega) J2 x1 (some (.long (TxS g h nb nc nk p q A (j + 1)))) none (by rw [a2.h, a1.h]; exact hh) (fun J' a3 => hq J' ((a1.tr a2).tr a3))
    rw [Tap] at ih2
    have u22 : ∀ v w : Int32, u2 (u2 I m 21 v) m 21 w = u2 I m 21 w := fun v w => by funext x y; simp only [u2]; split <;> rfl
    by_cases hlt : TxS g h nb nc nk p q A (j + 1) < (Tap (TxS g h nb nc nk p q A) j).1
    · rw [if_pos hlt] at ih2
      simp only [e_X9_apart_77, e_X9_apart_78, e_X9_apart_80, e_X9_apart_82, e_X9_apart_85, e_X9_apart_87, e_X9_apart_89, e_X9_apart_90, e_X9_apart_93, e_X9_apart_95, e_X9_apart_97, e_X9_apart_98, e_X9_apart_100, e_X9_apart_103, e_X9_apart_106, Option.toList, List.cons_append, List.nil_append, hm, true_and, e2, g2, lc_ge, hlt, nI_1, kl_i, kl_n, u22, not_true_eq_false, not_false_eq_true, true_implies, false_implies, and_true]
      exact ih2
    · rw [if_neg hlt] at ih2
      simp only [e_X9_apart_77, e_X9_apart_78, e_X9_apart_80, e_X9_apart_82, e_X9_apart_85, e_X9_apart_87, e_X9_apart_89, e_X9_apart_90, e_X9_apart_93, e_X9_apart_95, e_X9_apart_97, e_X9_apart_98, e_X9_apart_100, e_X9_apart_103, e_X9_apart_106, Option.toList, List.cons_append, List.nil_append, hm, true_and, e2, g2, lc_ge, hlt, nI_1, kl_i, kl_n, u22, not_true_eq_false, not_false_eq_true, true_implies, false_implies, and_true]
      exact ih2
theorem s_apart (hm : MdS S N P m) (hg : I (m + 1) = g) (hh : J (m + 2) = h) (hc : Cnt g nb nc nk) {r p q a b : Nat} (hr : r < 6) (hp : p < 6) (hq6 : q < 6) (hr1 : (r = p ∧ g (82 + r) = nI q) ∨ (r = q ∧ g (82 + r) = nI p)) (hlt : p < q) (hpq : g (82 + p) = nI q) (ha : g (66 + 3 * p) = nI a) (hb : g (66 + 3 * q) = nI b) (hab : a + b ≤ 18)
    (hq : ∀ J', Sc m J J' → Q (some (.long (Tap (TxS g h nb nc nk p q (a + b)) (a + b)).1)) (u2 I m 21 (nI (Tap (TxS g h nb nc nk p q (a + b)) (a + b)).2)) J' P) : CWp S N (d + 4) MX9_apart [.ref m, .int (nI r)] I J P Q := by
  rw [c_X9_apart]
  have hm0 := hm
  have hf : ∀ (d : Nat) (Q : Option Value → IM → JM → PM → Prop), CWp S N d MX9_firstOf [.ref m, .int (nI r)] I J P Q ↔ Q (some (.int (nI p))) I J P := by
    intro d Q
    rcases hr1 with ⟨e1, e2⟩ | ⟨e1, e2⟩
    · rw [s_firstOf hm hg hr hq6 e2, if_neg (by omega), e1]
    · rw [s_firstOf hm hg hr hp e2, if_pos (by omega)]
  unfold MdS at hm
  have n1 : m + 1 ≠ m := by omega
  have c0 := fun (d : Nat) (J : JM) (Q : Option Value → IM → JM → PM → Prop) (r : Nat) (hr : r < 6) => s_of0 (S := S) (N := N) (d := d) (I := I) (J := J) (Q := Q) hm0 hg hr
  have c2 := fun (d : Nat) (J : JM) (Q : Option Value → IM → JM → PM → Prop) (r : Nat) (hr : r < 6) => s_of2 (S := S) (N := N) (d := d) (I := I) (J := J) (Q := Q) hm0 hg hr
  have g1 : ¬ nI (a + b) < 0 := nI_pos (by omega)
  have e0 : (0 : Int32) = nI 0 := rfl
  simp only [e_X9_apart_0, e_X9_apart_1, e_X9_apart_2, e_X9_apart_5, e_X9_apart_6, e_X9_apart_7, e_X9_apart_10, e_X9_apart_12, e_X9_apart_13, e_X9_apart_14, e_X9_apart_15, e_X9_apart_16, e_X9_apart_17, e_X9_apart_18, e_X9_apart_19, e_X9_apart_22, e_X9_apart_23, e_X9_apart_24, e_X9_apart_25, e_X9_apart_28, e_X9_apart_29, e_X9_apart_31, e_X9_apart_32, e_X9_apart_34, e_X9_apart_35, e_X9_apart_37, e_X9_apart_39, e_X9_apart_41, e_X9_apart_44, e_X9_apart_45, e_X9_apart_46, e_X9_apart_47, e_X9_apart_48, e_X9_apart_49, e_X9_apart_52, e_X9_apart_54, hm, true_and, rf_s, hf, q82, nI_clamp (show 82 + p < 2 ^ 31 by omega), vp_in_nI (show 82 + p < 89 by omega) (show 89 < 2 ^ 31 by decide), hg, hpq, ha, hb, nI_add, c0 _ _ _ p hp, c2 _ _ _ p hp, c2 _ _ _ q hq6, g1, kl_i, kl_n, kl_r, Option.toList, List.cons_append, List.nil_append, not_false_eq_true, true_implies, false_implies, and_true]
  refine s_aloneG (h := h) hm0 hg hh hc hp rfl (fun J1 a1 _ => ?_)
  have e1 : nI (a + b) - 0 = nI (a + b - 0) := by rw [e0, pk_sub (Nat.zero_le _)]
  simp only [e_X9_apart_57, e_X9_apart_59, e_X9_apart_61, e_X9_apart_62, e_X9_apart_63, e_X9_apart_64, e_X9_apart_65, e_X9_apart_66, e_X9_apart_69, e_X9_apart_71, e_X9_apart_73, e_X9_apart_74, hm, true_and, c0 _ _ _ q hq6, e1, kl_i, kl_n, Option.toList, List.cons_append, List.nil_append]
  refine s_aloneG (h := h) hm0 hg (by rw [a1.h]; exact hh) hc hq6 rfl (fun J2 a2 _ => ?_)
  have e2 : TxA g h nb nc nk p 0 + TxA g h nb nc nk q (nI (a + b - 0)) = (Tap (TxS g h nb nc nk p q (a + b)) 0).1 := rfl
  have e3 : (0 : Int32) + 1 = nI (0 + 1) := rfl
  simp only [e_X9_apart_77, e_X9_apart_78, e_X9_apart_80, e_X9_apart_82, e_X9_apart_85, e_X9_apart_87, e_X9_apart_89, e_X9_apart_90, e_X9_apart_93, e_X9_apart_95, e_X9_apart_97, e_X9_apart_98, e_X9_apart_100, e_X9_apart_103, e_X9_apart_106, Option.toList, List.cons_append, List.nil_append, hm, true_and, e2, e3, kl_i, kl_n, not_true_eq_false, not_false_eq_true, true_implies, false_implies, and_true]
  exact apart_loop hm0 hg hc hp hq6 hab (a + b) 0 (by omega) J2 _ _ _ (by rw [a2.h, a1.h]; exact hh) (fun J' a3 => hq J' ((a1.tr a2).tr a3))
end MT5

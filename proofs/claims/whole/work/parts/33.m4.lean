/-! a case's rest behind its credits, as a function; the model's persons -/
/-- what may be used of credit k, what is, the rest ahead of credit k -/
def Tmay (g : Nat → Int32) (br : Nat → Int64) (k : Nat) (e x dd f : Int32) : Int64 := Tval g k e x dd f + (if g (28 + 6 * k) = 2 then br k else 0)
def Tuse (g : Nat → Int32) (br : Nat → Int64) (k : Nat) (e x dd f : Int32) (l : Int64) : Int64 := if g (28 + 6 * k) = 1 then Tmay g br k e x dd f else Tles (Tmay g br k e x dd f) (Tpos l)
def Trs (g : Nat → Int32) (nb nc : Nat) (br : Nat → Int64) (e x dd f : Int32) : Nat → Int64
  | 0 => Tp5 g nb nc x f
  | k + 1 => Trs g nb nc br e x dd f k - Tuse g br k e x dd f (Trs g nb nc br e x dd f k)
/-- the model's longs show the case that was reckoned last -/
def Res (g : Nat → Int32) (m nb nc nk : Nat) (br : Nat → Int64) (e x dd f : Int32) (J : JM) : Prop :=
  (J (m + 9) 0 = Tp0 g x f ∧ J (m + 9) 1 = Tp1 g x f ∧ J (m + 9) 2 = Tp2 g nb x f ∧ J (m + 9) 3 = Tp3 g x f ∧ J (m + 9) 4 = Tp4 g nb x f ∧ J (m + 9) 5 = Tp5 g nb nc x f)
  ∧ (∀ k, k < 6 → J (m + 10) k = br k)
  ∧ ∀ k, k < nk → J (m + 11) k = Tval g k e x dd f ∧ J (m + 12) k = Tuse g br k e x dd f (Trs g nb nc br e x dd f k) ∧ J (m + 13) k = Trs g nb nc br e x dd f (k + 1)
/-- the same longs but in the reckoning's rows -/
def Sc (m : Nat) (J J' : JM) : Prop := ∀ a, a ≠ m + 9 → a ≠ m + 10 → a ≠ m + 11 → a ≠ m + 12 → a ≠ m + 13 → J' a = J a
theorem Sc.rf {m : Nat} {J : JM} : Sc m J J := fun _ _ _ _ _ _ => rfl
theorem Sc.tr {m : Nat} {J J' J'' : JM} (h : Sc m J J') (h2 : Sc m J' J'') : Sc m J J'' := fun a h1 h3 h4 h5 h6 => (h2 a h1 h3 h4 h5 h6).trans (h a h1 h3 h4 h5 h6)
theorem Sc.h {m : Nat} {J J' : JM} (h : Sc m J J') : J' (m + 2) = J (m + 2) := h _ (by omega) (by omega) (by omega) (by omega) (by omega)
theorem Sc.x {m : Nat} {J J' : JM} (h : Sc m J J') : J' (m + 14) = J (m + 14) := h _ (by omega) (by omega) (by omega) (by omega) (by omega)
theorem Tcr_ok (g : Nat → Int32) (m nb nc nk : Nat) (hnk : nk ≤ 6) (br : Nat → Int64) (e x dd f : Int32) : ∀ (n k : Nat) (J : JM), k + n = nk → (∀ j, j < 6 → J (m + 10) j = br j) →
    (∀ j, j < k → J (m + 11) j = Tval g j e x dd f ∧ J (m + 12) j = Tuse g br j e x dd f (Trs g nb nc br e x dd f j) ∧ J (m + 13) j = Trs g nb nc br e x dd f (j + 1)) →
    (Tcr g m e x dd f k n (Trs g nb nc br e x dd f k) J).1 = Trs g nb nc br e x dd f nk ∧
    (∀ j, j < nk → (Tcr g m e x dd f k n (Trs g nb nc br e x dd f k) J).2 (m + 11) j = Tval g j e x dd f ∧ (Tcr g m e x dd f k n (Trs g nb nc br e x dd f k) J).2 (m + 12) j = Tuse g br j e x dd f (Trs g nb nc br e x dd f j) ∧ (Tcr g m e x dd f k n (Trs g nb nc br e x dd f k) J).2 (m + 13) j = Trs g nb nc br e x dd f (j + 1)) ∧
    ∀ a, a ≠ m + 11 → a ≠ m + 12 → a ≠ m + 13 → (Tcr g m e x dd f k n (Trs g nb nc br e x dd f k) J).2 a = J a := by
  intro n
  induction n with
  | zero =>
    intro k J hk hb hr
    have hk : k = nk := by omega
    subst hk
    exact ⟨rfl, hr, fun _ _ _ _ => rfl⟩
  | succ n ih =>
    intro k J hk hb hr
    have e1 : J (m + 10) k = br k := hb k (by omega)
    rw [Tcr]
    rw [e1]
    have e2 : Trs g nb nc br e x dd f k - (if g (28 + 6 * k) = 1 then Tval g k e x dd f + (if g (28 + 6 * k) = 2 then br k else 0) else Tles (Tval g k e x dd f + (if g (28 + 6 * k) = 2 then br k else 0)) (Tpos (Trs g nb nc br e x dd f k))) = Trs g nb nc br e x dd f (k + 1) := rfl
    have e3 : (if g (28 + 6 * k) = 1 then Tval g k e x dd f + (if g (28 + 6 * k) = 2 then br k else 0) else Tles (Tval g k e x dd f + (if g (28 + 6 * k) = 2 then br k else 0)) (Tpos (Trs g nb nc br e x dd f k))) = Tuse g br k e x dd f (Trs g nb nc br e x dd f k) := rfl
    rw [e2, e3]
    have n1 : m + 11 ≠ m + 12 := by omega
    have n2 : m + 11 ≠ m + 13 := by omega
    have n3 : m + 12 ≠ m + 13 := by omega
    have n4 : m + 12 ≠ m + 11 := by omega
    have n5 : m + 10 ≠ m + 11 := by omega
    have n6 : m + 10 ≠ m + 12 := by omega
    have n7 : m + 10 ≠ m + 13 := by omega
    have n8 : m + 13 ≠ m + 11 := by omega
    have n9 : m + 13 ≠ m + 12 := by omega
    obtain ⟨r1, r2, r3⟩ := ih (k + 1) (u2 (u2 (u2 J (m + 11) k (Tval g k e x dd f)) (m + 12) k (Tuse g br k e x dd f (Trs g nb nc br e x dd f k))) (m + 13) k (Trs g nb nc br e x dd f (k + 1))) (by omega)
      (fun j hj => by rw [u2a _ _ _ _ n7, u2a _ _ _ _ n6, u2a _ _ _ _ n5]; exact hb j hj)
      (fun j hj => by
        by_cases hjk : j = k
        · subst hjk
          refine ⟨?_, ?_, ?_⟩
          · rw [u2a _ _ _ _ n2, u2a _ _ _ _ n1, u2s]
          · rw [u2a _ _ _ _ n3, u2s]
          · rw [u2s]
        · obtain ⟨a1, a2, a3⟩ := hr j (by omega)
          refine ⟨?_, ?_, ?_⟩
          · rw [u2a _ _ _ _ n2, u2a _ _ _ _ n1, u2k _ _ _ hjk]; exact a1
          · rw [u2a _ _ _ _ n3, u2k _ _ _ hjk, u2a _ _ _ _ n4]; exact a2
          · rw [u2k _ _ _ hjk, u2a _ _ _ _ n9, u2a _ _ _ _ n8]; exact a3)
    refine ⟨r1, r2, fun a b1 b2 b3 => ?_⟩
    rw [r3 a b1 b2 b3, u2_off _ _ _ b3, u2_off _ _ _ b2, u2_off _ _ _ b1]
section MT4
variable {S N : Nat → Nat} {d : Nat} {I : IM} {J : JM} {P : PM} {Q : Option Value → IM → JM → PM → Prop} {m : Nat}
theorem s_case (hm : MdS S N P m) {nb nc nk : Nat} (hc : Cnt (I (m + 1)) nb nc nk) {e x dd f : Int32} (br : Nat → Int64) (hb : ∀ k, k < 6 → J (m + 10) k = br k)
    (hq : ∀ J', Sc m J J' → Res (I (m + 1)) m nb nc nk br e x dd f J' → Q (some (.long (Trs (I (m + 1)) nb nc br e x dd f nk))) I J' P) : CWp S N (d + 2) MX9_taxOf [.ref m, .int e, .int x, .int dd, .int f] I J P Q := by
  rw [s_taxOf hm hc]
  have n9 : ∀ {α : Type} (v : α), m + 10 ≠ m + 9 := fun _ => by omega
  have hj : ∀ a, a ≠ m + 9 → Tj (I (m + 1)) m nb nc x f J a = J a := fun a h => by
    unfold Tj
    rw [u2_off _ _ _ h, u2_off _ _ _ h, u2_off _ _ _ h, u2_off _ _ _ h, u2_off _ _ _ h, u2_off _ _ _ h]
  obtain ⟨r1, r2, r3⟩ := Tcr_ok (I (m + 1)) m nb nc nk hc.2.2.1 br e x dd f nk 0 (Tj (I (m + 1)) m nb nc x f J) (by omega) (fun j hj2 => by rw [hj _ (by omega)]; exact hb j hj2) (fun j hj2 => absurd hj2 (Nat.not_lt_zero j))
  have e0 : Trs (I (m + 1)) nb nc br e x dd f 0 = Tp5 (I (m + 1)) nb nc x f := rfl
  rw [e0] at r1 r2 r3
  rw [r1]
  refine hq _ (fun a h1 h2 h3 h4 h5 => ?_) ⟨?_, fun k hk => ?_, r2⟩
  · rw [r3 a h3 h4 h5, hj a h1]
  · rw [r3 (m + 9) (by omega) (by omega) (by omega)]
    unfold Tj
    refine ⟨?_, ?_, ?_, ?_, ?_, ?_⟩
    · rw [u2k _ _ _ (by decide), u2k _ _ _ (by decide), u2k _ _ _ (by decide), u2k _ _ _ (by decide), u2k _ _ _ (by decide), u2s]
    · rw [u2k _ _ _ (by decide), u2k _ _ _ (by decide), u2k _ _ _ (by decide), u2k _ _ _ (by decide), u2s]
    · rw [u2k _ _ _ (by decide), u2k _ _ _ (by decide), u2k _ _ _ (by decide), u2s]
    · rw [u2k _ _ _ (by decide), u2k _ _ _ (by decide), u2s]
    · rw [u2k _ _ _ (by decide), u2s]
    · rw [u2s]
  · rw [r3 (m + 10) (by omega) (by omega) (by omega), hj _ (by omega)]
    exact hb k hk
theorem s_of (hm : MdS S N P m) {p j : Nat} (hp : p < 6) (hj : j < 3) : CWp S N d MX9_of [.ref m, .int (nI p), .int (nI j)] I J P Q ↔ Q (some (.int (I (m + 1) (64 + 3 * p + j)))) I J P := by
  unfold MdS at hm
  rw [c_X9_of]
  have e : (64 : Int32) + 3 * nI p + nI j = nI (64 + 3 * p + j) := nIx2 (a := 64) (b := 3) p
  simp only [e_X9_of_0, e_X9_of_1, e_X9_of_4, e_X9_of_6, e_X9_of_7, e_X9_of_8, e_X9_of_9, e_X9_of_10, e_X9_of_11, e_X9_of_12, e_X9_of_13, hm, true_and, rf_s, e, nI_clamp (show 64 + 3 * p + j < 2 ^ 31 by omega), vp_in_nI (show 64 + 3 * p + j < 89 by omega) (show 89 < 2 ^ 31 by decide)]
theorem brings_loop1 (hm : MdS S N P m) {p : Nat} (hp : p < 6) (h : Nat → Int64) : ∀ (n k : Nat) (J : JM), k + n = 6 → J (m + 2) = h → (∀ j, j < k → J (m + 10) j = h (6 * p + j) + 0) → (∀ J', (∀ a, a ≠ m + 10 → J' a = J a) → (∀ j, j < 6 → J' (m + 10) j = h (6 * p + j) + 0) → Q none I J' P) →
    Wp S N d MX9_brings 2 [some (.ref m), some (.int (nI p)), some (.int (-1)), some (.int (nI k))] [] I J P Q := by
  unfold MdS at hm
  intro n
  induction n with
  | zero =>
    intro k J hk hh hr hq
    have hk : k = 6 := by omega
    subst hk
    have g1 : (6 : Int32) ≤ nI 6 := by decide
    simp only [e_X9_brings_0, e_X9_brings_1, e_X9_brings_2, e_X9_brings_3, e_X9_brings_5, e_X9_brings_8, e_X9_brings_9, e_X9_brings_12, e_X9_brings_13, e_X9_brings_14, e_X9_brings_17, e_X9_brings_19, e_X9_brings_20, e_X9_brings_21, e_X9_brings_22, e_X9_brings_23, e_X9_brings_24, e_X9_brings_25, e_X9_brings_28, e_X9_brings_29, e_X9_brings_32, e_X9_brings_33, e_X9_brings_36, e_X9_brings_38, e_X9_brings_39, e_X9_brings_40, e_X9_brings_41, e_X9_brings_42, e_X9_brings_43, e_X9_brings_44, e_X9_brings_45, e_X9_brings_48, e_X9_brings_51, g1, not_true_eq_false, true_implies, false_implies, and_true]
    exact hq J (fun _ _ => rfl) hr
  | succ n ih =>
    intro k J hk hh hr hq
    have g1 : ¬ (6 : Int32) ≤ nI k := nI_ge (a := k) (b := 6) (by omega) (by decide)
    have g2 : ¬ (0 : Int32) ≤ -1 := by decide
    have q1 : (6 : Int32) * nI p + nI k = nI (6 * p + k) := by rw [show (6 : Int32) = nI 6 from rfl, pk_mul, nI_add]
    have n1 : m + 2 ≠ m + 10 := by omega
    rw [e_X9_brings_2]
    simp only [e_X9_brings_0, e_X9_brings_1, e_X9_brings_3, e_X9_brings_5, e_X9_brings_8, e_X9_brings_9, e_X9_brings_12, e_X9_brings_13, e_X9_brings_14, e_X9_brings_17, e_X9_brings_19, e_X9_brings_20, e_X9_brings_21, e_X9_brings_22, e_X9_brings_23, e_X9_brings_24, e_X9_brings_25, e_X9_brings_28, e_X9_brings_29, e_X9_brings_32, e_X9_brings_33, e_X9_brings_36, e_X9_brings_38, e_X9_brings_39, e_X9_brings_40, e_X9_brings_41, e_X9_brings_42, e_X9_brings_43, e_X9_brings_44, e_X9_brings_45, e_X9_brings_48, e_X9_brings_51, hm, true_and, rf_s, g1, g2, nI_1, q1, nI_clamp (show k < 2 ^ 31 by omega), nI_clamp (show 6 * p + k < 2 ^ 31 by omega), vp_in_nI (show k < 6 by omega) (show 6 < 2 ^ 31 by decide), vp_in_nI (show 6 * p + k < 36 by omega) (show 36 < 2 ^ 31 by decide), not_true_eq_false, not_false_eq_true, true_implies, false_implies, and_true, kl_i, kl_n, kl_l, kl_r, hh]
    refine ih (k + 1) _ (by omega) (by rw [u2_off _ _ _ n1]; exact hh) (fun j hj => ?_) (fun J' a1 a2 => hq J' (fun a ha => by rw [a1 a ha, u2_off _ _ _ ha]) a2)
    by_cases hjk : j = k
    · subst hjk
      rw [u2s]
    · rw [u2k _ _ _ hjk]
      exact hr j (by omega)
theorem s_brings1 (hm : MdS S N P m) {p : Nat} (hp : p < 6) (hq : ∀ J', (∀ a, a ≠ m + 10 → J' a = J a) → (∀ j, j < 6 → J' (m + 10) j = J (m + 2) (6 * p + j) + 0) → Q none I J' P) : CWp S N d MX9_brings [.ref m, .int (nI p), .int (-1)] I J P Q := by
  rw [c_X9_brings]
  simp only [e_X9_brings_0, e_X9_brings_1, kl_i]
  exact brings_loop1 hm hp (J (m + 2)) 6 0 J (by omega) rfl (fun j hj => absurd hj (Nat.not_lt_zero j)) hq
theorem brings_loop2 (hm : MdS S N P m) {p q : Nat} (hp : p < 6) (hq6 : q < 6) (h : Nat → Int64) : ∀ (n k : Nat) (J : JM), k + n = 6 → J (m + 2) = h → (∀ j, j < k → J (m + 10) j = h (6 * p + j) + h (6 * q + j)) → (∀ J', (∀ a, a ≠ m + 10 → J' a = J a) → (∀ j, j < 6 → J' (m + 10) j = h (6 * p + j) + h (6 * q + j)) → Q none I J' P) →
    Wp S N d MX9_brings 2 [some (.ref m), some (.int (nI p)), some (.int (nI q)), some (.int (nI k))] [] I J P Q := by
  unfold MdS at hm
  intro n
  induction n with
  | zero =>
    intro k J hk hh hr hq
    have hk : k = 6 := by omega
    subst hk
    have g1 : (6 : Int32) ≤ nI 6 := by decide
    simp only [e_X9_brings_0, e_X9_brings_1, e_X9_brings_2, e_X9_brings_3, e_X9_brings_5, e_X9_brings_8, e_X9_brings_9, e_X9_brings_12, e_X9_brings_13, e_X9_brings_14, e_X9_brings_17, e_X9_brings_19, e_X9_brings_20, e_X9_brings_21, e_X9_brings_22, e_X9_brings_23, e_X9_brings_24, e_X9_brings_25, e_X9_brings_28, e_X9_brings_29, e_X9_brings_32, e_X9_brings_33, e_X9_brings_36, e_X9_brings_38, e_X9_brings_39, e_X9_brings_40, e_X9_brings_41, e_X9_brings_42, e_X9_brings_43, e_X9_brings_44, e_X9_brings_45, e_X9_brings_48, e_X9_brings_51, g1, not_true_eq_false, true_implies, false_implies, and_true]
    exact hq J (fun _ _ => rfl) hr
  | succ n ih =>
    intro k J hk hh hr hq
    have g1 : ¬ (6 : Int32) ≤ nI k := nI_ge (a := k) (b := 6) (by omega) (by decide)
    have g2 : (0 : Int32) ≤ nI q := nI_pos' (by omega)
    have q1 : (6 : Int32) * nI p + nI k = nI (6 * p + k) := by rw [show (6 : Int32) = nI 6 from rfl, pk_mul, nI_add]
    have q2 : (6 : Int32) * nI q + nI k = nI (6 * q + k) := by rw [show (6 : Int32) = nI 6 from rfl, pk_mul, nI_add]
    have n1 : m + 2 ≠ m + 10 := by omega
    rw [e_X9_brings_2]
    simp only [e_X9_brings_0, e_X9_brings_1, e_X9_brings_3, e_X9_brings_5, e_X9_brings_8, e_X9_brings_9, e_X9_brings_12, e_X9_brings_13, e_X9_brings_14, e_X9_brings_17, e_X9_brings_19, e_X9_brings_20, e_X9_brings_21, e_X9_brings_22, e_X9_brings_23, e_X9_brings_24, e_X9_brings_25, e_X9_brings_28, e_X9_brings_29, e_X9_brings_32, e_X9_brings_33, e_X9_brings_36, e_X9_brings_38, e_X9_brings_39, e_X9_brings_40, e_X9_brings_41, e_X9_brings_42, e_X9_brings_43, e_X9_brings_44, e_X9_brings_45, e_X9_brings_48, e_X9_brings_51, hm, true_and, rf_s, g1, g2, nI_1, q1, q2, nI_clamp (show k < 2 ^ 31 by omega), nI_clamp (show 6 * p + k < 2 ^ 31 by omega), nI_clamp (show 6 * q + k < 2 ^ 31 by omega), vp_in_nI (show k < 6 by omega) (show 6 < 2 ^ 31 by decide), vp_in_nI (show 6 * p + k < 36 by omega) (show 36 < 2 ^ 31 by decide), vp_in_nI (show 6 * q + k < 36 by omega) (show 36 < 2 ^ 31 by decide), not_true_eq_false, not_false_eq_true, true_implies, false_implies, and_true, kl_i, kl_n, kl_l, kl_r, hh]
    refine ih (k + 1) _ (by omega) (by rw [u2_off _ _ _ n1]; exact hh) (fun j hj => ?_) (fun J' a1 a2 => hq J' (fun a ha => by rw [a1 a ha, u2_off _ _ _ ha]) a2)
    by_cases hjk : j = k
    · subst hjk
      rw [u2s]
    · rw [u2k _ _ _ hjk]
      exact hr j (by omega)
theorem s_brings2 (hm : MdS S N P m) {p q : Nat} (hp : p < 6) (hq6 : q < 6) (hq : ∀ J', (∀ a, a ≠ m + 10 → J' a = J a) → (∀ j, j < 6 → J' (m + 10) j = J (m + 2) (6 * p + j) + J (m + 2) (6 * q + j)) → Q none I J' P) : CWp S N d MX9_brings [.ref m, .int (nI p), .int (nI q)] I J P Q := by
  rw [c_X9_brings]
  simp only [e_X9_brings_0, e_X9_brings_1, kl_i]
  exact brings_loop2 hm hp hq6 (J (m + 2)) 6 0 J (by omega) rfl (fun j hj => absurd hj (Nat.not_lt_zero j)) hq
/-- what a person brings: alone, and together with another one -/
def Br1 (h : Nat → Int64) (p : Nat) : Nat → Int64 := fun k => h (6 * p + k) + 0
def Br2 (h : Nat → Int64) (p q : Nat) : Nat → Int64 := fun k => h (6 * p + k) + h (6 * q + k)
theorem s_alone (hm : MdS S N P m) {nb nc nk : Nat} (hc : Cnt (I (m + 1)) nb nc nk) {p : Nat} (hp : p < 6) {e dd : Int32}
    (hq : ∀ J', Sc m J J' → Res (I (m + 1)) m nb nc nk (Br1 (J (m + 2)) p) e (e + I (m + 1) (65 + 3 * p)) dd 1 J' → Q (some (.long (Trs (I (m + 1)) nb nc (Br1 (J (m + 2)) p) e (e + I (m + 1) (65 + 3 * p)) dd 1 nk))) I J' P) : CWp S N (d + 3) MX9_alone [.ref m, .int (nI p), .int e, .int dd] I J P Q := by
  rw [c_X9_alone]
  have hm0 := hm
  unfold MdS at hm
  have c1 := fun (d : Nat) (J : JM) (Q : Option Value → IM → JM → PM → Prop) => s_of (S := S) (N := N) (d := d) (I := I) (J := J) (Q := Q) hm0 hp (show 1 < 3 by decide)
  simp only [show nI 1 = (1 : Int32) from rfl, show 64 + 3 * p + 1 = 65 + 3 * p by omega] at c1
  simp only [e_X9_alone_0, e_X9_alone_1, e_X9_alone_2, e_X9_alone_3, hm, true_and]
  refine s_brings1 hm0 hp (fun J1 a1 a2 => ?_)
  simp only [e_X9_alone_6, e_X9_alone_7, e_X9_alone_8, e_X9_alone_9, e_X9_alone_10, e_X9_alone_11, e_X9_alone_12, e_X9_alone_15, e_X9_alone_16, e_X9_alone_17, e_X9_alone_18, e_X9_alone_21, hm, true_and, c1, Option.toList, List.cons_append, List.nil_append]
  refine s_case hm0 hc (Br1 (J (m + 2)) p) (fun k hk => a2 k hk) (fun J2 b1 b2 => ?_)
  simp only [e_X9_alone_21, Option.toList, List.cons_append, List.nil_append]
  exact hq J2 (fun a h1 h2 h3 h4 h5 => (b1 a h1 h2 h3 h4 h5).trans (a1 a h2)) b2
theorem s_taxOfPerson (hm : MdS S N P m) {nb nc nk : Nat} (hc : Cnt (I (m + 1)) nb nc nk) {p : Nat} (hp : p < 6)
    (hq : ∀ J', Sc m J J' → Res (I (m + 1)) m nb nc nk (Br1 (J (m + 2)) p) (I (m + 1) (64 + 3 * p)) (I (m + 1) (64 + 3 * p) + I (m + 1) (65 + 3 * p)) (I (m + 1) (66 + 3 * p)) 1 J' → Q (some (.long (Trs (I (m + 1)) nb nc (Br1 (J (m + 2)) p) (I (m + 1) (64 + 3 * p)) (I (m + 1) (64 + 3 * p) + I (m + 1) (65 + 3 * p)) (I (m + 1) (66 + 3 * p)) 1 nk))) I J' P) : CWp S N (d + 4) MX9_taxOfPerson [.ref m, .int (nI p)] I J P Q := by
  rw [c_X9_taxOfPerson]
  have hm0 := hm
  unfold MdS at hm
  have c0 := fun (d : Nat) (J : JM) (Q : Option Value → IM → JM → PM → Prop) => s_of (S := S) (N := N) (d := d) (I := I) (J := J) (Q := Q) hm0 hp (show 0 < 3 by decide)
  have c2 := fun (d : Nat) (J : JM) (Q : Option Value → IM → JM → PM → Prop) => s_of (S := S) (N := N) (d := d) (I := I) (J := J) (Q := Q) hm0 hp (show 2 < 3 by decide)
  simp only [show nI 0 = (0 : Int32) from rfl, Nat.add_zero] at c0
  simp only [show nI 2 = (2 : Int32) from rfl, show 64 + 3 * p + 2 = 66 + 3 * p by omega] at c2
  simp only [e_X9_taxOfPerson_0, e_X9_taxOfPerson_1, e_X9_taxOfPerson_2, e_X9_taxOfPerson_3, e_X9_taxOfPerson_4, e_X9_taxOfPerson_5, e_X9_taxOfPerson_8, e_X9_taxOfPerson_9, e_X9_taxOfPerson_10, e_X9_taxOfPerson_11, e_X9_taxOfPerson_14, e_X9_taxOfPerson_17, hm, true_and, c0, c2, Option.toList, List.cons_append, List.nil_append]
  refine s_alone hm0 hc hp (fun J1 a1 a2 => ?_)
  simp only [e_X9_taxOfPerson_0, e_X9_taxOfPerson_1, e_X9_taxOfPerson_2, e_X9_taxOfPerson_3, e_X9_taxOfPerson_4, e_X9_taxOfPerson_5, e_X9_taxOfPerson_8, e_X9_taxOfPerson_9, e_X9_taxOfPerson_10, e_X9_taxOfPerson_11, e_X9_taxOfPerson_14, e_X9_taxOfPerson_17, Option.toList, List.cons_append, List.nil_append]
  exact hq J1 a1 a2
end MT4

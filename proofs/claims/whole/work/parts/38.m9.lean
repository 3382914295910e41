/-! the model's years -/
/-- what a person carries behind a year -/
def Nx (g : Nat → Int32) (h : Nat → Int64) (nb nc nk p k : Nat) : Int64 :=
  if g (82 + p) < 0 then Tun g nb nc (Br1 h p) (g (64 + 3 * p)) (g (64 + 3 * p) + g (65 + 3 * p)) (g (66 + 3 * p)) 1 k 2
  else if TxJ g h nb nc nk (lo p (g (82 + p)).toNatClampNeg) (hi p (g (82 + p)).toNatClampNeg) < (Tdv g h nb nc nk (lo p (g (82 + p)).toNatClampNeg) (hi p (g (82 + p)).toNatClampNeg)).1 then
    (if Fst g p = p then Tun g nb nc (Br2 h p (g (82 + p)).toNatClampNeg) (g (64 + 3 * p) + g (64 + 3 * (g (82 + p)).toNatClampNeg)) (g (64 + 3 * p) + g (64 + 3 * (g (82 + p)).toNatClampNeg) + g (65 + 3 * p) + g (65 + 3 * (g (82 + p)).toNatClampNeg)) (g (66 + 3 * p) + g (66 + 3 * (g (82 + p)).toNatClampNeg)) 2 k 2 else 0)
  else if Fst g p = p then Tun g nb nc (Br1 h p) (g (64 + 3 * p)) (g (64 + 3 * p) + g (65 + 3 * p)) (nI (Tdv g h nb nc nk (lo p (g (82 + p)).toNatClampNeg) (hi p (g (82 + p)).toNatClampNeg)).2) 1 k 2
  else Tun g nb nc (Br1 h p) (g (64 + 3 * p)) (g (64 + 3 * p) + g (65 + 3 * p)) (nI (AllD g (lo p (g (82 + p)).toNatClampNeg) (hi p (g (82 + p)).toNatClampNeg) - (Tdv g h nb nc nk (lo p (g (82 + p)).toNatClampNeg) (hi p (g (82 + p)).toNatClampNeg)).2)) 1 k 2
/-- the same longs but in the reckoning's rows and in 'next' -/
def Sx (m : Nat) (J J' : JM) : Prop := ∀ a, a ≠ m + 9 → a ≠ m + 10 → a ≠ m + 11 → a ≠ m + 12 → a ≠ m + 13 → a ≠ m + 14 → J' a = J a
theorem Sx.tr {m : Nat} {J J' J'' : JM} (h : Sx m J J') (h2 : Sx m J' J'') : Sx m J J'' := fun a h1 h3 h4 h5 h6 h7 => (h2 a h1 h3 h4 h5 h6 h7).trans (h a h1 h3 h4 h5 h6 h7)
theorem Sx.of {m : Nat} {J J' : JM} (h : Sc m J J') : Sx m J J' := fun a h1 h3 h4 h5 h6 _ => h a h1 h3 h4 h5 h6
theorem Sx.on {m : Nat} {J J' : JM} (h : ∀ a, a ≠ m + 14 → J' a = J a) : Sx m J J' := fun a _ _ _ _ _ h7 => h a h7
theorem Sx.rf {m : Nat} {J : JM} : Sx m J J := fun _ _ _ _ _ _ _ => rfl
theorem Sx.h {m : Nat} {J J' : JM} (h : Sx m J J') : J' (m + 2) = J (m + 2) := h _ (by omega) (by omega) (by omega) (by omega) (by omega) (by omega)
theorem Res.on {g : Nat → Int32} {m nb nc nk : Nat} {br : Nat → Int64} {e x dd f : Int32} {J J' : JM} (h : Res g m nb nc nk br e x dd f J) (hj : ∀ a, a ≠ m + 14 → J' a = J a) : Res g m nb nc nk br e x dd f J' := by
  unfold Res
  rw [hj (m + 9) (by omega), hj (m + 10) (by omega), hj (m + 11) (by omega), hj (m + 12) (by omega), hj (m + 13) (by omega)]
  exact h
theorem Tap_le (s : Nat → Int64) : ∀ n, (Tap s n).2 ≤ n
  | 0 => Nat.le_refl _
  | n + 1 => by
    unfold Tap
    split
    · exact Nat.le_refl _
    · exact Nat.le_succ_of_le (Tap_le s n)
section MT9
variable {S N : Nat → Nat} {d : Nat} {I : IM} {J : JM} {P : PM} {Q : Option Value → IM → JM → PM → Prop} {m : Nat} {g : Nat → Int32} {h : Nat → Int64} {nb nc nk : Nat}
theorem carries_loop (hm : MdS S N P m) (hg : I (m + 1) = g) (hc : Cnt g nb nc nk) {p : Nat} (hp : p < 6) {br : Nat → Int64} {e x dd f : Int32} : ∀ (n k : Nat), k + n = nk → ∀ (J : JM), Res g m nb nc nk br e x dd f J → (∀ j, j < k → J (m + 14) (6 * p + j) = Tun g nb nc br e x dd f j 2) →
    (∀ J', (∀ a, a ≠ m + 14 → J' a = J a) → (∀ j, j < nk → J' (m + 14) (6 * p + j) = Tun g nb nc br e x dd f j 2) → (∀ j, j < 6 * p + k ∨ 6 * p + nk ≤ j → J' (m + 14) j = J (m + 14) j) → Q none I J' P) →
    Wp S N (d + 2) MX9_carries 2 [some (.ref m), some (.int (nI p)), some (.int (nI k))] [] I J P Q := by
  have hm0 := hm
  unfold MdS at hm
  have i0 : vp_in (27 : Int32) 89 := vp_in_nI (n := 27) (by decide) (by decide)
  have e0 : (27 : Int32).toNatClampNeg = 27 := rfl
  have hnk := hc.2.2.1
  have h27 := hc.2.2.2.2.2
  intro n
  induction n with
  | zero =>
    intro k hk J hr hj hq
    have hk : k = nk := by omega
    subst hk
    have g1 : nI k ≤ nI k := nI_le (Nat.le_refl k) (by omega)
    simp only [e_X9_carries_0, e_X9_carries_1, e_X9_carries_2, e_X9_carries_3, e_X9_carries_4, e_X9_carries_7, e_X9_carries_9, e_X9_carries_10, e_X9_carries_13, e_X9_carries_14, e_X9_carries_17, e_X9_carries_19, e_X9_carries_20, e_X9_carries_21, e_X9_carries_22, e_X9_carries_23, e_X9_carries_24, e_X9_carries_25, e_X9_carries_26, e_X9_carries_29, e_X9_carries_30, e_X9_carries_33, e_X9_carries_36, hm, i0, e0, hg, h27, g1, true_and, and_true, rf_s, not_true_eq_false, not_false_eq_true, true_implies, false_implies, kl_i, kl_n, kl_l, kl_r, Option.toList, List.cons_append, List.nil_append, if_true, if_false, u2s, lt00, lt01, lt02, lt03, le10, le20, le30, ne10, ne20, ne30, eq00]
    exact hq J (fun _ _ => rfl) hj (fun _ _ => rfl)
  | succ n ih =>
    intro k hk J hr hj hq
    have g1 : ¬ nI nk ≤ nI k := nI_ge (by omega) (by omega)
    have q1 : (6 : Int32) * nI p + nI k = nI (6 * p + k) := by rw [show (6 : Int32) = nI 6 from rfl, pk_mul, nI_add]
    have un := fun (d : Nat) (Q : Option Value → IM → JM → PM → Prop) => s_unused (S := S) (N := N) (d := d) (I := I) (J := J) (Q := Q) hm0 hg hr hnk (show k < nk by omega) (show 2 < 6 by decide)
    simp only [show nI 2 = (2 : Int32) from rfl] at un
    rw [e_X9_carries_2]
    simp only [e_X9_carries_0, e_X9_carries_1, e_X9_carries_3, e_X9_carries_4, e_X9_carries_7, e_X9_carries_9, e_X9_carries_10, e_X9_carries_13, e_X9_carries_14, e_X9_carries_17, e_X9_carries_19, e_X9_carries_20, e_X9_carries_21, e_X9_carries_22, e_X9_carries_23, e_X9_carries_24, e_X9_carries_25, e_X9_carries_26, e_X9_carries_29, e_X9_carries_30, e_X9_carries_33, e_X9_carries_36, hm, i0, e0, hg, h27, g1, q1, un, nI_1, nI_clamp (show 6 * p + k < 2 ^ 31 by omega), vp_in_nI (show 6 * p + k < 36 by omega) (show 36 < 2 ^ 31 by decide), true_and, and_true, rf_s, not_true_eq_false, not_false_eq_true, true_implies, false_implies, kl_i, kl_n, kl_l, kl_r, Option.toList, List.cons_append, List.nil_append, if_true, if_false, u2s, lt00, lt01, lt02, lt03, le10, le20, le30, ne10, ne20, ne30, eq00]
    have hon : ∀ a, a ≠ m + 14 → (u2 J (m + 14) (6 * p + k) (Tun g nb nc br e x dd f k 2)) a = J a := fun a ha => u2_off _ _ _ ha
    refine ih (k + 1) (by omega) _ (hr.on hon) (fun j hj2 => ?_) (fun J' a1 a2 a3 => hq J' (fun a ha => (a1 a ha).trans (hon a ha)) a2 (fun j hj2 => ?_))
    · by_cases hjk : j = k
      · subst hjk
        rw [u2s]
      · rw [u2k _ _ _ (by omega)]
        exact hj j (by omega)
    · rw [a3 j (by omega), u2k _ _ _ (by omega)]
theorem s_carries (hm : MdS S N P m) (hg : I (m + 1) = g) (hc : Cnt g nb nc nk) {p : Nat} (hp : p < 6) {br : Nat → Int64} {e x dd f : Int32} (hr : Res g m nb nc nk br e x dd f J)
    (hq : ∀ J', (∀ a, a ≠ m + 14 → J' a = J a) → (∀ j, j < nk → J' (m + 14) (6 * p + j) = Tun g nb nc br e x dd f j 2) → (∀ j, j < 6 * p ∨ 6 * p + nk ≤ j → J' (m + 14) j = J (m + 14) j) → Q none I J' P) : CWp S N (d + 2) MX9_carries [.ref m, .int (nI p)] I J P Q := by
  rw [c_X9_carries]
  simp only [e_X9_carries_0, e_X9_carries_1, kl_i]
  exact carries_loop hm hg hc hp nk 0 (by omega) J hr (fun j hj => absurd hj (Nat.not_lt_zero j)) hq
theorem s_closes1 (hm : MdS S N P m) (hg : I (m + 1) = g) (hh : J (m + 2) = h) (hc : Cnt g nb nc nk) {p : Nat} (hp : p < 6) (hs : g (82 + p) = -1)
    (hq : ∀ J', Sx m J J' → (∀ k, k < nk → J' (m + 14) (6 * p + k) = Nx g h nb nc nk p k) → (∀ j, j < 6 * p ∨ 6 * p + nk ≤ j → J' (m + 14) j = J (m + 14) j) → Q none I J' P) : CWp S N (d + 6) MX9_closes [.ref m, .int (nI p)] I J P Q := by
  rw [c_X9_closes]
  have hm0 := hm
  unfold MdS at hm
  have k1 := nI_clamp (show 82 + p < 2 ^ 31 by omega)
  have k2 := vp_in_nI (show 82 + p < 89 by omega) (show 89 < 2 ^ 31 by decide)
  have g1 : ¬ (0 : Int32) ≤ -1 := by decide
  simp only [e_X9_closes_0, e_X9_closes_1, e_X9_closes_4, e_X9_closes_6, e_X9_closes_7, e_X9_closes_8, e_X9_closes_9, e_X9_closes_10, e_X9_closes_11, e_X9_closes_14, e_X9_closes_15, e_X9_closes_16, hm, q82, k1, k2, hg, hs, g1, true_and, and_true, rf_s, not_true_eq_false, not_false_eq_true, true_implies, false_implies, kl_i, kl_n, kl_l, kl_r, Option.toList, List.cons_append, List.nil_append, if_true, if_false, u2s, lt00, lt01, lt02, lt03, le10, le20, le30, ne10, ne20, ne30, eq00]
  refine s_taxOfPersonG hm0 hg hh hc hp (fun J1 a1 r1 => ?_)
  simp only [e_X9_closes_19, e_X9_closes_20, e_X9_closes_21, e_X9_closes_22, hm, true_and, and_true, rf_s, not_true_eq_false, not_false_eq_true, true_implies, false_implies, kl_i, kl_n, kl_l, kl_r, Option.toList, List.cons_append, List.nil_append, if_true, if_false, u2s, lt00, lt01, lt02, lt03, le10, le20, le30, ne10, ne20, ne30, eq00]
  refine s_carries hm0 hg hc hp r1 (fun J2 b1 b2 b3 => ?_)
  simp only [e_X9_closes_25, e_X9_closes_116, true_and, and_true, rf_s, not_true_eq_false, not_false_eq_true, true_implies, false_implies, kl_i, kl_n, kl_l, kl_r, Option.toList, List.cons_append, List.nil_append, if_true, if_false, u2s, lt00, lt01, lt02, lt03, le10, le20, le30, ne10, ne20, ne30, eq00]
  refine hq J2 ((Sx.of a1).tr (Sx.on b1)) (fun k hk => ?_) (fun j hj => (b3 j hj).trans (by rw [a1.x]))
  unfold Nx
  rw [hs, if_pos neg1]
  exact b2 k hk
theorem s_closes2 (hm : MdS S N P m) (hg : I (m + 1) = g) (hh : J (m + 2) = h) (hc : Cnt g nb nc nk) {p q : Nat} (hcp : Cp g p q) (hlt : p < q) (hz : ∀ k, k < nk → J (m + 14) (6 * q + k) = 0)
    (hq : ∀ I' J', Im m I I' → Sx m J J' → (∀ k, k < nk → J' (m + 14) (6 * p + k) = Nx g h nb nc nk p k) → (∀ k, k < nk → J' (m + 14) (6 * q + k) = Nx g h nb nc nk q k) → (∀ j, (j < 6 * p ∨ 6 * p + nk ≤ j) → (j < 6 * q ∨ 6 * q + nk ≤ j) → J' (m + 14) j = J (m + 14) j) → Q none I' J' P) : CWp S N (d + 6) MX9_closes [.ref m, .int (nI p)] I J P Q := by
  rw [c_X9_closes]
  have hm0 := hm
  unfold MdS at hm
  obtain ⟨hp6, hq6, hne, hpq, hqp, a, b, ha, hb, ha9, hb9⟩ := id hcp
  have k1 := nI_clamp (show 82 + p < 2 ^ 31 by omega)
  have k2 := vp_in_nI (show 82 + p < 89 by omega) (show 89 < 2 ^ 31 by decide)
  have g1 : (0 : Int32) ≤ nI q := nI_pos' (by omega)
  have hl : lo p q = p := by unfold lo; rw [if_neg (by omega)]
  have hhi : hi p q = q := by unfold hi; rw [if_neg (by omega)]
  have hl2 : lo q p = p := by unfold lo; rw [if_pos (by omega)]
  have hhi2 : hi q p = q := by unfold hi; rw [if_pos (by omega)]
  have f1 : ¬ nI q < 0 := Int32.not_lt.mpr g1
  have f2 : ¬ nI p < 0 := nI_pos (by omega)
  have c0 := fun (d : Nat) (J : JM) (Q : Option Value → IM → JM → PM → Prop) (I : IM) (hg : I (m + 1) = g) (r : Nat) (hr : r < 6) => s_of0 (S := S) (N := N) (d := d) (I := I) (J := J) (Q := Q) hm0 hg hr
  have c2 := fun (d : Nat) (J : JM) (Q : Option Value → IM → JM → PM → Prop) (I : IM) (hg : I (m + 1) = g) (r : Nat) (hr : r < 6) => s_of2 (S := S) (N := N) (d := d) (I := I) (J := J) (Q := Q) hm0 hg hr
  have nxp : ∀ k, Nx g h nb nc nk p k = if TxJ g h nb nc nk p q < (Tdv g h nb nc nk p q).1 then Tun g nb nc (Br2 h p q) (g (64 + 3 * p) + g (64 + 3 * q)) (g (64 + 3 * p) + g (64 + 3 * q) + g (65 + 3 * p) + g (65 + 3 * q)) (g (66 + 3 * p) + g (66 + 3 * q)) 2 k 2 else Tun g nb nc (Br1 h p) (g (64 + 3 * p)) (g (64 + 3 * p) + g (65 + 3 * p)) (nI (Tdv g h nb nc nk p q).2) 1 k 2 := fun k => by
    unfold Nx Fst
    simp only [hpq, if_neg f1, nI_clamp (show q < 2 ^ 31 by omega), hl, hhi, if_true]
  have nxq : ∀ k, Nx g h nb nc nk q k = if TxJ g h nb nc nk p q < (Tdv g h nb nc nk p q).1 then 0 else Tun g nb nc (Br1 h q) (g (64 + 3 * q)) (g (64 + 3 * q) + g (65 + 3 * q)) (nI (AllD g p q - (Tdv g h nb nc nk p q).2)) 1 k 2 := fun k => by
    unfold Nx Fst
    simp only [hqp, if_neg f2, nI_clamp (show p < 2 ^ 31 by omega), hl2, hhi2, if_neg (show ¬ p = q by omega)]
  simp only [e_X9_closes_0, e_X9_closes_1, e_X9_closes_4, e_X9_closes_6, e_X9_closes_7, e_X9_closes_8, e_X9_closes_9, e_X9_closes_10, e_X9_closes_11, e_X9_closes_14, e_X9_closes_15, e_X9_closes_16, e_X9_closes_19, e_X9_closes_20, e_X9_closes_21, e_X9_closes_22, e_X9_closes_25, e_X9_closes_28, e_X9_closes_29, e_X9_closes_30, hm, q82, k1, k2, hg, hpq, g1, true_and, and_true, rf_s, not_true_eq_false, not_false_eq_true, true_implies, false_implies, kl_i, kl_n, kl_l, kl_r, Option.toList, List.cons_append, List.nil_append, if_true, if_false, u2s, lt00, lt01, lt02, lt03, le10, le20, le30, ne10, ne20, ne30, eq00]
  refine s_jointlyC hm0 hg hh hc hcp (fun J1 a1 _ => ?_)
  simp only [e_X9_closes_33, e_X9_closes_34, e_X9_closes_35, hm, hl, hhi, true_and, and_true, rf_s, not_true_eq_false, not_false_eq_true, true_implies, false_implies, kl_i, kl_n, kl_l, kl_r, Option.toList, List.cons_append, List.nil_append, if_true, if_false, u2s, lt00, lt01, lt02, lt03, le10, le20, le30, ne10, ne20, ne30, eq00]
  refine s_apartC (h := h) hm0 hg (by rw [a1.h]; exact hh) hc hcp (fun J2 a2 => ?_)
  rw [hl, hhi]
  have hg2 : ∀ v, (u2 I m 21 v) (m + 1) = g := fun v => by rw [u2_off _ _ _ (by omega)]; exact hg
  have hh2 : J2 (m + 2) = h := by rw [a2.h, a1.h]; exact hh
  have x12 : J2 (m + 14) = J (m + 14) := by rw [a2.x, a1.x]
  by_cases hj : TxJ g h nb nc nk p q < (Tdv g h nb nc nk p q).1
  · simp only [e_X9_closes_38, e_X9_closes_39, e_X9_closes_42, e_X9_closes_43, e_X9_closes_44, hm, lc_ge, hj, true_and, and_true, rf_s, not_true_eq_false, not_false_eq_true, true_implies, false_implies, kl_i, kl_n, kl_l, kl_r, Option.toList, List.cons_append, List.nil_append, if_true, if_false, u2s, lt00, lt01, lt02, lt03, le10, le20, le30, ne10, ne20, ne30, eq00]
    refine s_jointlyC (h := h) hm0 (hg2 _) hh2 hc hcp (fun J3 a3 r3 => ?_)
    simp only [e_X9_closes_47, e_X9_closes_48, e_X9_closes_49, e_X9_closes_50, hm, true_and, and_true, rf_s, not_true_eq_false, not_false_eq_true, true_implies, false_implies, kl_i, kl_n, kl_l, kl_r, Option.toList, List.cons_append, List.nil_append, if_true, if_false, u2s, lt00, lt01, lt02, lt03, le10, le20, le30, ne10, ne20, ne30, eq00]
    refine s_carries hm0 (hg2 _) hc hp6 r3 (fun J4 b1 b2 b3 => ?_)
    simp only [e_X9_closes_53, e_X9_closes_116, true_and, and_true, rf_s, not_true_eq_false, not_false_eq_true, true_implies, false_implies, kl_i, kl_n, kl_l, kl_r, Option.toList, List.cons_append, List.nil_append, if_true, if_false, u2s, lt00, lt01, lt02, lt03, le10, le20, le30, ne10, ne20, ne30, eq00]
    refine hq _ J4 (Im.u _) ((((Sx.of a1).tr (Sx.of a2)).tr (Sx.of a3)).tr (Sx.on b1)) (fun k hk => ?_) (fun k hk => ?_) (fun j h1 h2 => ?_)
    · rw [nxp, if_pos hj]
      exact b2 k hk
    · rw [nxq, if_pos hj, b3 _ (by have := hc.2.2.1; omega), a3.x, x12]
      exact hz k hk
    · rw [b3 j h1, a3.x, x12]
  · have hA : AllD g p q = a + b := by unfold AllD; rw [ha, hb, nI_clamp (by omega), nI_clamp (by omega)]
    have hle : (Tdv g h nb nc nk p q).2 ≤ AllD g p q := Tap_le _ _
    have e1 : nI a + nI b = nI (AllD g p q) := by rw [nI_add, hA]
    have e2 : nI (AllD g p q) - nI (Tdv g h nb nc nk p q).2 = nI (AllD g p q - (Tdv g h nb nc nk p q).2) := pk_sub hle
    simp only [e_X9_closes_38, e_X9_closes_39, e_X9_closes_56, e_X9_closes_57, e_X9_closes_58, e_X9_closes_59, e_X9_closes_62, e_X9_closes_63, e_X9_closes_64, e_X9_closes_65, e_X9_closes_68, e_X9_closes_69, e_X9_closes_70, e_X9_closes_71, e_X9_closes_74, e_X9_closes_76, e_X9_closes_77, e_X9_closes_78, e_X9_closes_79, e_X9_closes_80, e_X9_closes_81, e_X9_closes_84, e_X9_closes_86, hm, lc_ge, hj, c0 _ _ _ _ (hg2 _) p hp6, c2 _ _ _ _ (hg2 _) p hp6, c2 _ _ _ _ (hg2 _) q hq6, ha, hb, e1, true_and, and_true, rf_s, not_true_eq_false, not_false_eq_true, true_implies, false_implies, kl_i, kl_n, kl_l, kl_r, Option.toList, List.cons_append, List.nil_append, if_true, if_false, u2s, lt00, lt01, lt02, lt03, le10, le20, le30, ne10, ne20, ne30, eq00]
    refine s_aloneG (h := h) hm0 (hg2 _) hh2 hc hp6 rfl (fun J3 a3 r3 => ?_)
    simp only [e_X9_closes_89, e_X9_closes_90, e_X9_closes_91, e_X9_closes_92, hm, true_and, and_true, rf_s, not_true_eq_false, not_false_eq_true, true_implies, false_implies, kl_i, kl_n, kl_l, kl_r, Option.toList, List.cons_append, List.nil_append, if_true, if_false, u2s, lt00, lt01, lt02, lt03, le10, le20, le30, ne10, ne20, ne30, eq00]
    refine s_carries hm0 (hg2 _) hc hp6 r3 (fun J4 b1 b2 b3 => ?_)
    simp only [e_X9_closes_95, e_X9_closes_96, e_X9_closes_97, e_X9_closes_98, e_X9_closes_99, e_X9_closes_100, e_X9_closes_103, e_X9_closes_104, e_X9_closes_106, e_X9_closes_107, hm, c0 _ _ _ _ (hg2 _) q hq6, e2, true_and, and_true, rf_s, not_true_eq_false, not_false_eq_true, true_implies, false_implies, kl_i, kl_n, kl_l, kl_r, Option.toList, List.cons_append, List.nil_append, if_true, if_false, u2s, lt00, lt01, lt02, lt03, le10, le20, le30, ne10, ne20, ne30, eq00]
    refine s_aloneG (h := h) hm0 (hg2 _) (by rw [(Sx.on b1).h, a3.h]; exact hh2) hc hq6 rfl (fun J5 a5 r5 => ?_)
    simp only [e_X9_closes_110, e_X9_closes_111, e_X9_closes_112, e_X9_closes_113, hm, true_and, and_true, rf_s, not_true_eq_false, not_false_eq_true, true_implies, false_implies, kl_i, kl_n, kl_l, kl_r, Option.toList, List.cons_append, List.nil_append, if_true, if_false, u2s, lt00, lt01, lt02, lt03, le10, le20, le30, ne10, ne20, ne30, eq00]
    refine s_carries hm0 (hg2 _) hc hq6 r5 (fun J6 d1 d2 d3 => ?_)
    simp only [e_X9_closes_116, true_and, and_true, rf_s, not_true_eq_false, not_false_eq_true, true_implies, false_implies, kl_i, kl_n, kl_l, kl_r, Option.toList, List.cons_append, List.nil_append, if_true, if_false, u2s, lt00, lt01, lt02, lt03, le10, le20, le30, ne10, ne20, ne30, eq00]
    have h6 := hc.2.2.1
    refine hq _ J6 (Im.u _) ((((((Sx.of a1).tr (Sx.of a2)).tr (Sx.of a3)).tr (Sx.on b1)).tr (Sx.of a5)).tr (Sx.on d1)) (fun k hk => ?_) (fun k hk => ?_) (fun j h1 h2 => ?_)
    · rw [nxp, if_neg hj, d3 _ (by omega), a5.x]
      exact b2 k hk
    · rw [nxq, if_neg hj]
      exact d2 k hk
    · rw [d3 j h2, a5.x, b3 j h1, a3.x, x12]
end MT9

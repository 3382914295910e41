/-! the model's closing of a year -/
/-- 'next' when the persons below p have been told -/
def NxI (g : Nat → Int32) (h : Nat → Int64) (nb nc nk m p : Nat) (J : JM) : Prop := ∀ r k, r < 6 → k < 6 → J (m + 14) (6 * r + k) = if k < nk ∧ Fst g r < p then Nx g h nb nc nk r k else 0
theorem Fst_le {g : Nat → Int32} (hA : CpA g) {r : Nat} (hr : r < 6) : Fst g r ≤ r ∧ Fst g r < 6 := by
  unfold Fst
  rcases hA r hr with h1 | ⟨q, hcp⟩
  · rw [if_pos (by rw [h1]; exact neg1)]
    exact ⟨Nat.le_refl _, hr⟩
  · rw [if_neg (Int32.not_lt.mpr hcp.ge), hcp.to]
    unfold lo
    split <;> omega
theorem Fst_other {g : Nat → Int32} (hA : CpA g) {r p : Nat} (hr : r < 6) (hp : p < 6) (hne : r ≠ p) (hf : Fst g r = p) : Cp g p r ∧ p < r := by
  unfold Fst at hf
  rcases hA r hr with h1 | ⟨q, hcp⟩
  · rw [if_pos (by rw [h1]; exact neg1)] at hf
    exact absurd hf hne
  · rw [if_neg (Int32.not_lt.mpr hcp.ge), hcp.to] at hf
    unfold lo at hf
    split at hf
    · subst hf
      obtain ⟨h1, h2, h3, h4, h5, a, b, h6, h7, h8, h9⟩ := hcp
      exact ⟨⟨h2, h1, fun z => h3 z.symm, h5, h4, b, a, h7, h6, h9, h8⟩, by omega⟩
    · exact absurd hf hne
theorem Fst_cp {g : Nat → Int32} {p q : Nat} (hcp : Cp g p q) (h : p < q) : Fst g p = p ∧ Fst g q = p := by
  obtain ⟨h1, h2, h3, h4, h5, -⟩ := hcp
  unfold Fst
  rw [h4, h5, if_neg (nI_pos (by omega)), if_neg (nI_pos (by omega)), nI_clamp (by omega), nI_clamp (by omega)]
  unfold lo
  constructor
  · rw [if_neg (by omega)]
  · rw [if_pos h]
section MTC
variable {S N : Nat → Nat} {d : Nat} {I : IM} {J : JM} {P : PM} {Q : Option Value → IM → JM → PM → Prop} {m : Nat} {g : Nat → Int32} {h : Nat → Int64} {nb nc nk : Nat}
theorem cy_l1 (hm : MdS S N P m) : ∀ (n k : Nat), k + n = 36 → ∀ (J : JM), (∀ J', (∀ a, a ≠ m + 14 → J' a = J a) → (∀ j, k ≤ j → j < 36 → J' (m + 14) j = 0) → (∀ j, j < k → J' (m + 14) j = J (m + 14) j) → Wp S N d MX9_closeYear 30 [some (.ref m), some (.int (nI 36))] [] I J' P Q) → Wp S N d MX9_closeYear 11 [some (.ref m), some (.int (nI k))] [] I J P Q := by
  have hm0 := hm
  unfold MdS at hm
  intro n
  induction n with
  | zero =>
    intro k hk J hq
    have hk : k = 36 := by omega
    subst hk
    have g1 : (36 : Int32) ≤ nI 36 := by decide
    simp only [e_X9_closeYear_11, e_X9_closeYear_12, e_X9_closeYear_14, g1, true_and, and_true, rf_s, not_true_eq_false, not_false_eq_true, true_implies, false_implies, kl_i, kl_n, kl_l, kl_r, Option.toList, List.cons_append, List.nil_append, if_true, if_false, u2s, lt00, lt01, lt02, lt03, le10, le20, le30, ne10, ne20, ne30, eq00]
    exact hq J (fun _ _ => rfl) (fun j h1 h2 => by omega) (fun _ _ => rfl)
  | succ n ih =>
    intro k hk J hq
    have g1 : ¬ (36 : Int32) ≤ nI k := nI_ge (a := k) (b := 36) (by omega) (by decide)
    rw [e_X9_closeYear_11]
    simp only [e_X9_closeYear_12, e_X9_closeYear_14, e_X9_closeYear_17, e_X9_closeYear_18, e_X9_closeYear_21, e_X9_closeYear_22, e_X9_closeYear_23, e_X9_closeYear_24, e_X9_closeYear_27, hm, g1, nI_1, nI_clamp (show k < 2 ^ 31 by omega), vp_in_nI (show k < 36 by omega) (show 36 < 2 ^ 31 by decide), true_and, and_true, rf_s, not_true_eq_false, not_false_eq_true, true_implies, false_implies, kl_i, kl_n, kl_l, kl_r, Option.toList, List.cons_append, List.nil_append, if_true, if_false, u2s, lt00, lt01, lt02, lt03, le10, le20, le30, ne10, ne20, ne30, eq00]
    refine ih (k + 1) (by omega) _ (fun J' a1 a2 a3 => hq J' (fun a ha => (a1 a ha).trans (u2_off _ _ _ ha)) (fun j h1 h2 => ?_) (fun j hj => by rw [a3 j (by omega), u2k _ _ _ (by omega)]))
    by_cases hj : j = k
    · subst hj
      rw [a3 j (by omega), u2s]
    · exact a2 j (by omega) h2
theorem cy_l2 (hm : MdS S N P m) (hc : Cnt g nb nc nk) (hA : CpA g) : ∀ (n p : Nat), p + n = 6 → ∀ (I : IM) (J : JM), I (m + 1) = g → J (m + 2) = h → NxI g h nb nc nk m p J → (∀ I' J', Im m I I' → Sx m J J' → NxI g h nb nc nk m 6 J' → Wp S N (d + 7) MX9_closeYear 57 [some (.ref m), some (.int (nI 6))] [] I' J' P Q) → Wp S N (d + 7) MX9_closeYear 32 [some (.ref m), some (.int (nI p))] [] I J P Q := by
  have hm0 := hm
  unfold MdS at hm
  have hnk := hc.2.2.1
  intro n
  induction n with
  | zero =>
    intro p hp I J hg hh hi hq
    have hp : p = 6 := by omega
    subst hp
    have g1 : (6 : Int32) ≤ nI 6 := by decide
    simp only [e_X9_closeYear_32, e_X9_closeYear_33, e_X9_closeYear_35, g1, true_and, and_true, rf_s, not_true_eq_false, not_false_eq_true, true_implies, false_implies, kl_i, kl_n, kl_l, kl_r, Option.toList, List.cons_append, List.nil_append, if_true, if_false, u2s, lt00, lt01, lt02, lt03, le10, le20, le30, ne10, ne20, ne30, eq00]
    exact hq I J Im.rf Sx.rf hi
  | succ n ih =>
    intro p hp I J hg hh hi hq
    have hp6 : p < 6 := by omega
    have g1 : ¬ (6 : Int32) ≤ nI p := nI_ge (a := p) (b := 6) (by omega) (by decide)
    by_cases hf : Fst g p = p
    · simp only [e_X9_closeYear_32, e_X9_closeYear_33, e_X9_closeYear_35, e_X9_closeYear_38, e_X9_closeYear_39, e_X9_closeYear_40, e_X9_closeYear_43, e_X9_closeYear_46, e_X9_closeYear_47, e_X9_closeYear_48, hm, g1, s_isCounted hm0 hg hA hp6, hf, true_and, and_true, rf_s, not_true_eq_false, not_false_eq_true, true_implies, false_implies, kl_i, kl_n, kl_l, kl_r, Option.toList, List.cons_append, List.nil_append, if_true, if_false, u2s, lt00, lt01, lt02, lt03, le10, le20, le30, ne10, ne20, ne30, eq00]
      rcases hA p hp6 with h1 | ⟨q, hcp⟩
      · refine s_closes1 hm0 hg hh hc hp6 h1 (fun J1 a1 a2 a3 => ?_)
        simp only [e_X9_closeYear_51, e_X9_closeYear_54, nI_1, true_and, and_true, rf_s, not_true_eq_false, not_false_eq_true, true_implies, false_implies, kl_i, kl_n, kl_l, kl_r, Option.toList, List.cons_append, List.nil_append, if_true, if_false, u2s, lt00, lt01, lt02, lt03, le10, le20, le30, ne10, ne20, ne30, eq00]
        refine ih (p + 1) (by omega) I J1 hg (by rw [a1.h]; exact hh) (fun r k hr hk => ?_) (fun I' J' b1 b2 => hq I' J' b1 (a1.tr b2))
        by_cases hrp : r = p
        · subst hrp
          by_cases hkn : k < nk
          · rw [if_pos ⟨hkn, by omega⟩]
            exact a2 k hkn
          · rw [if_neg (fun z => hkn z.1), a3 _ (by omega), hi r k hr hk, if_neg (fun z => hkn z.1)]
        · rw [a3 _ (by omega), hi r k hr hk]
          have hne : Fst g r ≠ p := fun z => by
            have h2 := (Fst_other hA hr hp6 hrp z).1.ge
            rw [h1] at h2
            exact absurd h2 (by decide)
          by_cases hc2 : k < nk ∧ Fst g r < p
          · rw [if_pos hc2, if_pos ⟨hc2.1, by omega⟩]
          · rw [if_neg hc2, if_neg (fun z => hc2 ⟨z.1, by omega⟩)]
      · have hlt : p < q := by
          have h2 := hf
          unfold Fst lo at h2
          rw [if_neg (Int32.not_lt.mpr hcp.ge), hcp.to] at h2
          have := hcp.2.2.1
          split at h2 <;> omega
        have hq6 := hcp.2.1
        obtain ⟨f1, f2⟩ := Fst_cp hcp hlt
        refine s_closes2 hm0 hg hh hc hcp hlt (fun k hk => by rw [hi q k hq6 (by omega), if_neg (fun z => by omega)]) (fun I1 J1 a0 a1 a2 a3 a4 => ?_)
        simp only [e_X9_closeYear_51, e_X9_closeYear_54, nI_1, true_and, and_true, rf_s, not_true_eq_false, not_false_eq_true, true_implies, false_implies, kl_i, kl_n, kl_l, kl_r, Option.toList, List.cons_append, List.nil_append, if_true, if_false, u2s, lt00, lt01, lt02, lt03, le10, le20, le30, ne10, ne20, ne30, eq00]
        refine ih (p + 1) (by omega) I1 J1 (by rw [a0.g]; exact hg) (by rw [a1.h]; exact hh) (fun r k hr hk => ?_) (fun I' J' b1 b2 => hq I' J' (a0.tr b1) (a1.tr b2))
        by_cases hkn : k < nk
        · by_cases hrp : r = p
          · subst hrp
            rw [if_pos ⟨hkn, by omega⟩]
            exact a2 k hkn
          · by_cases hrq : r = q
            · subst hrq
              rw [if_pos ⟨hkn, by omega⟩]
              exact a3 k hkn
            · rw [a4 _ (by omega) (by omega), hi r k hr hk]
              have hne : Fst g r ≠ p := fun z => by
                obtain ⟨h2, -⟩ := Fst_other hA hr hp6 hrp z
                have h3 := h2.to
                rw [hcp.to] at h3
                exact hrq h3.symm
              by_cases hc2 : k < nk ∧ Fst g r < p
              · rw [if_pos hc2, if_pos ⟨hc2.1, by omega⟩]
              · rw [if_neg hc2, if_neg (fun z => hc2 ⟨z.1, by omega⟩)]
        · rw [if_neg (fun z => hkn z.1), a4 _ (by omega) (by omega), hi r k hr hk, if_neg (fun z => hkn z.1)]
    · rw [e_X9_closeYear_32]
      simp only [e_X9_closeYear_33, e_X9_closeYear_35, e_X9_closeYear_38, e_X9_closeYear_39, e_X9_closeYear_40, e_X9_closeYear_43, e_X9_closeYear_46, e_X9_closeYear_47, e_X9_closeYear_48, e_X9_closeYear_51, e_X9_closeYear_54, hm, g1, s_isCounted hm0 hg hA hp6, hf, nI_1, true_and, and_true, rf_s, not_true_eq_false, not_false_eq_true, true_implies, false_implies, kl_i, kl_n, kl_l, kl_r, Option.toList, List.cons_append, List.nil_append, if_true, if_false, u2s, lt00, lt01, lt02, lt03, le10, le20, le30, ne10, ne20, ne30, eq00]
      refine ih (p + 1) (by omega) I J hg hh (fun r k hr hk => ?_) hq
      rw [hi r k hr hk]
      have hne : Fst g r ≠ p := fun z => by
        by_cases hrp : r = p
        · subst hrp
          exact hf z
        · obtain ⟨h2, h3⟩ := Fst_other hA hr hp6 hrp z
          exact hf (Fst_cp h2 h3).1
      by_cases hc2 : k < nk ∧ Fst g r < p
      · rw [if_pos hc2, if_pos ⟨hc2.1, by omega⟩]
      · rw [if_neg hc2, if_neg (fun z => hc2 ⟨z.1, by omega⟩)]
theorem s_closeYear (hm : MdS S N P m) (hg : I (m + 1) = g) (hh : J (m + 2) = h) (hc : Cnt g nb nc nk) (hA : CpA g) {pn : Nat} {G : Nat → Nat → Int32} {H : Nat → Nat → Int64} (hp : Pas m I J pn G H)
    (hq : ∀ I' J', (∀ k, I' (m + 1) k = if k = 88 then g 88 + 1 else g k) → (∀ r k, r < 6 → k < nk → J' (m + 2) (6 * r + k) = Nx g h nb nc nk r k) → (∀ a, a ≠ m → a ≠ m + 1 → a ≠ m + 5 → I' a = I a) → (∀ k, k ≠ 7 → k ≠ 8 → k ≠ 21 → I' m k = I m k) → I' m 8 = 0 → (∀ a, a < m + 2 ∨ m + 14 < a ∨ a = m + 4 → J' a = J a) → Pas m I' J' (psn pn) (psh pn G g) (psh pn H h) → Q (some (.int (g 88 + 1))) I' J' P) : CWp S N (d + 7) MX9_closeYear [.ref m] I J P Q := by
  rw [c_X9_closeYear]
  have hm0 := hm
  unfold MdS at hm
  simp only [e_X9_closeYear_0, e_X9_closeYear_1, e_X9_closeYear_2, e_X9_closeYear_5, e_X9_closeYear_6, hm, true_and, and_true, rf_s, not_true_eq_false, not_false_eq_true, true_implies, false_implies, kl_i, kl_n, kl_l, kl_r, Option.toList, List.cons_append, List.nil_append, if_true, if_false, u2s, lt00, lt01, lt02, lt03, le10, le20, le30, ne10, ne20, ne30, eq00]
  have hp2 : Pas m (u2 I m 8 0) J pn G H := ⟨hp.1, by rw [u2k _ _ _ (by decide)]; exact hp.2.1, fun i hi => by rw [u2_off _ _ _ (by omega)]; exact hp.2.2 i hi⟩
  have e0 : (u2 I m 8 0) (m + 1) = g := by rw [u2_off _ _ _ (by omega)]; exact hg
  refine s_changes hm0 hp2 (fun I1 J1 a1 a2 a3 a4 => ?_)
  rw [e0, hh] at a4
  have g1 : I1 (m + 1) = g := by rw [a1 _ (by omega) (by omega)]; exact e0
  have h1 : J1 (m + 2) = h := by rw [a3 _ (by omega)]; exact hh
  simp only [e_X9_closeYear_9, e_X9_closeYear_10, true_and, and_true, rf_s, not_true_eq_false, not_false_eq_true, true_implies, false_implies, kl_i, kl_n, kl_l, kl_r, Option.toList, List.cons_append, List.nil_append, if_true, if_false, u2s, lt00, lt01, lt02, lt03, le10, le20, le30, ne10, ne20, ne30, eq00]
  refine cy_l1 hm0 36 0 rfl J1 (fun J2 b1 b2 _ => ?_)
  simp only [e_X9_closeYear_30, e_X9_closeYear_31, true_and, and_true, rf_s, not_true_eq_false, not_false_eq_true, true_implies, false_implies, kl_i, kl_n, kl_l, kl_r, Option.toList, List.cons_append, List.nil_append, if_true, if_false, u2s, lt00, lt01, lt02, lt03, le10, le20, le30, ne10, ne20, ne30, eq00]
  refine cy_l2 (h := h) hm0 hc hA 6 0 rfl I1 J2 g1 (by rw [b1 _ (by omega)]; exact h1) (fun r k hr hk => ?_) (fun I3 J3 c1 c2 c3 => ?_)
  · rw [b2 _ (by omega) (by omega), if_neg (fun z => absurd z.2 (Nat.not_lt_zero _))]
  have g3 : I3 (m + 1) = g := by rw [c1.g]; exact g1
  have e3 := cy_l3 (S := S) (N := N) (d := d + 7) (I := I3) (J := J3) (P := P) (Q := Q) hm0 36 0 rfl
  rw [cpR_0] at e3
  simp only [e_X9_closeYear_57, e_X9_closeYear_58, true_and, and_true, rf_s, not_true_eq_false, not_false_eq_true, true_implies, false_implies, kl_i, kl_n, kl_l, kl_r, Option.toList, List.cons_append, List.nil_append, if_true, if_false, u2s, lt00, lt01, lt02, lt03, le10, le20, le30, ne10, ne20, ne30, eq00]
  refine e3.mpr ?_
  simp only [e_X9_closeYear_83, e_X9_closeYear_84, e_X9_closeYear_87, e_X9_closeYear_89, e_X9_closeYear_90, e_X9_closeYear_91, e_X9_closeYear_92, e_X9_closeYear_93, e_X9_closeYear_94, e_X9_closeYear_95, e_X9_closeYear_98, e_X9_closeYear_100, e_X9_closeYear_101, hm, g3, cl_88, vl89_88, true_and, and_true, rf_s, not_true_eq_false, not_false_eq_true, true_implies, false_implies, kl_i, kl_n, kl_l, kl_r, Option.toList, List.cons_append, List.nil_append, if_true, if_false, u2s, lt00, lt01, lt02, lt03, le10, le20, le30, ne10, ne20, ne30, eq00]
  obtain ⟨p1, p2, p3⟩ := a4
  have im : ∀ a, a ≠ m → I3 a = I1 a := fun a ha => by funext k; exact c1 a k (fun z => ha z.1)
  refine hq _ _ (fun k => ?_) (fun r k hr hk => ?_) (fun a n1 n2 n3 => ?_) (fun k k1 k2 k3 => ?_) ?_ (fun a ha => ?_) ⟨p1, ?_, fun i hi => ⟨fun k hk => ?_, fun k hk => ?_⟩⟩
  · by_cases hk : k = 88
    · subst hk
      rw [u2s, if_pos rfl]
    · rw [u2k _ _ _ hk, if_neg hk, g3]
  · have h4 := cpR_in J3 (m + 2) (x := 0) (m + 14) 0 (i := 36) (k := 6 * r + k) (by have := hc.2.2.1; omega)
    simp only [Nat.zero_add] at h4
    rw [h4, c3 r k hr (by have := hc.2.2.1; omega), if_pos ⟨hk, (Fst_le hA hr).2⟩]
  · rw [u2_off _ _ _ n2, im a n1, a1 a n1 n3, u2_off _ _ _ n1]
  · rw [u2_off _ _ _ (by omega), c1 m k (fun z => k3 z.2), a2 k k1, u2k _ _ _ k2]
  · rw [u2_off _ _ _ (by omega), c1 m 8 (fun z => absurd z.2 (by decide)), a2 8 (by decide), u2s]
  · rw [cpR_off _ _ _ _ _ (by omega), c2 _ (by omega) (by omega) (by omega) (by omega) (by omega) (by omega), b1 _ (by omega), a3 _ (by omega)]
  · rw [u2_off _ _ _ (by omega), c1 m 7 (fun z => absurd z.2 (by decide))]; exact p2
  · rw [u2_off _ _ _ (by omega), im _ (by omega)]; exact (p3 i hi).1 k hk
  · rw [cpR_off _ _ _ _ _ (by omega), c2 _ (by omega) (by omega) (by omega) (by omega) (by omega) (by omega), b1 _ (by omega)]; exact (p3 i hi).2 k hk
end MTC

/-! the class: ledgers and the history -/
def LeS (S N : Nat → Nat) (P : PM) (l : Nat) (π : Nat → Nat) : Prop :=
  S l = 5 ∧ (P l 0 = some (l + 1) ∧ P l 1 = some (l + 26) ∧ P l 2 = some (l + 27) ∧ P l 3 = some (l + 28) ∧ P l 4 = some (l + 29)) ∧ (S (l + 26) = 10 ∧ S (l + 27) = 10 ∧ S (l + 28) = 10 ∧ S (l + 29) = 10) ∧ (N (l + 26) = 6 ∧ N (l + 27) = 6 ∧ N (l + 28) = 6 ∧ N (l + 29) = 6) ∧ RuS S N P (l + 1) π
theorem LeS.r {S N : Nat → Nat} {P : PM} {l : Nat} {π : Nat → Nat} (h : LeS S N P l π) : RuS S N P (l + 1) π := h.2.2.2.2
def Prs (I : IM) (l : Nat) (g : Nat → Int32) : Prop := I l 5 = g 88 ∧ ∀ p, p < 6 → I (l + 26) p = g (64 + 3 * p) ∧ I (l + 27) p = g (65 + 3 * p) ∧ I (l + 28) p = g (66 + 3 * p) ∧ I (l + 29) p = g (82 + p)
def Led (I : IM) (J : JM) (l : Nat) (π : Nat → Nat) (g : Nat → Int32) (h : Nat → Int64) (nb nc nk : Nat) : Prop := Rul I J (l + 1) π g h nb nc nk ∧ Prs I l g
theorem Prs.cg {I : IM} {l : Nat} {g g' : Nat → Int32} (h : Prs I l g) (hg : ∀ k, 64 ≤ k → k < 89 → g' k = g k) : Prs I l g' := ⟨by rw [hg 88 (by decide) (by decide)]; exact h.1, fun p hp => by
  rw [hg (64 + 3 * p) (by omega) (by omega), hg (65 + 3 * p) (by omega) (by omega), hg (66 + 3 * p) (by omega) (by omega), hg (82 + p) (by omega) (by omega)]
  exact h.2 p hp⟩
theorem Led.cg {I : IM} {J : JM} {l : Nat} {π : Nat → Nat} {g g' : Nat → Int32} {h h' : Nat → Int64} {nb nc nk : Nat} (hb : Cb nb nc nk) (hr : Led I J l π g h nb nc nk) (hg : ∀ k, k < 89 → g' k = g k) (hh : ∀ p k, p < 6 → k < nk → h' (6 * p + k) = h (6 * p + k)) : Led I J l π g' h' nb nc nk := ⟨hr.1.cg hb (fun k hk => hg k (by omega)) hh, hr.2.cg (fun k _ hk => hg k hk)⟩
theorem Prs.on {I I' : IM} {l : Nat} {g : Nat → Int32} (h : Prs I l g) (hI : ∀ a, l ≤ a → a < l + 30 → I' a = I a) : Prs I' l g := by
  unfold Prs
  rw [hI l (by omega) (by omega), hI (l + 26) (by omega) (by omega), hI (l + 27) (by omega) (by omega), hI (l + 28) (by omega) (by omega), hI (l + 29) (by omega) (by omega)]
  exact h
theorem Led.on {S N : Nat → Nat} {P : PM} {I I' : IM} {J J' : JM} {l : Nat} {π : Nat → Nat} {g : Nat → Int32} {h : Nat → Int64} {nb nc nk : Nat} (hs : LeS S N P l π) (hb : Cb nb nc nk) (hr : Led I J l π g h nb nc nk) (hI : ∀ a, l ≤ a → a < l + 30 → I' a = I a) (hJ : ∀ a, l ≤ a → a < l + 30 → J' a = J a) : Led I' J' l π g h nb nc nk := ⟨hr.1.on hs.r hb (fun a h1 h2 => hI a (by omega) (by omega)) (fun a h1 h2 => hJ a (by omega) (by omega)), hr.2.on hI⟩
/-- a number from 0 to n -/
def Bd (x : Int32) (n : Nat) : Prop := ∃ a, a ≤ n ∧ x = nI a
/-- a state that calls may leave -/
def Gd (g : Nat → Int32) (nb nc nk : Nat) : Prop :=
  Cnt g nb nc nk ∧ CpA g ∧ 1 ≤ nb ∧ (∀ k, k < nb → Bd (g (1 + 2 * k)) 9999 ∧ Bd (g (2 + 2 * k)) 999) ∧ (∀ j, j < 5 → Bd (g (13 + j)) 9999) ∧ (Bd (g 15) 999 ∧ Bd (g 17) 999) ∧ (∀ k, k < nc → Bd (g (19 + 2 * k)) 9999 ∧ Bd (g (20 + 2 * k)) 9999)
  ∧ (∀ k, k < nk → Bd (g (28 + 6 * k)) 2 ∧ Bd (g (29 + 6 * k)) 9999 ∧ Bd (g (30 + 6 * k)) 999 ∧ Bd (g (31 + 6 * k)) 9999 ∧ Bd (g (32 + 6 * k)) 999 ∧ Bd (g (33 + 6 * k)) 1) ∧ ∀ p, p < 6 → Bd (g (64 + 3 * p)) 9999 ∧ Bd (g (65 + 3 * p)) 9999 ∧ Bd (g (66 + 3 * p)) 9
theorem Gd.cb {g : Nat → Int32} {nb nc nk : Nat} (h : Gd g nb nc nk) : Cb nb nc nk := ⟨h.1.1, h.1.2.1, h.1.2.2.1⟩
theorem Gd.cg {g g' : Nat → Int32} {nb nc nk : Nat} (h : Gd g nb nc nk) (hg : ∀ k, k < 89 → g' k = g k) : Gd g' nb nc nk := by
  obtain ⟨⟨a1, a2, a3, a4, a5, a6⟩, h2, h3, h4, h5, h6, h7, h8, h9⟩ := h
  refine ⟨⟨a1, a2, a3, by rw [hg 0 (by decide)]; exact a4, by rw [hg 18 (by decide)]; exact a5, by rw [hg 27 (by decide)]; exact a6⟩, fun p hp => ?_, h3, fun k hk => ?_, fun j hj => ?_, ?_, fun k hk => ?_, fun k hk => ?_, fun p hp => ?_⟩
  · rcases h2 p hp with q | ⟨q, hcp⟩
    · exact Or.inl (by rw [hg _ (by omega)]; exact q)
    · refine Or.inr ⟨q, ?_⟩
      obtain ⟨b1, b2, b3, b4, b5, b6⟩ := hcp
      refine ⟨b1, b2, b3, ?_, ?_, ?_⟩
      · rw [hg _ (by omega)]; exact b4
      · rw [hg _ (by omega)]; exact b5
      · rw [hg _ (by omega), hg _ (by omega)]; exact b6
  · rw [hg _ (by omega), hg _ (by omega)]; exact h4 k hk
  · rw [hg _ (by omega)]; exact h5 j hj
  · rw [hg _ (by omega), hg _ (by omega)]; exact h6
  · rw [hg _ (by omega), hg _ (by omega)]; exact h7 k hk
  · rw [hg _ (by omega), hg _ (by omega), hg _ (by omega), hg _ (by omega), hg _ (by omega), hg _ (by omega)]; exact h8 k hk
  · rw [hg _ (by omega), hg _ (by omega), hg _ (by omega)]; exact h9 p hp
/-- the history at hh -/
def HiS (S N : Nat → Nat) (P : PM) (hh : Nat) (πs : Nat → Nat → Nat) : Prop := S hh = 4 ∧ P hh 0 = some (hh + 1) ∧ S (hh + 1) = 13 ∧ N (hh + 1) = 6 ∧ ∀ i, i < 6 → P (hh + 1) i = some (hh + 2 + 30 * i) ∧ LeS S N P (hh + 2 + 30 * i) (πs i)
def Hst (I : IM) (J : JM) (hh : Nat) (πs : Nat → Nat → Nat) (pn o : Nat) (G : Nat → Nat → Int32) (H : Nat → Nat → Int64) : Prop := pn ≤ 6 ∧ o < 6 ∧ I hh 1 = nI o ∧ I hh 2 = nI pn ∧ ∀ i, i < pn → ∃ nb nc nk, Gd (G i) nb nc nk ∧ Led I J (hh + 2 + 30 * ((o + i) % 6)) (πs ((o + i) % 6)) (G i) (H i) nb nc nk
theorem Hst.on {S N : Nat → Nat} {P : PM} {I I' : IM} {J J' : JM} {hh : Nat} {πs : Nat → Nat → Nat} {pn o : Nat} {G : Nat → Nat → Int32} {H : Nat → Nat → Int64} (hs : HiS S N P hh πs) (h : Hst I J hh πs pn o G H) (hI : ∀ a, hh ≤ a → a < hh + 182 → I' a = I a) (hJ : ∀ a, hh ≤ a → a < hh + 182 → J' a = J a) : Hst I' J' hh πs pn o G H := by
  obtain ⟨h1, h2, h3, h4, h5⟩ := h
  refine ⟨h1, h2, by rw [hI hh (by omega) (by omega)]; exact h3, by rw [hI hh (by omega) (by omega)]; exact h4, fun i hi => ?_⟩
  obtain ⟨nb, nc, nk, g1, g2⟩ := h5 i hi
  have hm : (o + i) % 6 < 6 := Nat.mod_lt _ (by decide)
  exact ⟨nb, nc, nk, g1, g2.on (hs.2.2.2.2 _ hm).2 g1.cb (fun a a1 a2 => hI a (by omega) (by omega)) (fun a a1 a2 => hJ a (by omega) (by omega))⟩
section KT2
variable {S N : Nat → Nat} {d : Nat} {I : IM} {J : JM} {P : PM} {Q : Option Value → IM → JM → PM → Prop} {l l2 hh : Nat} {π π2 : Nat → Nat} {πs : Nat → Nat → Nat} {g : Nat → Int32} {h : Nat → Int64} {nb nc nk : Nat}
theorem k_leCopy (hs : LeS S N P l π) (hs2 : LeS S N P l2 π2) (hdis : l + 30 ≤ l2 ∨ l2 + 30 ≤ l) (hb : Cb nb nc nk) (hr : Led I J l2 π2 g h nb nc nk)
    (hq : ∀ I' J', (∀ a, a < l ∨ l + 30 ≤ a → I' a = I a ∧ J' a = J a) → Led I' J' l π g h nb nc nk → Q none I' J' P) : CWp S N (d + 3) MX5_copyFrom [.ref l, .ref l2] I J P Q := by
  rw [c_X5_copyFrom]
  have hs' := hs
  have hs2' := hs2
  unfold LeS at hs' hs2'
  simp only [e_X5_copyFrom_0, e_X5_copyFrom_1, e_X5_copyFrom_4, e_X5_copyFrom_5, e_X5_copyFrom_8, hs', hs2', hs.r.1, true_and, and_true, rf_s, not_true_eq_false, not_false_eq_true, true_implies, false_implies, kl_i, kl_n, kl_l, kl_r, Option.toList, List.cons_append, List.nil_append, if_true, if_false, u2s, lt00, lt01, lt02, lt03, le10, le20, le30, ne10, ne20, ne30, eq00]
  refine k_ruCopy (r := l + 1) (r2 := l2 + 1) hs.r hs2.r (by omega) hb hr.1 (fun I1 J1 a1 a2 => ?_)
  have l1 : ((6 : Int32) < 0) = False := by decide
  have i1 : ∀ x, x < l + 1 ∨ l + 26 ≤ x → I1 x = I x := fun x hx => (a1 x (by omega)).1
  simp only [e_X5_copyFrom_11, e_X5_copyFrom_12, e_X5_copyFrom_15, e_X5_copyFrom_16, e_X5_copyFrom_17, e_X5_copyFrom_20, e_X5_copyFrom_21, e_X5_copyFrom_23, e_X5_copyFrom_23L, e_X5_copyFrom_26, e_X5_copyFrom_27, e_X5_copyFrom_30, e_X5_copyFrom_31, e_X5_copyFrom_32, e_X5_copyFrom_35, e_X5_copyFrom_36, e_X5_copyFrom_38, e_X5_copyFrom_38L, e_X5_copyFrom_41, e_X5_copyFrom_42, e_X5_copyFrom_45, e_X5_copyFrom_46, e_X5_copyFrom_47, e_X5_copyFrom_50, e_X5_copyFrom_51, e_X5_copyFrom_53, e_X5_copyFrom_53L, e_X5_copyFrom_56, e_X5_copyFrom_57, e_X5_copyFrom_60, e_X5_copyFrom_61, e_X5_copyFrom_62, e_X5_copyFrom_65, e_X5_copyFrom_66, e_X5_copyFrom_68, e_X5_copyFrom_68L, e_X5_copyFrom_71, e_X5_copyFrom_72, e_X5_copyFrom_73, e_X5_copyFrom_76, e_X5_copyFrom_79, hs', hs2', cl_0, cl_6, l1, Nat.zero_add, Nat.le_refl, true_and, and_true, rf_s, not_true_eq_false, not_false_eq_true, true_implies, false_implies, kl_i, kl_n, kl_l, kl_r, Option.toList, List.cons_append, List.nil_append, if_true, if_false, u2s, lt00, lt01, lt02, lt03, le10, le20, le30, ne10, ne20, ne30, eq00]
  obtain ⟨q1, q2⟩ := hr.2
  refine hq _ J1 (fun a ha => ?_) ⟨a2.on hs.r hb (fun a h1 h2 => ?_) (fun a h1 h2 => rfl), ?_, fun p hp => ?_⟩
  · rw [(a1 a (by omega)).2]
    simp only [u2_off _ _ _ (show a ≠ l by omega), uA_off _ _ (show a ≠ l + 26 by omega), uA_off _ _ (show a ≠ l + 27 by omega), uA_off _ _ (show a ≠ l + 28 by omega), uA_off _ _ (show a ≠ l + 29 by omega), i1 a (by omega), and_self]
  · simp only [u2_off _ _ _ (show a ≠ l by omega), uA_off _ _ (show a ≠ l + 26 by omega), uA_off _ _ (show a ≠ l + 27 by omega), uA_off _ _ (show a ≠ l + 28 by omega), uA_off _ _ (show a ≠ l + 29 by omega)]
  · rw [u2s]
    simp only [uA_off _ _ (show l2 ≠ l + 26 by omega), uA_off _ _ (show l2 ≠ l + 27 by omega), uA_off _ _ (show l2 ≠ l + 28 by omega), uA_off _ _ (show l2 ≠ l + 29 by omega), i1 l2 (by omega)]
    exact q1
  · obtain ⟨e1, e2, e3, e4⟩ := q2 p hp
    simp only [u2_off _ _ _ (show l + 26 ≠ l by omega), u2_off _ _ _ (show l + 27 ≠ l by omega), u2_off _ _ _ (show l + 28 ≠ l by omega), u2_off _ _ _ (show l + 29 ≠ l by omega), uA_row, uA_off _ _ (show l + 26 ≠ l + 27 by omega), uA_off _ _ (show l + 26 ≠ l + 28 by omega), uA_off _ _ (show l + 26 ≠ l + 29 by omega), uA_off _ _ (show l + 27 ≠ l + 28 by omega), uA_off _ _ (show l + 27 ≠ l + 29 by omega), uA_off _ _ (show l + 28 ≠ l + 29 by omega), cpy_in hp, uA_off _ _ (show l2 + 27 ≠ l + 26 by omega), uA_off _ _ (show l2 + 28 ≠ l + 26 by omega), uA_off _ _ (show l2 + 28 ≠ l + 27 by omega), uA_off _ _ (show l2 + 29 ≠ l + 26 by omega), uA_off _ _ (show l2 + 29 ≠ l + 27 by omega), uA_off _ _ (show l2 + 29 ≠ l + 28 by omega), i1 (l2 + 26) (by omega), i1 (l2 + 27) (by omega), i1 (l2 + 28) (by omega), i1 (l2 + 29) (by omega)]
    exact ⟨e1, e2, e3, e4⟩
theorem rem6 {a : Nat} (ha : a < 2 ^ 31) : nI a - nI a / 6 * 6 = nI (a % 6) := pk_rem (d := 6) ha (by decide) (by decide)
theorem k_remember (hs : HiS S N P hh πs) (hl : LeS S N P l π) (hdis : l + 30 ≤ hh ∨ hh + 182 ≤ l) (hg : Gd g nb nc nk) (hr : Led I J l π g h nb nc nk) {pn o : Nat} {G : Nat → Nat → Int32} {H : Nat → Nat → Int64} (hH : Hst I J hh πs pn o G H)
    (hq : ∀ I' J' o', (∀ a, a < hh ∨ hh + 182 ≤ a → I' a = I a ∧ J' a = J a) → Hst I' J' hh πs (psn pn) o' (psh pn G g) (psh pn H h) → Q none I' J' P) : CWp S N (d + 4) MX4_remember [.ref hh, .ref l] I J P Q := by
  rw [c_X4_remember]
  have hs' := hs
  unfold HiS at hs'
  obtain ⟨h1, h2, h3, h4, h5⟩ := hH
  have hm : (o + pn) % 6 < 6 := Nat.mod_lt _ (by decide)
  obtain ⟨p1, p2⟩ := hs.2.2.2.2 _ hm
  have hl' := hl
  unfold LeS at hl'
  have p2' := p2
  unfold LeS at p2'
  simp only [e_X4_remember_0, e_X4_remember_1, e_X4_remember_4, e_X4_remember_5, e_X4_remember_8, e_X4_remember_9, e_X4_remember_12, e_X4_remember_13, e_X4_remember_15 neI6, e_X4_remember_15 neI2, e_X4_remember_16, e_X4_remember_17, e_X4_remember_18, hs', h3, h4, nI_add, rem6 (show o + pn < 2 ^ 31 by omega), p1, p2', nI_clamp (show (o + pn) % 6 < 2 ^ 31 by omega), vpn hm (by decide), true_or, or_true, true_and, and_true, rf_s, not_true_eq_false, not_false_eq_true, true_implies, false_implies, kl_i, kl_n, kl_l, kl_r, Option.toList, List.cons_append, List.nil_append, if_true, if_false, u2s, lt00, lt01, lt02, lt03, le10, le20, le30, ne10, ne20, ne30, eq00]
  refine k_leCopy p2 hl (by omega) hg.cb hr (fun I1 J1 a1 a2 => ?_)
  have z2 : I1 hh 2 = nI pn := by rw [(a1 hh (by omega)).1]; exact h4
  have z1 : I1 hh 1 = nI o := by rw [(a1 hh (by omega)).1]; exact h3
  have other : ∀ (I2 : IM), (∀ a, a ≠ hh → I2 a = I1 a) → ∀ i, i < pn → (o + i) % 6 ≠ (o + pn) % 6 → ∃ nb nc nk, Gd (G i) nb nc nk ∧ Led I2 J1 (hh + 2 + 30 * ((o + i) % 6)) (πs ((o + i) % 6)) (G i) (H i) nb nc nk := fun I2 hI2 i hi hne => by
    obtain ⟨nb', nc', nk', g1, g2⟩ := h5 i hi
    have hm2 : (o + i) % 6 < 6 := Nat.mod_lt _ (by decide)
    refine ⟨nb', nc', nk', g1, g2.on (hs.2.2.2.2 _ hm2).2 g1.cb (fun a b1 b2 => ?_) (fun a b1 b2 => ?_)⟩
    · rw [hI2 a (by omega), (a1 a (by omega)).1]
    · rw [(a1 a (by omega)).2]
  have this : ∀ (I2 : IM), (∀ a, a ≠ hh → I2 a = I1 a) → Led I2 J1 (hh + 2 + 30 * ((o + pn) % 6)) (πs ((o + pn) % 6)) g h nb nc nk := fun I2 hI2 => a2.on p2 hg.cb (fun a b1 b2 => hI2 a (by omega)) (fun a _ _ => rfl)
  by_cases hlt : pn < 6
  · have g1 : ¬ (6 : Int32) ≤ nI pn := nI_ge (b := 6) hlt (by decide)
    simp only [e_X4_remember_21, e_X4_remember_22, e_X4_remember_25, e_X4_remember_27, e_X4_remember_30, e_X4_remember_31, e_X4_remember_32, e_X4_remember_35, e_X4_remember_36, e_X4_remember_37, e_X4_remember_40, e_X4_remember_43, e_X4_remember_44, e_X4_remember_45, e_X4_remember_48, e_X4_remember_49, e_X4_remember_50, e_X4_remember_52 neI6, e_X4_remember_52 neI2, e_X4_remember_53, e_X4_remember_56, hs', z2, g1, nI_1, true_and, and_true, rf_s, not_true_eq_false, not_false_eq_true, true_implies, false_implies, kl_i, kl_n, kl_l, kl_r, Option.toList, List.cons_append, List.nil_append, if_true, if_false, u2s, lt00, lt01, lt02, lt03, le10, le20, le30, ne10, ne20, ne30, eq00]
    refine hq _ J1 o (fun a ha => ?_) ?_
    · rw [u2_off _ _ _ (by omega)]
      exact a1 a (by omega)
    · unfold psn psh
      rw [if_neg (by omega), if_neg (by omega), if_neg (by omega)]
      refine ⟨by omega, h2, by rw [u2k _ _ _ (by decide)]; exact z1, u2s _ _ _ _, fun i hi => ?_⟩
      dsimp only
      by_cases hip : i = pn
      · subst hip
        rw [if_pos rfl, if_pos rfl]
        exact ⟨nb, nc, nk, hg, this _ (fun a ha => u2_off _ _ _ ha)⟩
      · rw [if_neg hip, if_neg hip]
        exact other _ (fun a ha => u2_off _ _ _ ha) i (by omega) (by omega)
  · have h6 : pn = 6 := by omega
    subst h6
    have g1 : (6 : Int32) ≤ nI 6 := by decide
    simp only [e_X4_remember_21, e_X4_remember_22, e_X4_remember_25, e_X4_remember_27, e_X4_remember_30, e_X4_remember_31, e_X4_remember_32, e_X4_remember_35, e_X4_remember_36, e_X4_remember_37, e_X4_remember_40, e_X4_remember_43, e_X4_remember_44, e_X4_remember_45, e_X4_remember_48, e_X4_remember_49, e_X4_remember_50, e_X4_remember_52 neI6, e_X4_remember_52 neI2, e_X4_remember_53, e_X4_remember_56, hs', z1, z2, g1, nI_1, rem6 (show o + 1 < 2 ^ 31 by omega), true_and, and_true, rf_s, not_true_eq_false, not_false_eq_true, true_implies, false_implies, kl_i, kl_n, kl_l, kl_r, Option.toList, List.cons_append, List.nil_append, if_true, if_false, u2s, lt00, lt01, lt02, lt03, le10, le20, le30, ne10, ne20, ne30, eq00]
    refine hq _ J1 ((o + 1) % 6) (fun a ha => ?_) ?_
    · rw [u2_off _ _ _ (by omega)]
      exact a1 a (by omega)
    · unfold psn psh
      rw [if_pos rfl, if_pos rfl, if_pos rfl]
      refine ⟨by decide, Nat.mod_lt _ (by decide), u2s _ _ _ _, by rw [u2k _ _ _ (by decide)]; exact z2, fun i hi => ?_⟩
      dsimp only
      by_cases hi5 : i = 5
      · subst hi5
        rw [if_pos rfl, if_pos rfl, show ((o + 1) % 6 + 5) % 6 = (o + 6) % 6 by omega]
        exact ⟨nb, nc, nk, hg, this _ (fun a ha => u2_off _ _ _ ha)⟩
      · rw [if_neg hi5, if_neg hi5, show ((o + 1) % 6 + i) % 6 = (o + (i + 1)) % 6 by omega]
        exact other _ (fun a ha => u2_off _ _ _ ha) (i + 1) (by omega) (by omega)
theorem k_takeBack (hs : HiS S N P hh πs) (hl : LeS S N P l π) (hdis : l + 30 ≤ hh ∨ hh + 182 ≤ l) {pn o : Nat} {G : Nat → Nat → Int32} {H : Nat → Nat → Int64} (hH : Hst I J hh πs (pn + 1) o G H)
    (hq : ∀ I' J' nb nc nk, (∀ a, a ≠ hh → a < l ∨ l + 30 ≤ a → I' a = I a ∧ J' a = J a) → Gd (G pn) nb nc nk → Led I' J' l π (G pn) (H pn) nb nc nk → Hst I' J' hh πs pn o G H → Q none I' J' P) : CWp S N (d + 4) MX4_takeBack [.ref hh, .ref l] I J P Q := by
  rw [c_X4_takeBack]
  have hs' := hs
  unfold HiS at hs'
  obtain ⟨h1, h2, h3, h4, h5⟩ := hH
  have hm : (o + pn) % 6 < 6 := Nat.mod_lt _ (by decide)
  obtain ⟨p1, p2⟩ := hs.2.2.2.2 _ hm
  have hl' := hl
  unfold LeS at hl'
  have h3' : ∀ v : Int32, (u2 I hh 2 v) hh 1 = nI o := fun v => by rw [u2k _ _ _ (by decide)]; exact h3
  simp only [e_X4_takeBack_0, e_X4_takeBack_1, e_X4_takeBack_2, e_X4_takeBack_5, e_X4_takeBack_6, e_X4_takeBack_7, e_X4_takeBack_10, e_X4_takeBack_11, e_X4_takeBack_12, e_X4_takeBack_15, e_X4_takeBack_16, e_X4_takeBack_19, e_X4_takeBack_20, e_X4_takeBack_23, e_X4_takeBack_24, e_X4_takeBack_26 neI6, e_X4_takeBack_26 neI2, e_X4_takeBack_27, e_X4_takeBack_28, hs', h3', h4, nI_pred, nI_add, rem6 (show o + pn < 2 ^ 31 by omega), p1, hl', nI_clamp (show (o + pn) % 6 < 2 ^ 31 by omega), vpn hm (by decide), true_or, or_true, true_and, and_true, rf_s, not_true_eq_false, not_false_eq_true, true_implies, false_implies, kl_i, kl_n, kl_l, kl_r, Option.toList, List.cons_append, List.nil_append, if_true, if_false, u2s, lt00, lt01, lt02, lt03, le10, le20, le30, ne10, ne20, ne30, eq00]
  obtain ⟨nb, nc, nk, g1, g2⟩ := h5 pn (by omega)
  have g3 : Led (u2 I hh 2 (nI pn)) J (hh + 2 + 30 * ((o + pn) % 6)) (πs ((o + pn) % 6)) (G pn) (H pn) nb nc nk := g2.on p2 g1.cb (fun a b1 b2 => u2_off _ _ _ (by omega)) (fun _ _ _ => rfl)
  refine k_leCopy hl p2 (by omega) g1.cb g3 (fun I1 J1 a1 a2 => ?_)
  simp only [e_X4_takeBack_31, true_and, and_true, rf_s, not_true_eq_false, not_false_eq_true, true_implies, false_implies, kl_i, kl_n, kl_l, kl_r, Option.toList, List.cons_append, List.nil_append, if_true, if_false, u2s, lt00, lt01, lt02, lt03, le10, le20, le30, ne10, ne20, ne30, eq00]
  refine hq I1 J1 nb nc nk (fun a b1 b2 => ?_) g1 a2 ?_
  · rw [(a1 a b2).1, (a1 a b2).2, u2_off _ _ _ b1]
    exact ⟨rfl, rfl⟩
  · refine ⟨by omega, h2, ?_, ?_, fun i hi => ?_⟩
    · rw [(a1 hh (by omega)).1, u2k _ _ _ (by decide)]; exact h3
    · rw [(a1 hh (by omega)).1, u2s]
    · obtain ⟨nb', nc', nk', e1, e2⟩ := h5 i (by omega)
      have hm2 : (o + i) % 6 < 6 := Nat.mod_lt _ (by decide)
      refine ⟨nb', nc', nk', e1, e2.on (hs.2.2.2.2 _ hm2).2 e1.cb (fun a b1 b2 => ?_) (fun a b1 b2 => ?_)⟩
      · rw [(a1 a (by omega)).1, u2_off _ _ _ (by omega)]
      · rw [(a1 a (by omega)).2]
end KT2

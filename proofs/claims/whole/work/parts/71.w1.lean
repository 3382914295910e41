/-! the workbench itself: its shape, its private methods -/
theorem LeS.f {S N : Nat → Nat} {P : PM} {l : Nat} {π : Nat → Nat} (h : LeS S N P l π) : S l = 5 ∧ (P l 0 = some (l + 1) ∧ P l 1 = some (l + 26) ∧ P l 2 = some (l + 27) ∧ P l 3 = some (l + 28) ∧ P l 4 = some (l + 29)) ∧ (S (l + 26) = 10 ∧ S (l + 27) = 10 ∧ S (l + 28) = 10 ∧ S (l + 29) = 10) ∧ (N (l + 26) = 6 ∧ N (l + 27) = 6 ∧ N (l + 28) = 6 ∧ N (l + 29) = 6) := ⟨h.1, h.2.1, h.2.2.1, h.2.2.2.1⟩
def WbS (S N : Nat → Nat) (P : PM) (x : Nat) (πd π πs : Nat → Nat) (πh : Nat → Nat → Nat) : Prop :=
  (S x = 8 ∧ P x 0 = some (x + 1) ∧ P x 1 = some (x + 4) ∧ P x 2 = some (x + 29) ∧ P x 3 = some (x + 59) ∧ P x 5 = some (x + 89) ∧ P x 6 = some (x + 271) ∧ P x 7 = some (x + 281) ∧ P x 8 = some (x + 292))
  ∧ RtS S N P (x + 1) ∧ RuS S N P (x + 4) πd ∧ LeS S N P (x + 29) π ∧ LeS S N P (x + 59) πs ∧ HiS S N P (x + 89) πh ∧ AsS S N P (x + 271) ∧ CoS S N P (x + 281) ∧ ExS S N P (x + 292)
section WT1
variable {S N : Nat → Nat} {P : PM} {x : Nat} {πd π πs : Nat → Nat} {πh : Nat → Nat → Nat}
theorem WbS.f (h : WbS S N P x πd π πs πh) : S x = 8 ∧ P x 0 = some (x + 1) ∧ P x 1 = some (x + 4) ∧ P x 2 = some (x + 29) ∧ P x 3 = some (x + 59) ∧ P x 5 = some (x + 89) ∧ P x 6 = some (x + 271) ∧ P x 7 = some (x + 281) ∧ P x 8 = some (x + 292) := h.1
theorem WbS.rt (h : WbS S N P x πd π πs πh) : RtS S N P (x + 1) := h.2.1
theorem WbS.dr (h : WbS S N P x πd π πs πh) : RuS S N P (x + 4) πd := h.2.2.1
theorem WbS.le (h : WbS S N P x πd π πs πh) : LeS S N P (x + 29) π := h.2.2.2.1
theorem WbS.sv (h : WbS S N P x πd π πs πh) : LeS S N P (x + 59) πs := h.2.2.2.2.1
theorem WbS.hi (h : WbS S N P x πd π πs πh) : HiS S N P (x + 89) πh := h.2.2.2.2.2.1
theorem WbS.as (h : WbS S N P x πd π πs πh) : AsS S N P (x + 271) := h.2.2.2.2.2.2.1
theorem WbS.co (h : WbS S N P x πd π πs πh) : CoS S N P (x + 281) := h.2.2.2.2.2.2.2.1
theorem WbS.ex (h : WbS S N P x πd π πs πh) : ExS S N P (x + 292) := h.2.2.2.2.2.2.2.2
end WT1
theorem Bd.mono {x : Int32} {n k : Nat} (h : Bd x n) (hk : n ≤ k) : Bd x k := by
  obtain ⟨a, h1, h2⟩ := h
  exact ⟨a, by omega, h2⟩
section WT2
variable {S N : Nat → Nat} {d : Nat} {I : IM} {J : JM} {P : PM} {Q : Option Value → IM → JM → PM → Prop} {x : Nat} {πd π πs : Nat → Nat} {πh : Nat → Nat → Nat} {g : Nat → Int32} {h : Nat → Int64} {nb nc nk : Nat}
/-- guards that hold -/
theorem k_rI {k n : Nat} (hk : k < n) (hn : n < 2 ^ 31) : CWp S N d MX8_requireIndex [.ref x, .int (nI k), .int (nI n)] I J P Q ↔ Q none I J P := by
  rw [c_X8_requireIndex]
  have g1 : ¬ nI k < 0 := nI_pos (by omega)
  have g2 : nI k < nI n := nI_lt hk hn
  simp only [e_X8_requireIndex_0, e_X8_requireIndex_1, e_X8_requireIndex_4, e_X8_requireIndex_5, e_X8_requireIndex_6, e_X8_requireIndex_20, g1, g2, true_and, and_true, rf_s, not_true_eq_false, not_false_eq_true, true_implies, false_implies, kl_i, kl_n, kl_l, kl_r, Option.toList, List.cons_append, List.nil_append, if_true, if_false, u2s, lt00, lt01, lt02, lt03, le10, le20, le30, ne10, ne20, ne30, eq00]
theorem k_rI6 {p : Nat} (hp : p < 6) : CWp S N d MX8_requireIndex [.ref x, .int (nI p), .int 6] I J P Q ↔ Q none I J P := k_rI (n := 6) hp (by decide)
theorem k_rR {v lo hi : Int32} (h1 : lo ≤ v) (h2 : v ≤ hi) : CWp S N d MX8_requireRange [.ref x, .int v, .int lo, .int hi] I J P Q ↔ Q none I J P := by
  rw [c_X8_requireRange]
  have g1 : ¬ v < lo := Int32.not_lt.mpr h1
  simp only [e_X8_requireRange_0, e_X8_requireRange_1, e_X8_requireRange_2, e_X8_requireRange_5, e_X8_requireRange_6, e_X8_requireRange_7, e_X8_requireRange_21, g1, h2, true_and, and_true, rf_s, not_true_eq_false, not_false_eq_true, true_implies, false_implies, kl_i, kl_n, kl_l, kl_r, Option.toList, List.cons_append, List.nil_append, if_true, if_false, u2s, lt00, lt01, lt02, lt03, le10, le20, le30, ne10, ne20, ne30, eq00]
theorem k_assess (hw : WbS S N P x πd π πs πh) (hg : Gd g nb nc nk) (hr : Led I J (x + 29) π g h nb nc nk) {p : Nat} (hp : p < 6)
    (hq : ∀ I' J', Fr (x + 271) (x + 281) I I' J J' → J' (x + 271) 7 = TxA g h nb nc nk p (g (66 + 3 * p)) → (∀ j, j < 6 → J' (x + 271 + 2) j = TpF g nb nc (g (64 + 3 * p) + g (65 + 3 * p)) 1 j) → (∀ i j, i < nk → j < 5 → J' (x + 271 + 4 + i) j = Tct g nb nc (Br1 h p) (g (64 + 3 * p)) (g (64 + 3 * p) + g (65 + 3 * p)) (g (66 + 3 * p)) 1 i j) → Led I' J' (x + 29) π g h nb nc nk → Q (some (.ref (x + 271))) I' J' P) :
    CWp S N (d + 3) MX8_assessAlone [.ref x, .int (nI p)] I J P Q := by
  rw [c_X8_assessAlone]
  have hw' := hw.f
  have hl := hw.le
  have hl' := hl.f
  have ha0 := hw.as.1
  have hdep : I (x + 29 + 28) p = g (66 + 3 * p) := (hr.2.2 p hp).2.2.1
  have hbd : Bd (g (66 + 3 * p)) 18 := (hg.per hp).2.2.mono (by decide)
  simp only [e_X8_assessAlone_0, e_X8_assessAlone_1, e_X8_assessAlone_4, e_X8_assessAlone_5, e_X8_assessAlone_8, e_X8_assessAlone_9, e_X8_assessAlone_10, e_X8_assessAlone_13, e_X8_assessAlone_16, e_X8_assessAlone_17, e_X8_assessAlone_18, hw', hl', ha0, nI_clamp (show p < 2 ^ 31 by omega), vpn hp (by decide), hdep, true_and, and_true, rf_s, not_true_eq_false, not_false_eq_true, true_implies, false_implies, kl_i, kl_n, kl_l, kl_r, Option.toList, List.cons_append, List.nil_append, if_true, if_false, u2s, lt00, lt01, lt02, lt03, le10, le20, le30, ne10, ne20, ne30, eq00]
  refine k_tAlone hw.as hl (by omega) hg hr hp hbd (fun I1 J1 f1 f2 f3 f4 => ?_)
  simp only [e_X8_assessAlone_21, e_X8_assessAlone_22, e_X8_assessAlone_25, e_X8_assessAlone_26, e_X8_assessAlone_29, e_X8_assessAlone_32, hw', hl', ha0, true_and, and_true, rf_s, not_true_eq_false, not_false_eq_true, true_implies, false_implies, kl_i, kl_n, kl_l, kl_r, Option.toList, List.cons_append, List.nil_append, if_true, if_false, u2s, lt00, lt01, lt02, lt03, le10, le20, le30, ne10, ne20, ne30, eq00]
  refine k_cAlone hw.as hl (by omega) hg hp hbd f2 f3 f4 (fun J2 a1 a2 a3 a4 a5 => ?_)
  simp only [e_X8_assessAlone_35, e_X8_assessAlone_36, e_X8_assessAlone_39, hw', true_and, and_true, rf_s, not_true_eq_false, not_false_eq_true, true_implies, false_implies, kl_i, kl_n, kl_l, kl_r, Option.toList, List.cons_append, List.nil_append, if_true, if_false, u2s, lt00, lt01, lt02, lt03, le10, le20, le30, ne10, ne20, ne30, eq00]
  exact hq I1 J2 (fun y hy => ⟨(f1 y hy).1, (a1 y hy).trans (f1 y hy).2⟩) a2 a3 a4 a5
theorem led_partner (hr : Led I J (x + 29) π g h nb nc nk) {p : Nat} (hp : p < 6) : I (x + 29 + 29) p = g (82 + p) := (hr.2.2 p hp).2.2.2
theorem k_isSecond (hw : WbS S N P x πd π πs πh) (hg : Gd g nb nc nk) (hr : Led I J (x + 29) π g h nb nc nk) {p : Nat} (hp : p < 6) : CWp S N d MX8_isSecond [.ref x, .int (nI p)] I J P Q ↔ Q (some (.int (if Fst g p = p then 0 else 1))) I J P := by
  rw [c_X8_isSecond]
  have hw' := hw.f
  have hl' := hw.le.f
  have hpt := led_partner hr hp
  rcases hg.2.1 p hp with h1 | ⟨q, hcp⟩
  · have hF : Fst g p = p := by unfold Fst; rw [if_pos (by rw [h1]; decide)]
    rw [if_pos hF]
    simp only [e_X8_isSecond_0, e_X8_isSecond_1, e_X8_isSecond_4, e_X8_isSecond_7, e_X8_isSecond_8, e_X8_isSecond_9, e_X8_isSecond_10, e_X8_isSecond_13, e_X8_isSecond_14, e_X8_isSecond_17, e_X8_isSecond_20, e_X8_isSecond_21, e_X8_isSecond_22, e_X8_isSecond_23, e_X8_isSecond_26, e_X8_isSecond_27, e_X8_isSecond_30, e_X8_isSecond_31 isB0, e_X8_isSecond_31 isB1, e_X8_isSecond_31 isB_ite, hw', hl', nI_clamp (show p < 2 ^ 31 by omega), vpn hp (by decide), hpt, h1, true_and, and_true, rf_s, not_true_eq_false, not_false_eq_true, true_implies, false_implies, kl_i, kl_n, kl_l, kl_r, Option.toList, List.cons_append, List.nil_append, if_true, if_false, u2s, lt00, lt01, lt02, lt03, le10, le20, le30, ne10, ne20, ne30, eq00]
  · have hge := hcp.ge
    have hlt : ¬ g (82 + p) < 0 := Int32.not_lt.mpr hge
    have hne : ¬ nI q = -1 := fun z => by
      have := hcp.2.2.2.1
      rw [this, z] at hlt
      exact hlt (by decide)
    have hF : Fst g p = lo p q := by unfold Fst; rw [if_neg hlt, hcp.to]
    have hgq := hcp.2.2.2.1
    have hq6 := hcp.2.1
    have hneq := hcp.2.2.1
    by_cases hqp : q < p
    · have e1 : ¬ Fst g p = p := by rw [hF]; unfold lo; rw [if_pos hqp]; omega
      have g1 : ¬ nI p ≤ nI q := nI_ge hqp (by omega)
      rw [if_neg e1]
      simp only [e_X8_isSecond_0, e_X8_isSecond_1, e_X8_isSecond_4, e_X8_isSecond_7, e_X8_isSecond_8, e_X8_isSecond_9, e_X8_isSecond_10, e_X8_isSecond_13, e_X8_isSecond_14, e_X8_isSecond_17, e_X8_isSecond_20, e_X8_isSecond_21, e_X8_isSecond_22, e_X8_isSecond_23, e_X8_isSecond_26, e_X8_isSecond_27, e_X8_isSecond_30, e_X8_isSecond_31 isB0, e_X8_isSecond_31 isB1, e_X8_isSecond_31 isB_ite, hw', hl', nI_clamp (show p < 2 ^ 31 by omega), vpn hp (by decide), hpt, hgq, hne, g1, true_and, and_true, rf_s, not_true_eq_false, not_false_eq_true, true_implies, false_implies, kl_i, kl_n, kl_l, kl_r, Option.toList, List.cons_append, List.nil_append, if_true, if_false, u2s, lt00, lt01, lt02, lt03, le10, le20, le30, ne10, ne20, ne30, eq00]
    · have e1 : Fst g p = p := by rw [hF]; unfold lo; rw [if_neg hqp]
      have g1 : nI p ≤ nI q := nI_le (by omega) (by omega)
      rw [if_pos e1]
      simp only [e_X8_isSecond_0, e_X8_isSecond_1, e_X8_isSecond_4, e_X8_isSecond_7, e_X8_isSecond_8, e_X8_isSecond_9, e_X8_isSecond_10, e_X8_isSecond_13, e_X8_isSecond_14, e_X8_isSecond_17, e_X8_isSecond_20, e_X8_isSecond_21, e_X8_isSecond_22, e_X8_isSecond_23, e_X8_isSecond_26, e_X8_isSecond_27, e_X8_isSecond_30, e_X8_isSecond_31 isB0, e_X8_isSecond_31 isB1, e_X8_isSecond_31 isB_ite, hw', hl', nI_clamp (show p < 2 ^ 31 by omega), vpn hp (by decide), hpt, hgq, hne, g1, true_and, and_true, rf_s, not_true_eq_false, not_false_eq_true, true_implies, false_implies, kl_i, kl_n, kl_l, kl_r, Option.toList, List.cons_append, List.nil_append, if_true, if_false, u2s, lt00, lt01, lt02, lt03, le10, le20, le30, ne10, ne20, ne30, eq00]
/-- a couple settled, from either side -/
theorem k_settleC (hw : WbS S N P x πd π πs πh) (hg : Gd g nb nc nk) (hr : Led I J (x + 29) π g h nb nc nk) {r q : Nat} (hcp : Cp g r q)
    (hq : ∀ I' J', Fr (x + 281) (x + 292) I I' J J' → Led I' J' (x + 29) π g h nb nc nk → CoR g h nb nc nk (x + 281) (lo r q) (hi r q) I' J' → Q none I' J' P) : CWp S N (d + 4) MX1_settle [.ref (x + 281), .ref (x + 29), .int (nI r), .int (nI q)] I J P Q :=
  k_settle hw.co hw.le (by omega) hg hr hcp.1 hcp.2.1 hcp.2.2.1 rfl rfl (fun I' J' f1 f2 f3 => hq I' J' (f1.w (Nat.le_refl _) (by omega)) f2 f3)
theorem k_chosen (hw : WbS S N P x πd π πs πh) (hg : Gd g nb nc nk) (hr : Led I J (x + 29) π g h nb nc nk) {p : Nat} (hp : p < 6)
    (hq : ∀ I' J', Fr (x + 271) (x + 303) I I' J J' → Led I' J' (x + 29) π g h nb nc nk → Q (some (.long (HhV g h nb nc nk p))) I' J' P) :
    CWp S N (d + 5) MX8_chosenTax [.ref x, .int (nI p)] I J P Q := by
  rw [c_X8_chosenTax]
  have hw' := hw.f
  have hl' := hw.le.f
  have hpt := led_partner hr hp
  unfold HhV at hq
  rcases hg.2.1 p hp with h1 | ⟨q, hcp⟩
  · rw [if_pos (by rw [h1]; decide)] at hq
    simp only [e_X8_chosenTax_0, e_X8_chosenTax_1, e_X8_chosenTax_4, e_X8_chosenTax_7, e_X8_chosenTax_8, e_X8_chosenTax_9, e_X8_chosenTax_10, e_X8_chosenTax_13, e_X8_chosenTax_14, e_X8_chosenTax_15, hw', hl', nI_clamp (show p < 2 ^ 31 by omega), vpn hp (by decide), hpt, h1, true_and, and_true, rf_s, not_true_eq_false, not_false_eq_true, true_implies, false_implies, kl_i, kl_n, kl_l, kl_r, Option.toList, List.cons_append, List.nil_append, if_true, if_false, u2s, lt00, lt01, lt02, lt03, le10, le20, le30, ne10, ne20, ne30, eq00]
    refine k_assess (d := d + 1) hw hg hr hp (fun I1 J1 f1 f2 f3 f4 f5 => ?_)
    have hs := hw.as.f.1
    simp only [e_X8_chosenTax_18, e_X8_chosenTax_21, hs, f2, true_and, and_true, rf_s, not_true_eq_false, not_false_eq_true, true_implies, false_implies, kl_i, kl_n, kl_l, kl_r, Option.toList, List.cons_append, List.nil_append, if_true, if_false, u2s, lt00, lt01, lt02, lt03, le10, le20, le30, ne10, ne20, ne30, eq00]
    exact hq I1 J1 (f1.w (Nat.le_refl _) (by omega)) f5
  · have hge := hcp.ge
    have hlt : ¬ g (82 + p) < 0 := Int32.not_lt.mpr hge
    have hgq := hcp.2.2.2.1
    have hne : ¬ nI q = -1 := fun z => by
      rw [hgq, z] at hlt
      exact hlt (by decide)
    rw [if_neg hlt, hcp.to] at hq
    have hs := hw.co.1
    simp only [e_X8_chosenTax_0, e_X8_chosenTax_1, e_X8_chosenTax_4, e_X8_chosenTax_7, e_X8_chosenTax_8, e_X8_chosenTax_9, e_X8_chosenTax_10, e_X8_chosenTax_22, e_X8_chosenTax_23, e_X8_chosenTax_26, e_X8_chosenTax_27, e_X8_chosenTax_30, e_X8_chosenTax_31, e_X8_chosenTax_32, e_X8_chosenTax_35, e_X8_chosenTax_38, e_X8_chosenTax_39, e_X8_chosenTax_40, hw', hl', hs, nI_clamp (show p < 2 ^ 31 by omega), vpn hp (by decide), hpt, hgq, hne, true_and, and_true, rf_s, not_true_eq_false, not_false_eq_true, true_implies, false_implies, kl_i, kl_n, kl_l, kl_r, Option.toList, List.cons_append, List.nil_append, if_true, if_false, u2s, lt00, lt01, lt02, lt03, le10, le20, le30, ne10, ne20, ne30, eq00]
    refine k_settleC (d := d) hw hg hr hcp (fun I1 J1 f1 f2 f3 => ?_)
    have h4 := f3.2.2.2.1
    have h5 := f3.2.2.2.2.1
    simp only [e_X8_chosenTax_43, e_X8_chosenTax_44, e_X8_chosenTax_47, hw', k_prefers hw.co f3, hs, true_and, and_true, rf_s, not_true_eq_false, not_false_eq_true, true_implies, false_implies, kl_i, kl_n, kl_l, kl_r, Option.toList, List.cons_append, List.nil_append, if_true, if_false, u2s, lt00, lt01, lt02, lt03, le10, le20, le30, ne10, ne20, ne30, eq00]
    unfold Tles at hq
    by_cases hlt2 : TxJ g h nb nc nk (lo p q) (hi p q) < (Tdv g h nb nc nk (lo p q) (hi p q)).1
    · rw [if_pos hlt2] at hq
      simp only [e_X8_chosenTax_50, e_X8_chosenTax_53, e_X8_chosenTax_54, e_X8_chosenTax_57, e_X8_chosenTax_60, e_X8_chosenTax_63, e_X8_chosenTax_64, e_X8_chosenTax_67, e_X8_chosenTax_70, if_pos hlt2, hw', hs, h4, true_and, and_true, rf_s, not_true_eq_false, not_false_eq_true, true_implies, false_implies, kl_i, kl_n, kl_l, kl_r, Option.toList, List.cons_append, List.nil_append, if_true, if_false, u2s, lt00, lt01, lt02, lt03, le10, le20, le30, ne10, ne20, ne30, eq00]
      exact hq I1 J1 (f1.w (by omega) (by omega)) f2
    · rw [if_neg hlt2] at hq
      simp only [e_X8_chosenTax_50, e_X8_chosenTax_53, e_X8_chosenTax_54, e_X8_chosenTax_57, e_X8_chosenTax_60, e_X8_chosenTax_63, e_X8_chosenTax_64, e_X8_chosenTax_67, e_X8_chosenTax_70, if_neg hlt2, hw', hs, h5, true_and, and_true, rf_s, not_true_eq_false, not_false_eq_true, true_implies, false_implies, kl_i, kl_n, kl_l, kl_r, Option.toList, List.cons_append, List.nil_append, if_true, if_false, u2s, lt00, lt01, lt02, lt03, le10, le20, le30, ne10, ne20, ne30, eq00]
      exact hq I1 J1 (f1.w (by omega) (by omega)) f2
theorem tot_loop (hw : WbS S N P x πd π πs πh) (hg : Gd g nb nc nk) : ∀ (n p : Nat), p + n = 6 → ∀ (I : IM) (J : JM) (s : Int64), Led I J (x + 29) π g h nb nc nk → (∀ I' J', Fr (x + 271) (x + 303) I I' J J' → Q (some (.long (TotF g h nb nc nk p n s))) I' J' P) →
    Wp S N (d + 6) MX8_totalTax 4 [some (.ref x), some (.long s), none, some (.int (nI p))] [] I J P Q := by
  have hw' := hw.f
  intro n
  induction n with
  | zero =>
    intro p hp I J s hr hq
    have hp : p = 6 := by omega
    subst hp
    have g1 : (6 : Int32) ≤ nI 6 := by decide
    simp only [e_X8_totalTax_4, e_X8_totalTax_5, e_X8_totalTax_7, e_X8_totalTax_32, e_X8_totalTax_33, g1, true_and, and_true, rf_s, not_true_eq_false, not_false_eq_true, true_implies, false_implies, kl_i, kl_n, kl_l, kl_r, Option.toList, List.cons_append, List.nil_append, if_true, if_false, u2s, lt00, lt01, lt02, lt03, le10, le20, le30, ne10, ne20, ne30, eq00]
    rw [TotF] at hq
    exact hq I J Fr.rf
  | succ n ih =>
    intro p hp I J s hr hq
    have hp6 : p < 6 := by omega
    have g1 : ¬ (6 : Int32) ≤ nI p := nI_ge (b := 6) hp6 (by decide)
    rw [TotF] at hq
    rw [e_X8_totalTax_4]
    simp only [e_X8_totalTax_5, e_X8_totalTax_7, e_X8_totalTax_10, e_X8_totalTax_11, e_X8_totalTax_12, g1, hw', k_isSecond hw hg hr hp6, true_and, and_true, rf_s, not_true_eq_false, not_false_eq_true, true_implies, false_implies, kl_i, kl_n, kl_l, kl_r, Option.toList, List.cons_append, List.nil_append, if_true, if_false, u2s, lt00, lt01, lt02, lt03, le10, le20, le30, ne10, ne20, ne30, eq00]
    by_cases hF : Fst g p = p
    · rw [if_pos hF] at hq
      simp only [e_X8_totalTax_15, e_X8_totalTax_18, e_X8_totalTax_19, e_X8_totalTax_20, e_X8_totalTax_21, if_pos hF, hw', true_and, and_true, rf_s, not_true_eq_false, not_false_eq_true, true_implies, false_implies, kl_i, kl_n, kl_l, kl_r, Option.toList, List.cons_append, List.nil_append, if_true, if_false, u2s, lt00, lt01, lt02, lt03, le10, le20, le30, ne10, ne20, ne30, eq00]
      refine k_chosen (d := d) hw hg hr hp6 (fun I1 J1 f1 f2 => ?_)
      simp only [e_X8_totalTax_24, e_X8_totalTax_25, e_X8_totalTax_26, e_X8_totalTax_29, nI_1, true_and, and_true, rf_s, not_true_eq_false, not_false_eq_true, true_implies, false_implies, kl_i, kl_n, kl_l, kl_r, Option.toList, List.cons_append, List.nil_append, if_true, if_false, u2s, lt00, lt01, lt02, lt03, le10, le20, le30, ne10, ne20, ne30, eq00]
      exact ih (p + 1) (by omega) I1 J1 _ f2 (fun I2 J2 a1 => hq I2 J2 (f1.tr a1))
    · rw [if_neg hF] at hq
      have e0 : s + 0 = s := Int64.add_zero s
      rw [e0] at hq
      simp only [e_X8_totalTax_15, e_X8_totalTax_26, e_X8_totalTax_29, if_neg hF, nI_1, true_and, and_true, rf_s, not_true_eq_false, not_false_eq_true, true_implies, false_implies, kl_i, kl_n, kl_l, kl_r, Option.toList, List.cons_append, List.nil_append, if_true, if_false, u2s, lt00, lt01, lt02, lt03, le10, le20, le30, ne10, ne20, ne30, eq00]
      exact ih (p + 1) (by omega) I J s hr hq
theorem k_totalTax (hw : WbS S N P x πd π πs πh) (hg : Gd g nb nc nk) (hr : Led I J (x + 29) π g h nb nc nk)
    (hq : ∀ I' J', Fr (x + 271) (x + 303) I I' J J' → Q (some (.long (TotF g h nb nc nk 0 6 0))) I' J' P) : CWp S N (d + 6) MX8_totalTax [.ref x] I J P Q := by
  rw [c_X8_totalTax]
  have z0 : (0 : Int32) = nI 0 := rfl
  simp only [e_X8_totalTax_0, e_X8_totalTax_1, e_X8_totalTax_2, e_X8_totalTax_3, true_and, and_true, rf_s, not_true_eq_false, not_false_eq_true, true_implies, false_implies, kl_i, kl_n, kl_l, kl_r, Option.toList, List.cons_append, List.nil_append, if_true, if_false, u2s, lt00, lt01, lt02, lt03, le10, le20, le30, ne10, ne20, ne30, eq00]
  rw [z0]
  exact tot_loop hw hg 6 0 (by decide) I J 0 hr hq
end WT2

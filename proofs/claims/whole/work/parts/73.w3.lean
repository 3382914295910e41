/-! the workbench's changes -/
theorem RtS.onP {S N : Nat → Nat} {P P' : PM} {x : Nat} (h : RtS S N P x) (hP : ∀ a, x ≤ a → a < x + 3 → P' a = P a) : RtS S N P' x := by
  unfold RtS at h ⊢
  rw [hP x (by omega) (by omega)]
  exact h
theorem LeS.onP {S N : Nat → Nat} {P P' : PM} {l : Nat} {π : Nat → Nat} (h : LeS S N P l π) (hP : ∀ a, l ≤ a → a < l + 30 → P' a = P a) : LeS S N P' l π := by
  refine ⟨h.1, ?_, h.2.2.1, h.2.2.2.1, h.2.2.2.2.onP (fun a h1 h2 => hP a (by omega) (by omega))⟩
  rw [hP l (by omega) (by omega)]
  exact h.2.1
theorem AsS.onP {S N : Nat → Nat} {P P' : PM} {a : Nat} (h : AsS S N P a) (hP : ∀ y, a ≤ y → y < a + 10 → P' y = P y) : AsS S N P' a := by
  refine ⟨h.1, ?_, h.2.2.1, h.2.2.2.1, fun i hi => ?_⟩
  · rw [hP a (by omega) (by omega)]; exact h.2.1
  · rw [hP (a + 3) (by omega) (by omega)]; exact h.2.2.2.2 i hi
theorem HiS.onP {S N : Nat → Nat} {P P' : PM} {a : Nat} {πs : Nat → Nat → Nat} (h : HiS S N P a πs) (hP : ∀ y, a ≤ y → y < a + 182 → P' y = P y) : HiS S N P' a πs := by
  refine ⟨h.1, by rw [hP a (by omega) (by omega)]; exact h.2.1, h.2.2.1, h.2.2.2.1, fun i hi => ⟨?_, ?_⟩⟩
  · rw [hP (a + 1) (by omega) (by omega)]; exact (h.2.2.2.2 i hi).1
  · exact (h.2.2.2.2 i hi).2.onP (fun y h1 h2 => hP y (by omega) (by omega))
section WT4
variable {S N : Nat → Nat} {d : Nat} {I : IM} {J : JM} {P : PM} {Q : Option Value → IM → JM → PM → Prop} {x : Nat} {πd π πs : Nat → Nat} {πh : Nat → Nat → Nat} {g : Nat → Int32} {h : Nat → Int64} {nb nc nk pn o : Nat} {G : Nat → Nat → Int32} {H : Nat → Nat → Int64}
/-- the shape with the ledger's credits in another order -/
theorem WbS.reP (hw : WbS S N P x πd π πs πh) {P' : PM} {π' : Nat → Nat} (hP : ∀ a, a ≠ x + 29 + 1 + 6 → P' a = P a) (hr : RuS S N P' (x + 29 + 1) π') : WbS S N P' x πd π' πs πh := by
  refine ⟨?_, hw.rt.onP (fun a h1 h2 => hP a (by omega)), hw.dr.onP (fun a h1 h2 => hP a (by omega)), ⟨hw.le.1, ?_, hw.le.2.2.1, hw.le.2.2.2.1, hr⟩, hw.sv.onP (fun a h1 h2 => hP a (by omega)), hw.hi.onP (fun a h1 h2 => hP a (by omega)), hw.as.onP (fun a h1 h2 => hP a (by omega)), ⟨hw.co.1, ?_, hw.co.2.2.onP (fun a h1 h2 => hP a (by omega))⟩, hw.ex.1, ?_, hw.ex.2.2.onP (fun a h1 h2 => hP a (by omega))⟩
  · rw [hP x (by omega)]; exact hw.1
  · rw [hP (x + 29) (by omega)]; exact hw.le.2.1
  · rw [hP (x + 281) (by omega)]; exact hw.co.2.1
  · rw [hP (x + 292) (by omega)]; exact hw.ex.2.1
/-- only the ledger, the past and what is reckoned changes -/
def Fy (x : Nat) (I I' : IM) (J J' : JM) : Prop := ∀ a, a < x + 29 ∨ (x + 59 ≤ a ∧ a < x + 89) ∨ x + 303 ≤ a → I' a = I a ∧ J' a = J a
theorem Fy.tr {I I' I'' : IM} {J J' J'' : JM} (h1 : Fy x I I' J J') (h2 : Fy x I' I'' J' J'') : Fy x I I'' J J'' := fun a ha => ⟨(h2 a ha).1.trans (h1 a ha).1, (h2 a ha).2.trans (h1 a ha).2⟩
theorem Fy.hi {I I' : IM} {J J' : JM} (h : ∀ a, a < x + 89 ∨ x + 89 + 182 ≤ a → I' a = I a ∧ J' a = J a) : Fy x I I' J J' := fun a ha => h a (by omega)
theorem Fy.uI {J : JM} {a : Nat} (h1 : x + 29 ≤ a) (h2 : a < x + 59) (k : Nat) (v : Int32) : Fy x I (u2 I a k v) J J := fun y hy => ⟨u2_off _ _ _ (by omega), rfl⟩
theorem led_hi (hw : WbS S N P x πd π πs πh) (hg : Gd g nb nc nk) (hr : Led I J (x + 29) π g h nb nc nk) {I' : IM} {J' : JM} (hf : ∀ a, a < x + 89 ∨ x + 89 + 182 ≤ a → I' a = I a ∧ J' a = J a) : Led I' J' (x + 29) π g h nb nc nk := hr.on hw.le hg.cb (fun a h1 h2 => (hf a (by omega)).1) (fun a h1 h2 => (hf a (by omega)).2)
theorem hst_le (hw : WbS S N P x πd π πs πh) (hH : Hst I J (x + 89) πh pn o G H) {I' : IM} {J' : JM} (hf : ∀ a, a < x + 29 ∨ x + 59 ≤ a → I' a = I a ∧ J' a = J a) : Hst I' J' (x + 89) πh pn o G H := hH.on hw.hi (fun a h1 h2 => (hf a (by omega)).1) (fun a h1 h2 => (hf a (by omega)).2)
theorem k_rem (hw : WbS S N P x πd π πs πh) (hg : Gd g nb nc nk) (hr : Led I J (x + 29) π g h nb nc nk) (hH : Hst I J (x + 89) πh pn o G H)
    (hq : ∀ I' J' o', (∀ a, a < x + 89 ∨ x + 89 + 182 ≤ a → I' a = I a ∧ J' a = J a) → Hst I' J' (x + 89) πh (psn pn) o' (psh pn G g) (psh pn H h) → Led I' J' (x + 29) π g h nb nc nk → Q none I' J' P) : CWp S N (d + 4) MX4_remember [.ref (x + 89), .ref (x + 29)] I J P Q :=
  k_remember hw.hi hw.le (by omega) hg hr hH (fun I' J' o' f1 f2 => hq I' J' o' f1 f2 (led_hi hw hg hr f1))
theorem w_append (hw : WbS S N P x πd π πs πh) {c : Int32} (hc : 33 ≤ c ∧ c ≤ 126) {n : Nat} (hn : n < 80) (h1 : I (x + 1) 1 = nI n) : CWp S N (d + 1) MX8_appendCharacter [.ref x, .int c] I J P Q ↔ Q (some (.int (nI (n + 1)))) (u2 (u2 I (x + 2) n c) (x + 1) 1 (nI (n + 1))) J P := by
  rw [c_X8_appendCharacter]
  have hw' := hw.f
  have hrt := hw.rt
  unfold RtS at hrt
  have g1 : nI n < 80 := nI_lt (b := 80) hn (by decide)
  have e1 : (u2 I (x + 2) n c) (x + 1) 1 = nI n := by rw [u2_off _ _ _ (by omega)]; exact h1
  simp only [e_X8_appendCharacter_0, e_X8_appendCharacter_1, e_X8_appendCharacter_2, e_X8_appendCharacter_4, e_X8_appendCharacter_6, e_X8_appendCharacter_9, e_X8_appendCharacter_10, e_X8_appendCharacter_13, e_X8_appendCharacter_16, e_X8_appendCharacter_18, e_X8_appendCharacter_31, e_X8_appendCharacter_32, e_X8_appendCharacter_35, e_X8_appendCharacter_38, e_X8_appendCharacter_39, e_X8_appendCharacter_42, e_X8_appendCharacter_45, e_X8_appendCharacter_46, e_X8_appendCharacter_47, e_X8_appendCharacter_48, e_X8_appendCharacter_51, e_X8_appendCharacter_52, e_X8_appendCharacter_55, e_X8_appendCharacter_56, e_X8_appendCharacter_57, e_X8_appendCharacter_60, e_X8_appendCharacter_61, e_X8_appendCharacter_64, e_X8_appendCharacter_67, hw', hrt, k_rR hc.1 hc.2, h1, g1, e1, nI_1, nI_clamp (show n < 2 ^ 31 by omega), vpn hn (by decide), true_and, and_true, rf_s, not_true_eq_false, not_false_eq_true, true_implies, false_implies, kl_i, kl_n, kl_l, kl_r, Option.toList, List.cons_append, List.nil_append, if_true, if_false, u2s, lt00, lt01, lt02, lt03, le10, le20, le30, ne10, ne20, ne30, eq00]
theorem w_save (hw : WbS S N P x πd π πs πh) (hg : Gd g nb nc nk) (hr : Led I J (x + 29) π g h nb nc nk)
    (hq : ∀ I' J', (∀ a, a ≠ x → a < x + 59 ∨ x + 89 ≤ a → I' a = I a ∧ J' a = J a) → J' x = J x → (∀ k, k ≠ 4 → I' x k = I x k) → I' x 4 = 1 → Led I' J' (x + 59) πs g h nb nc nk → Q none I' J' P) : CWp S N (d + 4) MX8_save [.ref x] I J P Q := by
  rw [c_X8_save]
  have hw' := hw.f
  have hs := hw.sv.1
  simp only [e_X8_save_0, e_X8_save_1, e_X8_save_4, e_X8_save_5, e_X8_save_8, hw', hs, true_and, and_true, rf_s, not_true_eq_false, not_false_eq_true, true_implies, false_implies, kl_i, kl_n, kl_l, kl_r, Option.toList, List.cons_append, List.nil_append, if_true, if_false, u2s, lt00, lt01, lt02, lt03, le10, le20, le30, ne10, ne20, ne30, eq00]
  refine k_leCopy (d := d) hw.sv hw.le (by omega) hg.cb hr (fun I1 J1 f1 f2 => ?_)
  simp only [e_X8_save_11, e_X8_save_12, e_X8_save_13 isB0, e_X8_save_13 isB1, e_X8_save_13 isB_ite, e_X8_save_16, hw', true_and, and_true, rf_s, not_true_eq_false, not_false_eq_true, true_implies, false_implies, kl_i, kl_n, kl_l, kl_r, Option.toList, List.cons_append, List.nil_append, if_true, if_false, u2s, lt00, lt01, lt02, lt03, le10, le20, le30, ne10, ne20, ne30, eq00]
  refine hq _ J1 (fun a h1 h2 => ⟨by rw [u2_off _ _ _ h1]; exact (f1 a (by omega)).1, (f1 a (by omega)).2⟩) (f1 x (by omega)).2 (fun k hk => by rw [u2k _ _ _ hk]; rw [(f1 x (by omega)).1]) (u2s _ _ _ _) (f2.on hw.sv hg.cb (fun a h1 h2 => u2_off _ _ _ (by omega)) (fun _ _ _ => rfl))
theorem w_restore (hw : WbS S N P x πd π πs πh) (hg : Gd g nb nc nk) (hr : Led I J (x + 29) π g h nb nc nk) (hH : Hst I J (x + 89) πh pn o G H) (h4 : I x 4 = 1) {g2 : Nat → Int32} {h2 : Nat → Int64} {nb2 nc2 nk2 : Nat} (hg2 : Gd g2 nb2 nc2 nk2) (hr2 : Led I J (x + 59) πs g2 h2 nb2 nc2 nk2)
    (hq : ∀ I' J' o', Fy x I I' J J' → Hst I' J' (x + 89) πh (psn pn) o' (psh pn G g) (psh pn H h) → Led I' J' (x + 29) π g2 h2 nb2 nc2 nk2 → Q none I' J' P) : CWp S N (d + 5) MX8_restore [.ref x] I J P Q := by
  rw [c_X8_restore]
  have hw' := hw.f
  have hs := hw.hi.1
  have hs2 := hw.le.1
  simp only [e_X8_restore_0, e_X8_restore_1, e_X8_restore_4, e_X8_restore_18, e_X8_restore_19, e_X8_restore_22, e_X8_restore_23, e_X8_restore_26, hw', h4, hs, ne10, true_and, and_true, rf_s, not_true_eq_false, not_false_eq_true, true_implies, false_implies, kl_i, kl_n, kl_l, kl_r, Option.toList, List.cons_append, List.nil_append, if_true, if_false, u2s, lt00, lt01, lt02, lt03, le10, le20, le30, ne10, ne20, ne30, eq00]
  refine k_rem (d := d) hw hg hr hH (fun I1 J1 o1 f1 f2 f3 => ?_)
  simp only [e_X8_restore_29, e_X8_restore_30, e_X8_restore_33, e_X8_restore_34, e_X8_restore_37, hw', hs2, true_and, and_true, rf_s, not_true_eq_false, not_false_eq_true, true_implies, false_implies, kl_i, kl_n, kl_l, kl_r, Option.toList, List.cons_append, List.nil_append, if_true, if_false, u2s, lt00, lt01, lt02, lt03, le10, le20, le30, ne10, ne20, ne30, eq00]
  refine k_leCopy (d := d + 1) hw.le hw.sv (by omega) hg2.cb (hr2.on hw.sv hg2.cb (fun a h1 h2 => (f1 a (by omega)).1) (fun a h1 h2 => (f1 a (by omega)).2)) (fun I2 J2 a1 a2 => ?_)
  simp only [e_X8_restore_40, true_and, and_true, rf_s, not_true_eq_false, not_false_eq_true, true_implies, false_implies, kl_i, kl_n, kl_l, kl_r, Option.toList, List.cons_append, List.nil_append, if_true, if_false, u2s, lt00, lt01, lt02, lt03, le10, le20, le30, ne10, ne20, ne30, eq00]
  exact hq I2 J2 o1 ((Fy.hi f1).tr (fun a ha => a1 a (by omega))) (hst_le hw f2 (fun a ha => a1 a (by omega))) a2
theorem w_undo (hw : WbS S N P x πd π πs πh) (hH : Hst I J (x + 89) πh (pn + 1) o G H)
    (hq : ∀ I' J' nb nc nk, Fy x I I' J J' → Gd (G pn) nb nc nk → Led I' J' (x + 29) π (G pn) (H pn) nb nc nk → Hst I' J' (x + 89) πh pn o G H → Q (some (.int (nI pn))) I' J' P) : CWp S N (d + 5) MX8_undo [.ref x] I J P Q := by
  rw [c_X8_undo]
  have hw' := hw.f
  have hs := hw.hi.1
  have h2 := hH.2.2.2.1
  have hne : ¬ nI (pn + 1) = 0 := nI_ne0 (by omega) (by have := hH.1; omega)
  simp only [e_X8_undo_0, e_X8_undo_1, e_X8_undo_4, e_X8_undo_7, e_X8_undo_21, e_X8_undo_22, e_X8_undo_25, e_X8_undo_26, e_X8_undo_29, hw', hs, h2, hne, true_and, and_true, rf_s, not_true_eq_false, not_false_eq_true, true_implies, false_implies, kl_i, kl_n, kl_l, kl_r, Option.toList, List.cons_append, List.nil_append, if_true, if_false, u2s, lt00, lt01, lt02, lt03, le10, le20, le30, ne10, ne20, ne30, eq00]
  refine k_takeBack (d := d) hw.hi hw.le (by omega) hH (fun I1 J1 nb nc nk f1 f2 f3 f4 => ?_)
  have h2' := f4.2.2.2.1
  simp only [e_X8_undo_32, e_X8_undo_33, e_X8_undo_36, e_X8_undo_39, hw', hs, h2', true_and, and_true, rf_s, not_true_eq_false, not_false_eq_true, true_implies, false_implies, kl_i, kl_n, kl_l, kl_r, Option.toList, List.cons_append, List.nil_append, if_true, if_false, u2s, lt00, lt01, lt02, lt03, le10, le20, le30, ne10, ne20, ne30, eq00]
  exact hq I1 J1 nb nc nk (fun a ha => f1 a (by omega) (by omega)) f2 f3 f4
theorem w_clearRules (hw : WbS S N P x πd π πs πh) (hg : Gd g nb nc nk) (hr : Led I J (x + 29) π g h nb nc nk) (hH : Hst I J (x + 89) πh pn o G H)
    (hq : ∀ I' J' o', Fy x I I' J J' → Hst I' J' (x + 89) πh (psn pn) o' (psh pn G g) (psh pn H h) → (∀ (g' : Nat → Int32) (h' : Nat → Int64), (∀ k, g' k = if k = 0 then 1 else if k < 64 then 0 else g k) → Led I' J' (x + 29) π g' h' 1 0 0) → Q (some (.int (nI nc + nI nk))) I' J' P) : CWp S N (d + 5) MX8_clearRules [.ref x] I J P Q := by
  rw [c_X8_clearRules]
  have hw' := hw.f
  have hl' := hw.le.f
  have hru := hw.le.r.f
  have hs := hw.hi.1
  simp only [e_X8_clearRules_0, e_X8_clearRules_1, e_X8_clearRules_4, e_X8_clearRules_5, e_X8_clearRules_8, hw', hs, true_and, and_true, rf_s, not_true_eq_false, not_false_eq_true, true_implies, false_implies, kl_i, kl_n, kl_l, kl_r, Option.toList, List.cons_append, List.nil_append, if_true, if_false, u2s, lt00, lt01, lt02, lt03, le10, le20, le30, ne10, ne20, ne30, eq00]
  refine k_rem (d := d) hw hg hr hH (fun I1 J1 o1 f1 f2 f3 => ?_)
  have h1 := f3.1.1.2.1
  have h2 := f3.1.1.2.2
  simp only [e_X8_clearRules_11, e_X8_clearRules_12, e_X8_clearRules_15, e_X8_clearRules_18, e_X8_clearRules_21, e_X8_clearRules_22, e_X8_clearRules_25, e_X8_clearRules_28, e_X8_clearRules_31, e_X8_clearRules_32, e_X8_clearRules_33, e_X8_clearRules_34, e_X8_clearRules_37, e_X8_clearRules_40, hw', hl', hru, h1, h2, true_and, and_true, rf_s, not_true_eq_false, not_false_eq_true, true_implies, false_implies, kl_i, kl_n, kl_l, kl_r, Option.toList, List.cons_append, List.nil_append, if_true, if_false, u2s, lt00, lt01, lt02, lt03, le10, le20, le30, ne10, ne20, ne30, eq00]
  refine k_clear (d := d + 4) hw.le.r (fun I2 a1 a2 => ?_)
  simp only [e_X8_clearRules_43, e_X8_clearRules_44, true_and, and_true, rf_s, not_true_eq_false, not_false_eq_true, true_implies, false_implies, kl_i, kl_n, kl_l, kl_r, Option.toList, List.cons_append, List.nil_append, if_true, if_false, u2s, lt00, lt01, lt02, lt03, le10, le20, le30, ne10, ne20, ne30, eq00]
  refine hq I2 J1 o1 ((Fy.hi f1).tr (fun a ha => ⟨a1 a (by omega), rfl⟩)) (hst_le hw f2 (fun a ha => ⟨a1 a (by omega), rfl⟩)) (fun g' h' hg' => ⟨a2 g' h' (fun k hk => by
      rw [hg' k]
      by_cases h0 : k = 0
      · rw [if_pos h0, if_pos h0]
      · rw [if_neg h0, if_neg h0, if_pos hk]), ?_⟩)
  have hp : Prs I2 (x + 29) g := by
    refine ⟨by rw [a1 (x + 29) (by omega)]; exact f3.2.1, fun p hp => ?_⟩
    rw [a1 (x + 29 + 26) (by omega), a1 (x + 29 + 27) (by omega), a1 (x + 29 + 28) (by omega), a1 (x + 29 + 29) (by omega)]
    exact f3.2.2 p hp
  exact hp.cg (fun k h1 h2 => by rw [hg' k, if_neg (by omega), if_neg (by omega)])
theorem w_setPerson (hw : WbS S N P x πd π πs πh) (hg : Gd g nb nc nk) (hr : Led I J (x + 29) π g h nb nc nk) (hH : Hst I J (x + 89) πh pn o G H) {p : Nat} {e t dd : Int32} (hp6 : p < 6) (h1 : 0 ≤ e ∧ e ≤ 9999) (h2 : 0 ≤ t ∧ t ≤ 9999) (h3 : 0 ≤ dd ∧ dd ≤ 9)
    (hq : ∀ I' J' o', Fy x I I' J J' → Hst I' J' (x + 89) πh (psn pn) o' (psh pn G g) (psh pn H h) → (∀ (g' : Nat → Int32), (∀ k, g' k = if k = 64 + 3 * p then e else if k = 65 + 3 * p then t else if k = 66 + 3 * p then dd else g k) → Led I' J' (x + 29) π g' h nb nc nk) → Q none I' J' P) : CWp S N (d + 5) MX8_setPerson [.ref x, .int (nI p), .int e, .int t, .int dd] I J P Q := by
  rw [c_X8_setPerson]
  have hw' := hw.f
  have hl' := hw.le.f
  have hs := hw.hi.1
  simp only [e_X8_setPerson_0, e_X8_setPerson_1, e_X8_setPerson_2, e_X8_setPerson_4, e_X8_setPerson_7, e_X8_setPerson_8, e_X8_setPerson_9, e_X8_setPerson_10, e_X8_setPerson_13, e_X8_setPerson_16, e_X8_setPerson_17, e_X8_setPerson_18, e_X8_setPerson_19, e_X8_setPerson_22, e_X8_setPerson_25, e_X8_setPerson_26, e_X8_setPerson_28, e_X8_setPerson_29, e_X8_setPerson_31, e_X8_setPerson_34, e_X8_setPerson_35, e_X8_setPerson_38, e_X8_setPerson_39, e_X8_setPerson_42, hw', hs, k_rI6 hp6, k_rR h1.1 h1.2, k_rR h2.1 h2.2, k_rR h3.1 h3.2, true_and, and_true, rf_s, not_true_eq_false, not_false_eq_true, true_implies, false_implies, kl_i, kl_n, kl_l, kl_r, Option.toList, List.cons_append, List.nil_append, if_true, if_false, u2s, lt00, lt01, lt02, lt03, le10, le20, le30, ne10, ne20, ne30, eq00]
  refine k_rem (d := d) hw hg hr hH (fun I1 J1 o1 f1 f2 f3 => ?_)
  simp only [e_X8_setPerson_45, e_X8_setPerson_46, e_X8_setPerson_49, e_X8_setPerson_52, e_X8_setPerson_53, e_X8_setPerson_54, e_X8_setPerson_55, e_X8_setPerson_56, e_X8_setPerson_59, e_X8_setPerson_62, e_X8_setPerson_63, e_X8_setPerson_64, e_X8_setPerson_65, e_X8_setPerson_66, e_X8_setPerson_69, e_X8_setPerson_72, e_X8_setPerson_73, e_X8_setPerson_75, e_X8_setPerson_76, hw', hl', nI_clamp (show p < 2 ^ 31 by omega), vpn hp6 (by decide), true_and, and_true, rf_s, not_true_eq_false, not_false_eq_true, true_implies, false_implies, kl_i, kl_n, kl_l, kl_r, Option.toList, List.cons_append, List.nil_append, if_true, if_false, u2s, lt00, lt01, lt02, lt03, le10, le20, le30, ne10, ne20, ne30, eq00]
  have fo : ∀ a, a ≠ x + 29 + 26 → a ≠ x + 29 + 27 → a ≠ x + 29 + 28 → (u2 (u2 (u2 I1 (x + 29 + 26) p e) (x + 29 + 27) p t) (x + 29 + 28) p dd) a = I1 a := fun a b1 b2 b3 => by rw [u2_off _ _ _ b3, u2_off _ _ _ b2, u2_off _ _ _ b1]
  refine hq _ J1 o1 ((Fy.hi f1).tr (fun a ha => ⟨fo a (by omega) (by omega) (by omega), rfl⟩)) (hst_le hw f2 (fun a ha => ⟨fo a (by omega) (by omega) (by omega), rfl⟩)) (fun g' hg' => ⟨(f3.1.on hw.le.r hg.cb (fun a b1 b2 => fo a (by omega) (by omega) (by omega)) (fun _ _ _ => rfl)).cg hg.cb (fun k hk => by rw [hg' k, if_neg (by omega), if_neg (by omega), if_neg (by omega)]) (fun _ _ _ _ => rfl), ?_, fun r hr6 => ?_⟩)
  · rw [fo _ (by omega) (by omega) (by omega), hg' 88, if_neg (by omega), if_neg (by omega), if_neg (by omega)]
    exact f3.2.1
  · obtain ⟨b1, b2, b3, b4⟩ := f3.2.2 r hr6
    rw [hg' (64 + 3 * r), hg' (65 + 3 * r), hg' (66 + 3 * r), hg' (82 + r), fo (x + 29 + 29) (by omega) (by omega) (by omega), u2_off _ _ _ (show x + 29 + 26 ≠ x + 29 + 28 by omega), u2_off _ _ _ (show x + 29 + 26 ≠ x + 29 + 27 by omega), u2_off _ _ _ (show x + 29 + 27 ≠ x + 29 + 28 by omega)]
    by_cases hrp : r = p
    · subst hrp
      refine ⟨?_, ?_, ?_, ?_⟩
      · rw [u2s, if_pos rfl]
      · rw [u2s, if_neg (by omega), if_pos rfl]
      · rw [u2s, if_neg (by omega), if_neg (by omega), if_pos rfl]
      · rw [b4, if_neg (by omega), if_neg (by omega), if_neg (by omega)]
    · refine ⟨?_, ?_, ?_, ?_⟩
      · rw [u2k _ _ _ hrp, b1, if_neg (by omega), if_neg (by omega), if_neg (by omega)]
      · rw [u2k _ _ _ hrp, u2_off _ _ _ (show x + 29 + 27 ≠ x + 29 + 26 by omega), b2, if_neg (by omega), if_neg (by omega), if_neg (by omega)]
      · rw [u2k _ _ _ hrp, u2_off _ _ _ (show x + 29 + 28 ≠ x + 29 + 27 by omega), u2_off _ _ _ (show x + 29 + 28 ≠ x + 29 + 26 by omega), b3, if_neg (by omega), if_neg (by omega), if_neg (by omega)]
      · rw [b4, if_neg (by omega), if_neg (by omega), if_neg (by omega)]
/-- two partners set -/
theorem led_par (hw : WbS S N P x πd π πs πh) (hg : Gd g nb nc nk) (hr : Led I J (x + 29) π g h nb nc nk) {p q : Nat} {v w : Int32} (hne : p ≠ q) {g' : Nat → Int32} (hp : p < 6) (hq : q < 6) (hg' : ∀ k, g' k = if k = 82 + p then v else if k = 82 + q then w else g k) : Led (u2 (u2 I (x + 29 + 29) p v) (x + 29 + 29) q w) J (x + 29) π g' h nb nc nk := by
  have fo : ∀ a, a ≠ x + 29 + 29 → (u2 (u2 I (x + 29 + 29) p v) (x + 29 + 29) q w) a = I a := fun a b1 => by rw [u2_off _ _ _ b1, u2_off _ _ _ b1]
  refine ⟨(hr.1.on hw.le.r hg.cb (fun a b1 b2 => fo a (by omega)) (fun _ _ _ => rfl)).cg hg.cb (fun k hk => by rw [hg' k, if_neg (by omega), if_neg (by omega)]) (fun _ _ _ _ => rfl), ?_, fun r hr6 => ?_⟩
  · rw [fo _ (by omega), hg' 88, if_neg (by omega), if_neg (by omega)]
    exact hr.2.1
  · obtain ⟨b1, b2, b3, b4⟩ := hr.2.2 r hr6
    refine ⟨?_, ?_, ?_, ?_⟩
    · rw [fo _ (by omega), b1, hg', if_neg (by omega), if_neg (by omega)]
    · rw [fo _ (by omega), b2, hg', if_neg (by omega), if_neg (by omega)]
    · rw [fo _ (by omega), b3, hg', if_neg (by omega), if_neg (by omega)]
    · rw [hg']
      by_cases hrq : r = q
      · subst hrq
        rw [u2s, if_neg (by omega), if_pos rfl]
      · rw [u2k _ _ _ hrq]
        by_cases hrp : r = p
        · subst hrp
          rw [u2s, if_pos rfl]
        · rw [u2k _ _ _ hrp, b4, if_neg (by omega), if_neg (by omega)]
theorem w_marry (hw : WbS S N P x πd π πs πh) (hg : Gd g nb nc nk) (hr : Led I J (x + 29) π g h nb nc nk) (hH : Hst I J (x + 89) πh pn o G H) {p q : Nat} (hp6 : p < 6) (hq6 : q < 6) (hne : p ≠ q) (h1 : g (82 + p) = -1) (h2 : g (82 + q) = -1)
    (hq : ∀ I' J' o', Fy x I I' J J' → Hst I' J' (x + 89) πh (psn pn) o' (psh pn G g) (psh pn H h) → (∀ (g' : Nat → Int32), (∀ k, g' k = if k = 82 + p then nI q else if k = 82 + q then nI p else g k) → Led I' J' (x + 29) π g' h nb nc nk) → Q none I' J' P) : CWp S N (d + 5) MX8_marry [.ref x, .int (nI p), .int (nI q)] I J P Q := by
  rw [c_X8_marry]
  have hw' := hw.f
  have hl' := hw.le.f
  have hs := hw.hi.1
  have b1 := led_partner hr hp6
  have b2 := led_partner hr hq6
  have g1 : ¬ nI p = nI q := fun z => hne ((nI_eq (by omega) (by omega)).mp z)
  simp only [e_X8_marry_0, e_X8_marry_1, e_X8_marry_2, e_X8_marry_4, e_X8_marry_7, e_X8_marry_8, e_X8_marry_9, e_X8_marry_11, e_X8_marry_14, e_X8_marry_15, e_X8_marry_16, e_X8_marry_29, e_X8_marry_30, e_X8_marry_33, e_X8_marry_36, e_X8_marry_37, e_X8_marry_38, e_X8_marry_39, e_X8_marry_42, e_X8_marry_43, e_X8_marry_46, e_X8_marry_49, e_X8_marry_50, e_X8_marry_51, e_X8_marry_52, e_X8_marry_65, e_X8_marry_66, e_X8_marry_69, e_X8_marry_70, e_X8_marry_73, hw', hl', hs, k_rI6 hp6, k_rI6 hq6, g1, b1, b2, h1, h2, nI_clamp (show p < 2 ^ 31 by omega), vpn hp6 (by decide), nI_clamp (show q < 2 ^ 31 by omega), vpn hq6 (by decide), true_and, and_true, rf_s, not_true_eq_false, not_false_eq_true, true_implies, false_implies, kl_i, kl_n, kl_l, kl_r, Option.toList, List.cons_append, List.nil_append, if_true, if_false, u2s, lt00, lt01, lt02, lt03, le10, le20, le30, ne10, ne20, ne30, eq00]
  refine k_rem (d := d) hw hg hr hH (fun I1 J1 o1 f1 f2 f3 => ?_)
  simp only [e_X8_marry_76, e_X8_marry_77, e_X8_marry_80, e_X8_marry_83, e_X8_marry_84, e_X8_marry_85, e_X8_marry_86, e_X8_marry_87, e_X8_marry_90, e_X8_marry_93, e_X8_marry_94, e_X8_marry_95, e_X8_marry_96, hw', hl', nI_clamp (show p < 2 ^ 31 by omega), vpn hp6 (by decide), nI_clamp (show q < 2 ^ 31 by omega), vpn hq6 (by decide), true_and, and_true, rf_s, not_true_eq_false, not_false_eq_true, true_implies, false_implies, kl_i, kl_n, kl_l, kl_r, Option.toList, List.cons_append, List.nil_append, if_true, if_false, u2s, lt00, lt01, lt02, lt03, le10, le20, le30, ne10, ne20, ne30, eq00]
  refine hq _ J1 o1 ((Fy.hi f1).tr ((Fy.uI (by omega) (by omega) _ _).tr (Fy.uI (by omega) (by omega) _ _))) (hst_le hw f2 (fun a ha => ⟨by rw [u2_off _ _ _ (by omega), u2_off _ _ _ (by omega)], rfl⟩)) (fun g' hg' => led_par hw hg f3 hne hp6 hq6 hg')
theorem w_part (hw : WbS S N P x πd π πs πh) (hg : Gd g nb nc nk) (hr : Led I J (x + 29) π g h nb nc nk) (hH : Hst I J (x + 89) πh pn o G H) {p q : Nat} (hcp : Cp g p q)
    (hq : ∀ I' J' o', Fy x I I' J J' → Hst I' J' (x + 89) πh (psn pn) o' (psh pn G g) (psh pn H h) → (∀ (g' : Nat → Int32), (∀ k, g' k = if k = 82 + p then -1 else if k = 82 + q then -1 else g k) → Led I' J' (x + 29) π g' h nb nc nk) → Q (some (.int (nI q))) I' J' P) : CWp S N (d + 5) MX8_part [.ref x, .int (nI p)] I J P Q := by
  rw [c_X8_part]
  have hw' := hw.f
  have hl' := hw.le.f
  have hs := hw.hi.1
  have hp6 := hcp.1
  have hq6 := hcp.2.1
  simp only [e_X8_part_0, e_X8_part_1, e_X8_part_2, e_X8_part_5, e_X8_part_6, e_X8_part_7, e_X8_part_10, e_X8_part_11, e_X8_part_14, hw', hs, k_rP hw hr hcp, true_and, and_true, rf_s, not_true_eq_false, not_false_eq_true, true_implies, false_implies, kl_i, kl_n, kl_l, kl_r, Option.toList, List.cons_append, List.nil_append, if_true, if_false, u2s, lt00, lt01, lt02, lt03, le10, le20, le30, ne10, ne20, ne30, eq00]
  refine k_rem (d := d) hw hg hr hH (fun I1 J1 o1 f1 f2 f3 => ?_)
  simp only [e_X8_part_17, e_X8_part_18, e_X8_part_21, e_X8_part_24, e_X8_part_25, e_X8_part_26, e_X8_part_27, e_X8_part_28, e_X8_part_31, e_X8_part_34, e_X8_part_35, e_X8_part_36, e_X8_part_37, e_X8_part_38, hw', hl', nI_clamp (show p < 2 ^ 31 by omega), vpn hp6 (by decide), nI_clamp (show q < 2 ^ 31 by omega), vpn hq6 (by decide), true_and, and_true, rf_s, not_true_eq_false, not_false_eq_true, true_implies, false_implies, kl_i, kl_n, kl_l, kl_r, Option.toList, List.cons_append, List.nil_append, if_true, if_false, u2s, lt00, lt01, lt02, lt03, le10, le20, le30, ne10, ne20, ne30, eq00]
  refine hq _ J1 o1 ((Fy.hi f1).tr ((Fy.uI (by omega) (by omega) _ _).tr (Fy.uI (by omega) (by omega) _ _))) (hst_le hw f2 (fun a ha => ⟨by rw [u2_off _ _ _ (by omega), u2_off _ _ _ (by omega)], rfl⟩)) (fun g' hg' => led_par hw hg f3 hcp.2.2.1 hp6 hq6 hg')
/-- the ledger with its credits in another order -/
theorem led_mv (hr : Led I J (x + 29) π g h nb nc nk) {f t nk' : Nat} (hm : ∀ k, k < nk' → mvp f t k < nk) {I' : IM} (h7 : I' (x + 29 + 1) 7 = nI nk') (hI : ∀ a, a ≠ x + 29 + 1 → I' a = I a) (hI2 : ∀ k, k ≠ 7 → I' (x + 29 + 1) k = I (x + 29 + 1) k) {g' : Nat → Int32} {h' : Nat → Int64} (hb : nb ≤ 6 ∧ nc ≤ 4 ∧ nk' ≤ 6)
    (a1 : ∀ y, y < 27 ∨ 64 ≤ y → g' y = g y) (a2 : ∀ k j, k < 6 → j < 6 → g' (28 + 6 * k + j) = g (28 + 6 * mvp f t k + j)) (a3 : ∀ p k, p < 6 → k < nk' → h' (6 * p + k) = h (6 * p + mvp f t k)) : Led I' J (x + 29) (fun k => π (mvp f t k)) g' h' nb nc nk' := by
  obtain ⟨⟨⟨c1, c2, c3⟩, c4, c5, c6, c7⟩, c8, c9⟩ := hr
  refine ⟨⟨⟨by rw [hI2 0 (by decide)]; exact c1, by rw [hI2 4 (by decide)]; exact c2, h7⟩, fun k hk => ?_, fun j hj => ?_, fun k hk => ?_, fun k hk => ⟨fun j hj => ?_, fun p hp => ?_⟩⟩, ?_, fun p hp => ?_⟩
  · rw [hI _ (by omega), hI _ (by omega), a1 _ (by omega), a1 _ (by omega)]; exact c4 k hk
  · rw [hI _ (by omega), a1 _ (by omega)]; exact c5 j hj
  · rw [hI _ (by omega), hI _ (by omega), a1 _ (by omega), a1 _ (by omega)]; exact c6 k hk
  · rw [hI _ (by omega), a2 k j (by omega) hj]; exact (c7 _ (hm k hk)).1 j hj
  · rw [a3 p k hp hk]; exact (c7 _ (hm k hk)).2 p hp
  · rw [hI _ (by omega), a1 _ (by omega)]; exact c8
  · rw [hI _ (by omega), hI _ (by omega), hI _ (by omega), hI _ (by omega), a1 _ (by omega), a1 _ (by omega), a1 _ (by omega), a1 _ (by omega)]; exact c9 p hp
theorem w_removeCredit (hw : WbS S N P x πd π πs πh) (hg : Gd g nb nc nk) (hr : Led I J (x + 29) π g h nb nc nk) (hH : Hst I J (x + 89) πh pn o G H) {k : Nat} (hk : k < nk)
    (hq : ∀ I' J' P' o' π', (∀ a, a ≠ x + 29 + 1 + 6 → P' a = P a) → WbS S N P' x πd π' πs πh → Fy x I I' J J' → Hst I' J' (x + 89) πh (psn pn) o' (psh pn G g) (psh pn H h) → (∀ (g' : Nat → Int32) (h' : Nat → Int64), (∀ y, y < 27 ∨ 64 ≤ y → g' y = g y) → (∀ k' j, k' < 6 → j < 6 → g' (28 + 6 * k' + j) = g (28 + 6 * mvp k (nk - 1) k' + j)) → (∀ p k', p < 6 → k' < nk - 1 → h' (6 * p + k') = h (6 * p + mvp k (nk - 1) k')) → Led I' J' (x + 29) π' g' h' nb nc (nk - 1)) → Q (some (.int (nI (nk - 1)))) I' J' P') : CWp S N (d + 5) MX8_removeCredit [.ref x, .int (nI k)] I J P Q := by
  rw [c_X8_removeCredit]
  have hw' := hw.f
  have hl' := hw.le.f
  have hru := hw.le.r.f
  have hs := hw.hi.1
  have h1 := hr.1.1.2.2
  have hnk := hg.1.2.2.1
  simp only [e_X8_removeCredit_0, e_X8_removeCredit_1, e_X8_removeCredit_2, e_X8_removeCredit_3, e_X8_removeCredit_6, e_X8_removeCredit_9, e_X8_removeCredit_12, e_X8_removeCredit_15, e_X8_removeCredit_16, e_X8_removeCredit_19, e_X8_removeCredit_20, e_X8_removeCredit_23, hw', hl', hru, hs, h1, k_rI hk (show nk < 2 ^ 31 by omega), true_and, and_true, rf_s, not_true_eq_false, not_false_eq_true, true_implies, false_implies, kl_i, kl_n, kl_l, kl_r, Option.toList, List.cons_append, List.nil_append, if_true, if_false, u2s, lt00, lt01, lt02, lt03, le10, le20, le30, ne10, ne20, ne30, eq00]
  refine k_rem (d := d) hw hg hr hH (fun I1 J1 o1 f1 f2 f3 => ?_)
  obtain ⟨n9, rfl⟩ : ∃ n9, nk = n9 + 1 := ⟨nk - 1, by omega⟩
  simp only [e_X8_removeCredit_26, e_X8_removeCredit_27, e_X8_removeCredit_30, e_X8_removeCredit_33, e_X8_removeCredit_34, hw', hl', hru, true_and, and_true, rf_s, not_true_eq_false, not_false_eq_true, true_implies, false_implies, kl_i, kl_n, kl_l, kl_r, Option.toList, List.cons_append, List.nil_append, if_true, if_false, u2s, lt00, lt01, lt02, lt03, le10, le20, le30, ne10, ne20, ne30, eq00]
  refine k_drop (d := d + 3) hw.le.r (nk := n9) f3.1.1.2.2 (by omega) (by omega) (fun P1 a1 a2 => ?_)
  have hw1 := hw.reP a1 a2
  have hw1' := hw1.f
  have hl1' := hw1.le.f
  have hru1 := hw1.le.r.f
  simp only [e_X8_removeCredit_37, e_X8_removeCredit_38, e_X8_removeCredit_41, e_X8_removeCredit_44, e_X8_removeCredit_47, hw1', hl1', hru1, true_and, and_true, rf_s, not_true_eq_false, not_false_eq_true, true_implies, false_implies, kl_i, kl_n, kl_l, kl_r, Option.toList, List.cons_append, List.nil_append, if_true, if_false, u2s, lt00, lt01, lt02, lt03, le10, le20, le30, ne10, ne20, ne30, eq00]
  rw [Nat.add_sub_cancel] at hq
  refine hq _ J1 P1 o1 _ a1 hw1 ((Fy.hi f1).tr (Fy.uI (by omega) (by omega) _ _)) (hst_le hw f2 (fun a ha => ⟨u2_off _ _ _ (by omega), rfl⟩)) (fun g' h' b1 b2 b3 => ?_)
  refine led_mv f3 (fun k' hk' => ?_) (u2s _ _ _ _) (fun a ha => u2_off _ _ _ ha) (fun k' hk' => u2k _ _ _ hk') ⟨hg.1.1, hg.1.2.1, by omega⟩ b1 b2 b3
  unfold mvp
  split
  · omega
  · split
    · omega
    · split <;> omega
theorem w_moveCredit (hw : WbS S N P x πd π πs πh) (hg : Gd g nb nc nk) (hr : Led I J (x + 29) π g h nb nc nk) (hH : Hst I J (x + 89) πh pn o G H) {k t : Nat} (hk : k < nk) (ht : t < nk)
    (hq : ∀ I' J' P' o' π', (∀ a, a ≠ x + 29 + 1 + 6 → P' a = P a) → WbS S N P' x πd π' πs πh → Fy x I I' J J' → Hst I' J' (x + 89) πh (psn pn) o' (psh pn G g) (psh pn H h) → (∀ (g' : Nat → Int32) (h' : Nat → Int64), (∀ y, y < 27 ∨ 64 ≤ y → g' y = g y) → (∀ k' j, k' < 6 → j < 6 → g' (28 + 6 * k' + j) = g (28 + 6 * mvp k t k' + j)) → (∀ p k', p < 6 → k' < nk → h' (6 * p + k') = h (6 * p + mvp k t k')) → Led I' J' (x + 29) π' g' h' nb nc nk) → Q none I' J' P') : CWp S N (d + 5) MX8_moveCredit [.ref x, .int (nI k), .int (nI t)] I J P Q := by
  rw [c_X8_moveCredit]
  have hw' := hw.f
  have hl' := hw.le.f
  have hru := hw.le.r.f
  have hs := hw.hi.1
  have h1 := hr.1.1.2.2
  have hnk := hg.1.2.2.1
  simp only [e_X8_moveCredit_0, e_X8_moveCredit_1, e_X8_moveCredit_2, e_X8_moveCredit_3, e_X8_moveCredit_6, e_X8_moveCredit_9, e_X8_moveCredit_12, e_X8_moveCredit_15, e_X8_moveCredit_16, e_X8_moveCredit_17, e_X8_moveCredit_18, e_X8_moveCredit_21, e_X8_moveCredit_24, e_X8_moveCredit_27, e_X8_moveCredit_30, e_X8_moveCredit_31, e_X8_moveCredit_34, e_X8_moveCredit_35, e_X8_moveCredit_38, hw', hl', hru, hs, h1, k_rI hk (show nk < 2 ^ 31 by omega), k_rI ht (show nk < 2 ^ 31 by omega), true_and, and_true, rf_s, not_true_eq_false, not_false_eq_true, true_implies, false_implies, kl_i, kl_n, kl_l, kl_r, Option.toList, List.cons_append, List.nil_append, if_true, if_false, u2s, lt00, lt01, lt02, lt03, le10, le20, le30, ne10, ne20, ne30, eq00]
  refine k_rem (d := d) hw hg hr hH (fun I1 J1 o1 f1 f2 f3 => ?_)
  simp only [e_X8_moveCredit_41, e_X8_moveCredit_42, e_X8_moveCredit_45, e_X8_moveCredit_48, e_X8_moveCredit_49, e_X8_moveCredit_50, hw', hl', hru, true_and, and_true, rf_s, not_true_eq_false, not_false_eq_true, true_implies, false_implies, kl_i, kl_n, kl_l, kl_r, Option.toList, List.cons_append, List.nil_append, if_true, if_false, u2s, lt00, lt01, lt02, lt03, le10, le20, le30, ne10, ne20, ne30, eq00]
  refine k_shift (d := d + 4) hw.le.r (f := k) (t := t) (by omega) (by omega) (fun P1 a1 a2 => ?_)
  simp only [e_X8_moveCredit_53, true_and, and_true, rf_s, not_true_eq_false, not_false_eq_true, true_implies, false_implies, kl_i, kl_n, kl_l, kl_r, Option.toList, List.cons_append, List.nil_append, if_true, if_false, u2s, lt00, lt01, lt02, lt03, le10, le20, le30, ne10, ne20, ne30, eq00]
  refine hq I1 J1 P1 o1 _ a1 (hw.reP a1 a2) (Fy.hi f1) f2 (fun g' h' b1 b2 b3 => ?_)
  refine led_mv f3 (fun k' hk' => ?_) f3.1.1.2.2 (fun a ha => rfl) (fun k' hk' => rfl) hg.cb b1 b2 b3
  unfold mvp
  split
  · omega
  · split
    · omega
    · split <;> omega
end WT4

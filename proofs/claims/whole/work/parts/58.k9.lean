/-! the class: the explorer -/
def ExS (S N : Nat → Nat) (P : PM) (ex : Nat) : Prop := S ex = 3 ∧ P ex 0 = some (ex + 1) ∧ AsS S N P (ex + 1)
def ExI (g : Nat → Int32) (h : Nat → Int64) (nk ex p e : Nat) (I : IM) (J : JM) : Prop := AsC I (ex + 1) (nI e) (nI e + g (65 + 3 * p)) (g (66 + 3 * p)) 1 ∧ ∀ j, j < nk → J (ex + 2) j = Br1 h p j
theorem earn_eq (e v o : Int32) : e + o + (v - e) = v + o := by
  rw [Int32.add_comm e o, Int32.add_assoc, Int32.add_comm e (v - e), Int32.sub_add_cancel, Int32.add_comm]
theorem KcF_none {T : Nat → Int64} : ∀ (n e c : Nat), NkF T n e = none → KcF T n e c = c
  | 0, e, c, h => rfl
  | n + 1, e, c, h => by
    rw [NkF] at h
    rw [KcF]
    by_cases hf : flat T e
    · rw [if_pos hf] at h ⊢
      exact KcF_none n (e + 1) c h
    · rw [if_neg hf] at h
      cases h
theorem KcF_some {T : Nat → Int64} {k : Nat} : ∀ (n e c : Nat), NkF T n e = some k → e ≤ k ∧ k < e + n ∧ KcF T n e c = KcF T (e + n - (k + 1)) (k + 1) (c + 1)
  | 0, e, c, h => by rw [NkF] at h; cases h
  | n + 1, e, c, h => by
    rw [NkF] at h
    rw [KcF]
    by_cases hf : flat T e
    · rw [if_pos hf] at h ⊢
      obtain ⟨h1, h2, h3⟩ := KcF_some n (e + 1) c h
      refine ⟨by omega, by omega, ?_⟩
      rw [h3]
      congr 1
      omega
    · rw [if_neg hf] at h ⊢
      cases h
      refine ⟨Nat.le_refl _, by omega, ?_⟩
      congr 1
      omega
section KT9
variable {S N : Nat → Nat} {d : Nat} {I : IM} {J : JM} {P : PM} {Q : Option Value → IM → JM → PM → Prop} {ex l : Nat} {π : Nat → Nat} {g : Nat → Int32} {h : Nat → Int64} {nb nc nk : Nat}
theorem k_turnTo (hx : ExS S N P ex) (hl : LeS S N P l π) (hdis : ex + 11 ≤ l ∨ l + 30 ≤ ex) (hg : Gd g nb nc nk) (hr : Led I J l π g h nb nc nk) {p : Nat} (hp : p < 6)
    (hq : ∀ I' J' e, e ≤ 9999 → Fr ex (ex + 11) I I' J J' → ExI g h nk ex p e I' J' → Led I' J' l π g h nb nc nk → Q none I' J' P) : CWp S N (d + 1) MX3_turnTo [.ref ex, .ref l, .int (nI p)] I J P Q := by
  rw [c_X3_turnTo]
  obtain ⟨o1, o2, ha⟩ := hx
  have ha' := ha.f
  have hl' := hl
  unfold LeS at hl'
  obtain ⟨-, -, e3, -⟩ := hr.2.2 p hp
  obtain ⟨⟨E, hE, eE⟩, -, ⟨D, hD, eD⟩⟩ := hg.per hp
  simp only [e_X3_turnTo_0, e_X3_turnTo_1, e_X3_turnTo_4, e_X3_turnTo_5, e_X3_turnTo_6, e_X3_turnTo_7, e_X3_turnTo_10, e_X3_turnTo_11, e_X3_turnTo_12, o1, o2, ha', hl'.1, hl'.2.1, hl'.2.2.1, hl'.2.2.2.1, e3, nI_clamp (show p < 2 ^ 31 by omega), vpn hp (by decide), true_and, and_true, rf_s, not_true_eq_false, not_false_eq_true, true_implies, false_implies, kl_i, kl_n, kl_l, kl_r, Option.toList, List.cons_append, List.nil_append, if_true, if_false, u2s, lt00, lt01, lt02, lt03, le10, le20, le30, ne10, ne20, ne30, eq00]
  refine k_tAlone ha hl (by omega) hg hr hp ⟨D, by omega, eD⟩ (fun I1 J1 f1 c1 r1 b1 => ?_)
  simp only [e_X3_turnTo_15, true_and, and_true, rf_s, not_true_eq_false, not_false_eq_true, true_implies, false_implies, kl_i, kl_n, kl_l, kl_r, Option.toList, List.cons_append, List.nil_append, if_true, if_false, u2s, lt00, lt01, lt02, lt03, le10, le20, le30, ne10, ne20, ne30, eq00]
  rw [eE] at c1
  exact hq I1 J1 E hE (f1.w (by omega) (by omega)) ⟨c1, b1⟩ r1
theorem k_exAt (hx : ExS S N P ex) (hl : LeS S N P l π) (hdis : ex + 11 ≤ l ∨ l + 30 ≤ ex) (hg : Gd g nb nc nk) {p e : Nat} (hp : p < 6) (he : e ≤ 9999) (hc : AsC I (ex + 1) (nI e) (nI e + g (65 + 3 * p)) (g (66 + 3 * p)) 1) (hb : ∀ j, j < nk → J (ex + 2) j = Br1 h p j) (hr : Led I J l π g h nb nc nk)
    (hq : ∀ J', (∀ a, a < ex + 1 ∨ ex + 11 ≤ a → J' a = J a) → J' (ex + 1) 7 = TxE g h nb nc nk p e → (∀ j, j < 4 + nk → (if j < 4 then J' (ex + 1 + 2) (2 + j) else J' (ex + 1 + 4 + (j - 4)) 4) = PvF g h nb nc p j e) → ExI g h nk ex p e I J' → Led I J' l π g h nb nc nk → Q none I J' P) : CWp S N (d + 2) MX0_compute [.ref (ex + 1), .ref (l + 1)] I J P Q := by
  obtain ⟨o1, o2, ha⟩ := hx
  obtain ⟨-, ⟨O, hO, eO⟩, ⟨D, hD, eD⟩⟩ := hg.per hp
  have hcs : Cs (nI e) (nI e + g (65 + 3 * p)) (g (66 + 3 * p)) 1 := ⟨e, e + O, D, 1, by omega, by omega, by omega, by decide, rfl, by rw [eO, nI_add], eD, rfl⟩
  have hnk := hg.cb.2.2
  refine k_compute (br := Br1 h p) ha hc hcs hl.r (by omega) hg.cb hr.1 hg.rb (fun j hj => hb j hj) (fun J1 a1 a2 a3 a4 => ?_)
  refine hq J1 (fun a h1 => a1 a (by omega) (by omega) (by omega)) a2 (fun j hj => ?_) ⟨hc, fun j hj => by rw [a1 (ex + 2) (by omega) (by omega) (by omega)]; exact hb j hj⟩ (hr.on hl hg.cb (fun _ _ _ => rfl) (fun a h1 h2 => a1 a (by omega) (by omega) (by omega)))
  unfold PvF
  by_cases h4 : j < 4
  · rw [if_pos h4, a3 (2 + j) (by omega), Nat.add_comm 2 j]
    by_cases h3 : j < 3
    · rw [if_pos h3]
    · have : j = 3 := by omega
      subst this
      rfl
  · rw [if_neg h4, if_neg (by omega), a4 (j - 4) 4 (by omega) (by decide)]
    unfold Tct TxE
    rw [if_neg (by decide), if_neg (by decide), if_neg (by decide), if_neg (by decide), show j - 4 + 1 = j - 3 by omega]
theorem ExI.earn {p e e' : Nat} (hx : ExI g h nk ex p e I J) : AsC (u2 (u2 I (ex + 1) 1 (nI e + g (65 + 3 * p) + (nI e' - nI e))) (ex + 1) 0 (nI e')) (ex + 1) (nI e') (nI e' + g (65 + 3 * p)) (g (66 + 3 * p)) 1 := by
  obtain ⟨⟨c0, c1, c2, c3⟩, -⟩ := hx
  refine ⟨u2s _ _ _ _, ?_, ?_, ?_⟩
  · rw [u2k _ _ _ (by decide), u2s, earn_eq]
  · rw [u2k _ _ _ (by decide), u2k _ _ _ (by decide)]; exact c2
  · rw [u2k _ _ _ (by decide), u2k _ _ _ (by decide)]; exact c3
theorem k_taxAt (hx : ExS S N P ex) (hl : LeS S N P l π) (hdis : ex + 11 ≤ l ∨ l + 30 ≤ ex) (hg : Gd g nb nc nk) {p e e' : Nat} (hp : p < 6) (he : e' ≤ 9999) (hi : ExI g h nk ex p e I J) (hr : Led I J l π g h nb nc nk)
    (hq : ∀ I' J', Fr ex (ex + 11) I I' J J' → ExI g h nk ex p e' I' J' → Led I' J' l π g h nb nc nk → Q (some (.long (TxE g h nb nc nk p e'))) I' J' P) : CWp S N (d + 3) MX3_taxAt [.ref ex, .ref (l + 1), .int (nI e')] I J P Q := by
  rw [c_X3_taxAt]
  obtain ⟨o1, o2, ha⟩ := id hx
  have ha' := ha.f
  simp only [e_X3_taxAt_0, e_X3_taxAt_1, e_X3_taxAt_4, e_X3_taxAt_5, e_X3_taxAt_8, e_X3_taxAt_9, e_X3_taxAt_12, e_X3_taxAt_13, o1, o2, ha', k_earn ha hi.1, true_and, and_true, rf_s, not_true_eq_false, not_false_eq_true, true_implies, false_implies, kl_i, kl_n, kl_l, kl_r, Option.toList, List.cons_append, List.nil_append, if_true, if_false, u2s, lt00, lt01, lt02, lt03, le10, le20, le30, ne10, ne20, ne30, eq00]
  have f0 : ∀ v w : Int32, Fr (ex + 1) (ex + 11) I (u2 (u2 I (ex + 1) 1 v) (ex + 1) 0 w) J J := fun v w x hx => ⟨by rw [u2_off _ _ _ (by omega), u2_off _ _ _ (by omega)], rfl⟩
  refine k_exAt hx hl hdis hg hp he hi.earn hi.2 (hr.fr hl hg.cb (f0 _ _) (by omega)) (fun J1 a1 a2 a3 a4 a5 => ?_)
  simp only [e_X3_taxAt_16, e_X3_taxAt_17, e_X3_taxAt_20, e_X3_taxAt_23, o1, o2, ha', a2, true_and, and_true, rf_s, not_true_eq_false, not_false_eq_true, true_implies, false_implies, kl_i, kl_n, kl_l, kl_r, Option.toList, List.cons_append, List.nil_append, if_true, if_false, u2s, lt00, lt01, lt02, lt03, le10, le20, le30, ne10, ne20, ne30, eq00]
  exact hq _ J1 (fun x hx => ⟨(f0 _ _ x (by omega)).1, a1 x (by omega)⟩) a4 a5
theorem k_partAt (hx : ExS S N P ex) (hl : LeS S N P l π) (hdis : ex + 11 ≤ l ∨ l + 30 ≤ ex) (hg : Gd g nb nc nk) {p e e' j : Nat} (hp : p < 6) (he : e' ≤ 9999) (hj : j < 4 + nk) (hi : ExI g h nk ex p e I J) (hr : Led I J l π g h nb nc nk)
    (hq : ∀ I' J', Fr ex (ex + 11) I I' J J' → ExI g h nk ex p e' I' J' → Led I' J' l π g h nb nc nk → Q (some (.long (PvF g h nb nc p j e'))) I' J' P) : CWp S N (d + 3) MX3_partAt [.ref ex, .ref (l + 1), .int (nI j), .int (nI e')] I J P Q := by
  rw [c_X3_partAt]
  obtain ⟨o1, o2, ha⟩ := id hx
  have ha' := ha.f
  have hnk := hg.cb.2.2
  simp only [e_X3_partAt_0, e_X3_partAt_1, e_X3_partAt_4, e_X3_partAt_5, e_X3_partAt_8, e_X3_partAt_9, e_X3_partAt_12, e_X3_partAt_13, o1, o2, ha', k_earn ha hi.1, true_and, and_true, rf_s, not_true_eq_false, not_false_eq_true, true_implies, false_implies, kl_i, kl_n, kl_l, kl_r, Option.toList, List.cons_append, List.nil_append, if_true, if_false, u2s, lt00, lt01, lt02, lt03, le10, le20, le30, ne10, ne20, ne30, eq00]
  have f0 : ∀ v w : Int32, Fr (ex + 1) (ex + 11) I (u2 (u2 I (ex + 1) 1 v) (ex + 1) 0 w) J J := fun v w x hx => ⟨by rw [u2_off _ _ _ (by omega), u2_off _ _ _ (by omega)], rfl⟩
  refine k_exAt hx hl hdis hg hp he hi.earn hi.2 (hr.fr hl hg.cb (f0 _ _) (by omega)) (fun J1 a1 a2 a3 a4 a5 => ?_)
  simp only [e_X3_partAt_16, e_X3_partAt_17, e_X3_partAt_20, e_X3_partAt_21, e_X3_partAt_24, o1, o2, ha', k_curvePart ha (show j < 10 by omega), a3 j hj, true_and, and_true, rf_s, not_true_eq_false, not_false_eq_true, true_implies, false_implies, kl_i, kl_n, kl_l, kl_r, Option.toList, List.cons_append, List.nil_append, if_true, if_false, u2s, lt00, lt01, lt02, lt03, le10, le20, le30, ne10, ne20, ne30, eq00]
  exact hq _ J1 (fun x hx => ⟨(f0 _ _ x (by omega)).1, a1 x (by omega)⟩) a4 a5
theorem ka_loop (hx : ExS S N P ex) (hl : LeS S N P l π) (hdis : ex + 11 ≤ l ∨ l + 30 ≤ ex) (hg : Gd g nb nc nk) {p : Nat} (hp : p < 6) {x2 : Option Value} {b3 : Int32} : ∀ (n i : Nat), i + n = 9999 → 1 ≤ i → ∀ (I : IM) (J : JM) (e : Nat) (x9 x10 : Option Value), ExI g h nk ex p e I J → Led I J l π g h nb nc nk →
    (∀ I' J' e', Fr ex (ex + 11) I I' J J' → ExI g h nk ex p e' I' J' → Led I' J' l π g h nb nc nk → Q (some (.int (match NkF (TxE g h nb nc nk p) n i with | some k => nI k | none => -1))) I' J' P) →
    Wp S N (d + 4) MX3_kinkAbove 38 [some (.ref ex), some (.ref (l + 1)), x2, some (.int b3), some (.long (TxE g h nb nc nk p (i - 1))), none, some (.long (TxE g h nb nc nk p i)), none, some (.int (nI i)), x9, x10] [] I J P Q := by
  obtain ⟨o1, o2, ha⟩ := id hx
  intro n
  induction n with
  | zero =>
    intro i hi h1 I J e x9 x10 hi1 hr hq
    have hi : i = 9999 := by omega
    subst hi
    have g1 : (9999 : Int32) ≤ nI 9999 := by decide
    simp only [e_X3_kinkAbove_38, e_X3_kinkAbove_40, e_X3_kinkAbove_43, e_X3_kinkAbove_88, e_X3_kinkAbove_89, g1, true_and, and_true, rf_s, not_true_eq_false, not_false_eq_true, true_implies, false_implies, kl_i, kl_n, kl_l, kl_r, Option.toList, List.cons_append, List.nil_append, if_true, if_false, u2s, lt00, lt01, lt02, lt03, le10, le20, le30, ne10, ne20, ne30, eq00]
    exact hq I J e Fr.rf hi1 hr
  | succ n ih =>
    intro i hi h1 I J e x9 x10 hi1 hr hq
    have g1 : ¬ (9999 : Int32) ≤ nI i := nI_ge (b := 9999) (by omega) (by decide)
    rw [NkF] at hq
    simp only [e_X3_kinkAbove_38, e_X3_kinkAbove_40, e_X3_kinkAbove_43, e_X3_kinkAbove_46, e_X3_kinkAbove_47, e_X3_kinkAbove_48, e_X3_kinkAbove_50, e_X3_kinkAbove_51, e_X3_kinkAbove_52, o1, g1, nIp, true_and, and_true, rf_s, not_true_eq_false, not_false_eq_true, true_implies, false_implies, kl_i, kl_n, kl_l, kl_r, Option.toList, List.cons_append, List.nil_append, if_true, if_false, u2s, lt00, lt01, lt02, lt03, le10, le20, le30, ne10, ne20, ne30, eq00]
    refine k_taxAt hx hl hdis hg hp (by omega) hi1 hr (fun I1 J1 f1 i1 r1 => ?_)
    by_cases hf : flat (TxE g h nb nc nk p) i
    · rw [if_pos hf] at hq
      have hf' : (TxE g h nb nc nk p (i + 1) - TxE g h nb nc nk p i = TxE g h nb nc nk p i - TxE g h nb nc nk p (i - 1)) = True := eq_true hf.symm
      simp only [e_X3_kinkAbove_55, e_X3_kinkAbove_57, e_X3_kinkAbove_59, e_X3_kinkAbove_61, e_X3_kinkAbove_62, e_X3_kinkAbove_64, e_X3_kinkAbove_66, e_X3_kinkAbove_67, e_X3_kinkAbove_68, e_X3_kinkAbove_71, e_X3_kinkAbove_73, e_X3_kinkAbove_74, e_X3_kinkAbove_76, e_X3_kinkAbove_78, e_X3_kinkAbove_80, e_X3_kinkAbove_82, e_X3_kinkAbove_85, lc_eq, hf', nIp, true_and, and_true, rf_s, not_true_eq_false, not_false_eq_true, true_implies, false_implies, kl_i, kl_n, kl_l, kl_r, Option.toList, List.cons_append, List.nil_append, if_true, if_false, u2s, lt00, lt01, lt02, lt03, le10, le20, le30, ne10, ne20, ne30, eq00]
      exact ih (i + 1) (by omega) (by omega) I1 J1 _ _ _ i1 r1 (fun I' J' e' f' i' r' => hq I' J' e' (f1.tr f') i' r')
    · rw [if_neg hf] at hq
      have hf' : (TxE g h nb nc nk p (i + 1) - TxE g h nb nc nk p i = TxE g h nb nc nk p i - TxE g h nb nc nk p (i - 1)) = False := eq_false (fun z => hf z.symm)
      simp only [e_X3_kinkAbove_55, e_X3_kinkAbove_57, e_X3_kinkAbove_59, e_X3_kinkAbove_61, e_X3_kinkAbove_62, e_X3_kinkAbove_64, e_X3_kinkAbove_66, e_X3_kinkAbove_67, e_X3_kinkAbove_68, e_X3_kinkAbove_71, e_X3_kinkAbove_73, lc_eq, hf', true_and, and_true, rf_s, not_true_eq_false, not_false_eq_true, true_implies, false_implies, kl_i, kl_n, kl_l, kl_r, Option.toList, List.cons_append, List.nil_append, if_true, if_false, u2s, lt00, lt01, lt02, lt03, le10, le20, le30, ne10, ne20, ne30, eq00]
      exact hq I1 J1 _ f1 i1 r1
theorem k_kinkAbove (hx : ExS S N P ex) (hl : LeS S N P l π) (hdis : ex + 11 ≤ l ∨ l + 30 ≤ ex) (hg : Gd g nb nc nk) {p e : Nat} (hp : p < 6) (hi : ExI g h nk ex p e I J) (hr : Led I J l π g h nb nc nk) {v : Int32} {e0 : Nat} (hs : NkS v e0)
    (hq : ∀ I' J' e', Fr ex (ex + 11) I I' J J' → ExI g h nk ex p e' I' J' → Led I' J' l π g h nb nc nk → Q (some (.int (match NkF (TxE g h nb nc nk p) (9999 - e0) e0 with | some k => nI k | none => -1))) I' J' P) : CWp S N (d + 4) MX3_kinkAbove [.ref ex, .ref (l + 1), .int v] I J P Q := by
  rw [c_X3_kinkAbove]
  obtain ⟨o1, o2, ha⟩ := id hx
  have main : ∀ (s : Nat), s < 9998 → e0 = s + 1 → (if v < 0 then 0 else v) = nI s → Wp S N (d + 4) MX3_kinkAbove 0 [some (.ref ex), some (.ref (l + 1)), some (.int v), none, none, none, none, none, none, none, none] [] I J P Q := by
    intro s hs9 he0 hv
    subst he0
    have g1 : nI s < (9998 : Int32) := nI_lt (b := 9998) hs9 (by decide)
    simp only [e_X3_kinkAbove_0, e_X3_kinkAbove_1, e_X3_kinkAbove_2, e_X3_kinkAbove_5, e_X3_kinkAbove_6, e_X3_kinkAbove_7, e_X3_kinkAbove_10, e_X3_kinkAbove_13, e_X3_kinkAbove_14, e_X3_kinkAbove_15, e_X3_kinkAbove_16, e_X3_kinkAbove_17, e_X3_kinkAbove_18, o1, hv, g1, true_and, and_true, rf_s, not_true_eq_false, not_false_eq_true, true_implies, false_implies, kl_i, kl_n, kl_l, kl_r, Option.toList, List.cons_append, List.nil_append, if_true, if_false, u2s, lt00, lt01, lt02, lt03, le10, le20, le30, ne10, ne20, ne30, eq00]
    refine k_taxAt hx hl hdis hg hp (by omega) hi hr (fun I1 J1 f1 i1 r1 => ?_)
    simp only [e_X3_kinkAbove_21, e_X3_kinkAbove_23, e_X3_kinkAbove_24, e_X3_kinkAbove_25, e_X3_kinkAbove_26, e_X3_kinkAbove_27, e_X3_kinkAbove_28, o1, nIp, true_and, and_true, rf_s, not_true_eq_false, not_false_eq_true, true_implies, false_implies, kl_i, kl_n, kl_l, kl_r, Option.toList, List.cons_append, List.nil_append, if_true, if_false, u2s, lt00, lt01, lt02, lt03, le10, le20, le30, ne10, ne20, ne30, eq00]
    refine k_taxAt hx hl hdis hg hp (by omega) i1 r1 (fun I2 J2 f2 i2 r2 => ?_)
    simp only [e_X3_kinkAbove_31, e_X3_kinkAbove_33, e_X3_kinkAbove_34, e_X3_kinkAbove_35, e_X3_kinkAbove_36, nIp, true_and, and_true, rf_s, not_true_eq_false, not_false_eq_true, true_implies, false_implies, kl_i, kl_n, kl_l, kl_r, Option.toList, List.cons_append, List.nil_append, if_true, if_false, u2s, lt00, lt01, lt02, lt03, le10, le20, le30, ne10, ne20, ne30, eq00]
    exact ka_loop hx hl hdis hg hp (9999 - (s + 1)) (s + 1) (by omega) (by omega) I2 J2 _ _ _ i2 r2 (fun I' J' e' f' i' r' => hq I' J' e' ((f1.tr f2).tr f') i' r')
  rcases hs with ⟨h1, rfl⟩ | ⟨k, rfl, h1, h2, rfl⟩ | ⟨h1, rfl⟩
  · refine main 0 (by decide) rfl ?_
    by_cases h0 : v < 0
    · rw [if_pos h0]; rfl
    · rw [if_neg h0]
      obtain ⟨j, hj, rfl⟩ := nI_of h0
      have : j < 1 := (nI_ltI (b := 1) hj (by decide)).mp h1
      rw [show j = 0 by omega]
  · exact main k h2 rfl (by rw [if_neg (nI_pos (by omega))])
  · have h0 : ¬ v < 0 := fun z => absurd (Int32.lt_of_le_of_lt h1 z) (by decide)
    have e9 : (if v < 0 then 0 else v) = v := if_neg h0
    have g1 : ¬ v < (9998 : Int32) := Int32.not_lt.mpr h1
    simp only [e_X3_kinkAbove_0, e_X3_kinkAbove_1, e_X3_kinkAbove_2, e_X3_kinkAbove_5, e_X3_kinkAbove_6, e_X3_kinkAbove_7, e_X3_kinkAbove_10, e_X3_kinkAbove_13, e_X3_kinkAbove_14, o1, e9, g1, true_and, and_true, rf_s, not_true_eq_false, not_false_eq_true, true_implies, false_implies, kl_i, kl_n, kl_l, kl_r, Option.toList, List.cons_append, List.nil_append, if_true, if_false, u2s, lt00, lt01, lt02, lt03, le10, le20, le30, ne10, ne20, ne30, eq00]
    exact hq I J e Fr.rf hi hr
theorem ck_loop (hx : ExS S N P ex) (hl : LeS S N P l π) (hdis : ex + 11 ≤ l ∨ l + 30 ≤ ex) (hg : Gd g nb nc nk) {p : Nat} (hp : p < 6) : ∀ (w i c : Nat), i + w = 9999 → c < i → ∀ (I : IM) (J : JM) (e : Nat), ExI g h nk ex p e I J → Led I J l π g h nb nc nk →
    (∀ I' J' e', Fr ex (ex + 11) I I' J J' → ExI g h nk ex p e' I' J' → Led I' J' l π g h nb nc nk → Q (some (.int (nI (KcF (TxE g h nb nc nk p) w i c)))) I' J' P) →
    Wp S N (d + 5) MX3_countKinks 9 [some (.ref ex), some (.ref (l + 1)), some (.int (nI c)), some (.int (match NkF (TxE g h nb nc nk p) w i with | some k => nI k | none => -1))] [] I J P Q := by
  obtain ⟨o1, o2, ha⟩ := id hx
  intro w
  induction w using Nat.strongRecOn with
  | _ w ih =>
    intro i c hi hc I J e hi1 hr hq
    have g1 : ¬ (9999 : Int32) ≤ nI c := nI_ge (b := 9999) (by omega) (by decide)
    cases hk : NkF (TxE g h nb nc nk p) w i with
    | none =>
      rw [KcF_none w i c hk] at hq
      simp only [e_X3_countKinks_9, e_X3_countKinks_10, e_X3_countKinks_13, e_X3_countKinks_16, e_X3_countKinks_17, e_X3_countKinks_18, e_X3_countKinks_34, e_X3_countKinks_35, g1, true_and, and_true, rf_s, not_true_eq_false, not_false_eq_true, true_implies, false_implies, kl_i, kl_n, kl_l, kl_r, Option.toList, List.cons_append, List.nil_append, if_true, if_false, u2s, lt00, lt01, lt02, lt03, le10, le20, le30, ne10, ne20, ne30, eq00]
      exact hq I J e Fr.rf hi1 hr
    | some k =>
      obtain ⟨k1, k2, k3⟩ := KcF_some w i c hk
      rw [k3] at hq
      have g2 : (nI k = (-1 : Int32)) = False := eq_false (fun z => by
        have : (0 : Int32) ≤ nI k := nI_pos' (by omega)
        rw [z] at this
        exact absurd this (by decide))
      have hs : NkS (nI k) (k + 1) := by
        by_cases h8 : k < 9998
        · exact Or.inr (Or.inl ⟨k, rfl, by omega, h8, rfl⟩)
        · exact Or.inr (Or.inr ⟨nI_le (a := 9998) (by omega) (by omega), by omega⟩)
      simp only [e_X3_countKinks_9, e_X3_countKinks_10, e_X3_countKinks_13, e_X3_countKinks_16, e_X3_countKinks_17, e_X3_countKinks_18, e_X3_countKinks_21, e_X3_countKinks_24, e_X3_countKinks_25, e_X3_countKinks_26, e_X3_countKinks_27, o1, g1, g2, nIp, true_and, and_true, rf_s, not_true_eq_false, not_false_eq_true, true_implies, false_implies, kl_i, kl_n, kl_l, kl_r, Option.toList, List.cons_append, List.nil_append, if_true, if_false, u2s, lt00, lt01, lt02, lt03, le10, le20, le30, ne10, ne20, ne30, eq00]
      refine k_kinkAbove hx hl hdis hg hp hi1 hr hs (fun I1 J1 e1 f1 i1 r1 => ?_)
      simp only [e_X3_countKinks_30, e_X3_countKinks_31, true_and, and_true, rf_s, not_true_eq_false, not_false_eq_true, true_implies, false_implies, kl_i, kl_n, kl_l, kl_r, Option.toList, List.cons_append, List.nil_append, if_true, if_false, u2s, lt00, lt01, lt02, lt03, le10, le20, le30, ne10, ne20, ne30, eq00]
      refine ih (9999 - (k + 1)) (by omega) (k + 1) (c + 1) (by omega) (by omega) I1 J1 e1 i1 r1 (fun I' J' e' f' i' r' => ?_)
      have h9 := hq I' J' e' (f1.tr f') i' r'
      rw [show i + w - (k + 1) = 9999 - (k + 1) by omega] at h9
      exact h9
theorem k_countKinks (hx : ExS S N P ex) (hl : LeS S N P l π) (hdis : ex + 11 ≤ l ∨ l + 30 ≤ ex) (hg : Gd g nb nc nk) {p e : Nat} (hp : p < 6) (hi : ExI g h nk ex p e I J) (hr : Led I J l π g h nb nc nk)
    (hq : ∀ I' J' e', Fr ex (ex + 11) I I' J J' → ExI g h nk ex p e' I' J' → Led I' J' l π g h nb nc nk → Q (some (.int (nI (KcF (TxE g h nb nc nk p) 9998 1 0)))) I' J' P) : CWp S N (d + 5) MX3_countKinks [.ref ex, .ref (l + 1)] I J P Q := by
  rw [c_X3_countKinks]
  obtain ⟨o1, o2, ha⟩ := id hx
  simp only [e_X3_countKinks_0, e_X3_countKinks_1, e_X3_countKinks_2, e_X3_countKinks_3, e_X3_countKinks_4, e_X3_countKinks_5, o1, true_and, and_true, rf_s, not_true_eq_false, not_false_eq_true, true_implies, false_implies, kl_i, kl_n, kl_l, kl_r, Option.toList, List.cons_append, List.nil_append, if_true, if_false, u2s, lt00, lt01, lt02, lt03, le10, le20, le30, ne10, ne20, ne30, eq00]
  refine k_kinkAbove hx hl hdis hg hp hi hr (e0 := 1) (Or.inl ⟨by decide, rfl⟩) (fun I1 J1 e1 f1 i1 r1 => ?_)
  simp only [e_X3_countKinks_8, true_and, and_true, rf_s, not_true_eq_false, not_false_eq_true, true_implies, false_implies, kl_i, kl_n, kl_l, kl_r, Option.toList, List.cons_append, List.nil_append, if_true, if_false, u2s, lt00, lt01, lt02, lt03, le10, le20, le30, ne10, ne20, ne30, eq00]
  exact ck_loop hx hl hdis hg hp 9998 1 0 rfl (by decide) I1 J1 e1 i1 r1 (fun I' J' e' f' i' r' => hq I' J' e' (f1.tr f') i' r')
theorem sp_loop (hx : ExS S N P ex) (hl : LeS S N P l π) (hdis : ex + 11 ≤ l ∨ l + 30 ≤ ex) (hg : Gd g nb nc nk) {p : Nat} (hp : p < 6) : ∀ (n i : Nat), i + n = 9999 → ∀ (I : IM) (J : JM) (e b : Nat) (v : Int64) (x8 x9 : Option Value), ExI g h nk ex p e I J → Led I J l π g h nb nc nk →
    (∀ I' J' e', Fr ex (ex + 11) I I' J J' → ExI g h nk ex p e' I' J' → Led I' J' l π g h nb nc nk → Q (some (.int (nI (StF (TxE g h nb nc nk p) n i b v)))) I' J' P) →
    Wp S N (d + 4) MX3_steepestPlace 23 [some (.ref ex), some (.ref (l + 1)), some (.long (TxE g h nb nc nk p i)), none, some (.long v), none, some (.int (nI b)), some (.int (nI i)), x8, x9] [] I J P Q := by
  obtain ⟨o1, o2, ha⟩ := id hx
  intro n
  induction n with
  | zero =>
    intro i hi I J e b v x8 x9 hi1 hr hq
    have hi : i = 9999 := by omega
    subst hi
    have g1 : (9999 : Int32) ≤ nI 9999 := by decide
    simp only [e_X3_steepestPlace_23, e_X3_steepestPlace_25, e_X3_steepestPlace_28, e_X3_steepestPlace_71, e_X3_steepestPlace_73, g1, true_and, and_true, rf_s, not_true_eq_false, not_false_eq_true, true_implies, false_implies, kl_i, kl_n, kl_l, kl_r, Option.toList, List.cons_append, List.nil_append, if_true, if_false, u2s, lt00, lt01, lt02, lt03, le10, le20, le30, ne10, ne20, ne30, eq00]
    exact hq I J e Fr.rf hi1 hr
  | succ n ih =>
    intro i hi I J e b v x8 x9 hi1 hr hq
    have g1 : ¬ (9999 : Int32) ≤ nI i := nI_ge (b := 9999) (by omega) (by decide)
    rw [StF] at hq
    simp only [e_X3_steepestPlace_23, e_X3_steepestPlace_25, e_X3_steepestPlace_28, e_X3_steepestPlace_31, e_X3_steepestPlace_32, e_X3_steepestPlace_33, e_X3_steepestPlace_35, e_X3_steepestPlace_36, e_X3_steepestPlace_37, o1, g1, nIp, true_and, and_true, rf_s, not_true_eq_false, not_false_eq_true, true_implies, false_implies, kl_i, kl_n, kl_l, kl_r, Option.toList, List.cons_append, List.nil_append, if_true, if_false, u2s, lt00, lt01, lt02, lt03, le10, le20, le30, ne10, ne20, ne30, eq00]
    refine k_taxAt hx hl hdis hg hp (by omega) hi1 hr (fun I1 J1 f1 i1 r1 => ?_)
    by_cases hf : v < TxE g h nb nc nk p (i + 1) - TxE g h nb nc nk p i
    · rw [if_pos hf] at hq
      have hf' := eq_true hf
      simp only [e_X3_steepestPlace_40, e_X3_steepestPlace_42, e_X3_steepestPlace_44, e_X3_steepestPlace_45, e_X3_steepestPlace_46, e_X3_steepestPlace_48, e_X3_steepestPlace_49, e_X3_steepestPlace_52, e_X3_steepestPlace_54, e_X3_steepestPlace_55, e_X3_steepestPlace_56, e_X3_steepestPlace_58, e_X3_steepestPlace_60, e_X3_steepestPlace_62, e_X3_steepestPlace_64, e_X3_steepestPlace_65, e_X3_steepestPlace_68, lc_le, hf', nIp, true_and, and_true, rf_s, not_true_eq_false, not_false_eq_true, true_implies, false_implies, kl_i, kl_n, kl_l, kl_r, Option.toList, List.cons_append, List.nil_append, if_true, if_false, u2s, lt00, lt01, lt02, lt03, le10, le20, le30, ne10, ne20, ne30, eq00]
      exact ih (i + 1) (by omega) I1 J1 _ _ _ _ _ i1 r1 (fun I' J' e' f' i' r' => hq I' J' e' (f1.tr f') i' r')
    · rw [if_neg hf] at hq
      have hf' := eq_false hf
      simp only [e_X3_steepestPlace_40, e_X3_steepestPlace_42, e_X3_steepestPlace_44, e_X3_steepestPlace_45, e_X3_steepestPlace_46, e_X3_steepestPlace_48, e_X3_steepestPlace_49, e_X3_steepestPlace_52, e_X3_steepestPlace_54, e_X3_steepestPlace_55, e_X3_steepestPlace_56, e_X3_steepestPlace_58, e_X3_steepestPlace_60, e_X3_steepestPlace_62, e_X3_steepestPlace_64, e_X3_steepestPlace_65, e_X3_steepestPlace_68, lc_le, hf', nIp, true_and, and_true, rf_s, not_true_eq_false, not_false_eq_true, true_implies, false_implies, kl_i, kl_n, kl_l, kl_r, Option.toList, List.cons_append, List.nil_append, if_true, if_false, u2s, lt00, lt01, lt02, lt03, le10, le20, le30, ne10, ne20, ne30, eq00]
      exact ih (i + 1) (by omega) I1 J1 _ _ _ _ _ i1 r1 (fun I' J' e' f' i' r' => hq I' J' e' (f1.tr f') i' r')
theorem k_steepest (hx : ExS S N P ex) (hl : LeS S N P l π) (hdis : ex + 11 ≤ l ∨ l + 30 ≤ ex) (hg : Gd g nb nc nk) {p e : Nat} (hp : p < 6) (hi : ExI g h nk ex p e I J) (hr : Led I J l π g h nb nc nk)
    (hq : ∀ I' J' e', Fr ex (ex + 11) I I' J J' → ExI g h nk ex p e' I' J' → Led I' J' l π g h nb nc nk → Q (some (.int (nI (StF (TxE g h nb nc nk p) 9998 1 0 (TxE g h nb nc nk p 1 - TxE g h nb nc nk p 0))))) I' J' P) : CWp S N (d + 4) MX3_steepestPlace [.ref ex, .ref (l + 1)] I J P Q := by
  rw [c_X3_steepestPlace]
  obtain ⟨o1, o2, ha⟩ := id hx
  simp only [e_X3_steepestPlace_0, e_X3_steepestPlace_1, e_X3_steepestPlace_2, e_X3_steepestPlace_3, o1, true_and, and_true, rf_s, not_true_eq_false, not_false_eq_true, true_implies, false_implies, kl_i, kl_n, kl_l, kl_r, Option.toList, List.cons_append, List.nil_append, if_true, if_false, u2s, lt00, lt01, lt02, lt03, le10, le20, le30, ne10, ne20, ne30, eq00]
  refine k_taxAt (e' := 1) hx hl hdis hg hp (by decide) hi hr (fun I1 J1 f1 i1 r1 => ?_)
  simp only [e_X3_steepestPlace_6, e_X3_steepestPlace_7, e_X3_steepestPlace_8, e_X3_steepestPlace_9, e_X3_steepestPlace_10, e_X3_steepestPlace_11, o1, true_and, and_true, rf_s, not_true_eq_false, not_false_eq_true, true_implies, false_implies, kl_i, kl_n, kl_l, kl_r, Option.toList, List.cons_append, List.nil_append, if_true, if_false, u2s, lt00, lt01, lt02, lt03, le10, le20, le30, ne10, ne20, ne30, eq00]
  refine k_taxAt (e' := 0) hx hl hdis hg hp (by decide) i1 r1 (fun I2 J2 f2 i2 r2 => ?_)
  simp only [e_X3_steepestPlace_14, e_X3_steepestPlace_15, e_X3_steepestPlace_17, e_X3_steepestPlace_18, e_X3_steepestPlace_20, e_X3_steepestPlace_21, true_and, and_true, rf_s, not_true_eq_false, not_false_eq_true, true_implies, false_implies, kl_i, kl_n, kl_l, kl_r, Option.toList, List.cons_append, List.nil_append, if_true, if_false, u2s, lt00, lt01, lt02, lt03, le10, le20, le30, ne10, ne20, ne30, eq00]
  exact sp_loop hx hl hdis hg hp 9998 1 rfl I2 J2 _ 0 _ _ _ i2 r2 (fun I' J' e' f' i' r' => hq I' J' e' ((f1.tr f2).tr f') i' r')
theorem k_bends (hx : ExS S N P ex) (hl : LeS S N P l π) (hdis : ex + 11 ≤ l ∨ l + 30 ≤ ex) (hg : Gd g nb nc nk) {p e j w : Nat} (hp : p < 6) (hj : j < 4 + nk) (h1 : 1 ≤ w) (h2 : w < 9999) (hi : ExI g h nk ex p e I J) (hr : Led I J l π g h nb nc nk)
    (hq : ∀ I' J' e', Fr ex (ex + 11) I I' J J' → ExI g h nk ex p e' I' J' → Led I' J' l π g h nb nc nk → Q (some (.int (if flat (PvF g h nb nc p j) w then 0 else 1))) I' J' P) : CWp S N (d + 4) MX3_bends [.ref ex, .ref (l + 1), .int (nI j), .int (nI w)] I J P Q := by
  rw [c_X3_bends]
  obtain ⟨o1, o2, ha⟩ := id hx
  obtain ⟨w, rfl⟩ : ∃ w', w = w' + 1 := ⟨w - 1, by omega⟩
  simp only [e_X3_bends_0, e_X3_bends_1, e_X3_bends_2, e_X3_bends_3, e_X3_bends_4, e_X3_bends_5, e_X3_bends_6, o1, nI_pred, true_and, and_true, rf_s, not_true_eq_false, not_false_eq_true, true_implies, false_implies, kl_i, kl_n, kl_l, kl_r, Option.toList, List.cons_append, List.nil_append, if_true, if_false, u2s, lt00, lt01, lt02, lt03, le10, le20, le30, ne10, ne20, ne30, eq00]
  refine k_partAt hx hl hdis hg hp (show w ≤ 9999 by omega) hj hi hr (fun I1 J1 f1 i1 r1 => ?_)
  simp only [e_X3_bends_9, e_X3_bends_11, e_X3_bends_12, e_X3_bends_13, e_X3_bends_14, e_X3_bends_15, o1, true_and, and_true, rf_s, not_true_eq_false, not_false_eq_true, true_implies, false_implies, kl_i, kl_n, kl_l, kl_r, Option.toList, List.cons_append, List.nil_append, if_true, if_false, u2s, lt00, lt01, lt02, lt03, le10, le20, le30, ne10, ne20, ne30, eq00]
  refine k_partAt hx hl hdis hg hp (show w + 1 ≤ 9999 by omega) hj i1 r1 (fun I2 J2 f2 i2 r2 => ?_)
  simp only [e_X3_bends_18, e_X3_bends_20, e_X3_bends_21, e_X3_bends_22, e_X3_bends_23, e_X3_bends_24, e_X3_bends_25, e_X3_bends_26, o1, nIp, true_and, and_true, rf_s, not_true_eq_false, not_false_eq_true, true_implies, false_implies, kl_i, kl_n, kl_l, kl_r, Option.toList, List.cons_append, List.nil_append, if_true, if_false, u2s, lt00, lt01, lt02, lt03, le10, le20, le30, ne10, ne20, ne30, eq00]
  refine k_partAt hx hl hdis hg hp (show w + 1 + 1 ≤ 9999 by omega) hj i2 r2 (fun I3 J3 f3 i3 r3 => ?_)
  have h9 := hq I3 J3 _ ((f1.tr f2).tr f3) i3 r3
  by_cases hf : flat (PvF g h nb nc p j) (w + 1)
  · rw [if_pos hf] at h9
    have hf' : (PvF g h nb nc p j (w + 1 + 1) - PvF g h nb nc p j (w + 1) = PvF g h nb nc p j (w + 1) - PvF g h nb nc p j w) = True := eq_true hf.symm
    simp only [e_X3_bends_29, e_X3_bends_31, e_X3_bends_33, e_X3_bends_35, e_X3_bends_36, e_X3_bends_38, e_X3_bends_40, e_X3_bends_41, e_X3_bends_42, e_X3_bends_45, e_X3_bends_46, e_X3_bends_49, e_X3_bends_50 isB0, e_X3_bends_50 isB1, e_X3_bends_50 isB_ite, lc_eq, hf', true_and, and_true, rf_s, not_true_eq_false, not_false_eq_true, true_implies, false_implies, kl_i, kl_n, kl_l, kl_r, Option.toList, List.cons_append, List.nil_append, if_true, if_false, u2s, lt00, lt01, lt02, lt03, le10, le20, le30, ne10, ne20, ne30, eq00]
    exact h9
  · rw [if_neg hf] at h9
    have hf' : (PvF g h nb nc p j (w + 1 + 1) - PvF g h nb nc p j (w + 1) = PvF g h nb nc p j (w + 1) - PvF g h nb nc p j w) = False := eq_false (fun z => hf z.symm)
    simp only [e_X3_bends_29, e_X3_bends_31, e_X3_bends_33, e_X3_bends_35, e_X3_bends_36, e_X3_bends_38, e_X3_bends_40, e_X3_bends_41, e_X3_bends_42, e_X3_bends_45, e_X3_bends_46, e_X3_bends_49, e_X3_bends_50 isB0, e_X3_bends_50 isB1, e_X3_bends_50 isB_ite, lc_eq, hf', true_and, and_true, rf_s, not_true_eq_false, not_false_eq_true, true_implies, false_implies, kl_i, kl_n, kl_l, kl_r, Option.toList, List.cons_append, List.nil_append, if_true, if_false, u2s, lt00, lt01, lt02, lt03, le10, le20, le30, ne10, ne20, ne30, eq00]
    exact h9
theorem ca_loop (hx : ExS S N P ex) (hl : LeS S N P l π) (hdis : ex + 11 ≤ l ∨ l + 30 ≤ ex) (hg : Gd g nb nc nk) {p w : Nat} (hp : p < 6) (h1 : 1 ≤ w) (h2 : w < 9999) : ∀ (n j : Nat), j + n = 3 + nk → ∀ (I : IM) (J : JM) (e : Nat), ExI g h nk ex p e I J → Led I J l π g h nb nc nk →
    (∀ I' J' e', Fr ex (ex + 11) I I' J J' → ExI g h nk ex p e' I' J' → Led I' J' l π g h nb nc nk → Q (some (.int (nI (CcF (PvF g h nb nc p) w n j)))) I' J' P) →
    Wp S N (d + 5) MX3_causeAt 34 [some (.ref ex), some (.ref (l + 1)), some (.int (nI w)), some (.int (nI (3 + nk))), some (.int (nI j))] [] I J P Q := by
  obtain ⟨o1, o2, ha⟩ := id hx
  have hnk := hg.cb.2.2
  intro n
  induction n with
  | zero =>
    intro j hj I J e hi hr hq
    have hj : j = 3 + nk := by omega
    subst hj
    have g1 : nI (3 + nk) ≤ nI (3 + nk) := nI_le (Nat.le_refl _) (by omega)
    simp only [e_X3_causeAt_34, e_X3_causeAt_36, e_X3_causeAt_37, e_X3_causeAt_57, e_X3_causeAt_59, g1, true_and, and_true, rf_s, not_true_eq_false, not_false_eq_true, true_implies, false_implies, kl_i, kl_n, kl_l, kl_r, Option.toList, List.cons_append, List.nil_append, if_true, if_false, u2s, lt00, lt01, lt02, lt03, le10, le20, le30, ne10, ne20, ne30, eq00]
    exact hq I J e Fr.rf hi hr
  | succ n ih =>
    intro j hj I J e hi hr hq
    have g1 : ¬ nI (3 + nk) ≤ nI j := nI_ge (by omega) (by omega)
    rw [CcF] at hq
    simp only [e_X3_causeAt_34, e_X3_causeAt_36, e_X3_causeAt_37, e_X3_causeAt_40, e_X3_causeAt_41, e_X3_causeAt_42, e_X3_causeAt_44, e_X3_causeAt_45, o1, g1, true_and, and_true, rf_s, not_true_eq_false, not_false_eq_true, true_implies, false_implies, kl_i, kl_n, kl_l, kl_r, Option.toList, List.cons_append, List.nil_append, if_true, if_false, u2s, lt00, lt01, lt02, lt03, le10, le20, le30, ne10, ne20, ne30, eq00]
    refine k_bends hx hl hdis hg hp (show j < 4 + nk by omega) h1 h2 hi hr (fun I1 J1 e1 f1 i1 r1 => ?_)
    by_cases hf : flat (PvF g h nb nc p j) w
    · rw [if_pos hf] at hq
      rw [if_pos hf]
      simp only [e_X3_causeAt_48, e_X3_causeAt_51, e_X3_causeAt_54, nIp, true_and, and_true, rf_s, not_true_eq_false, not_false_eq_true, true_implies, false_implies, kl_i, kl_n, kl_l, kl_r, Option.toList, List.cons_append, List.nil_append, if_true, if_false, u2s, lt00, lt01, lt02, lt03, le10, le20, le30, ne10, ne20, ne30, eq00]
      exact ih (j + 1) (by omega) I1 J1 e1 i1 r1 (fun I' J' e' f' i' r' => hq I' J' e' (f1.tr f') i' r')
    · rw [if_neg hf] at hq
      rw [if_neg hf]
      simp only [e_X3_causeAt_48, e_X3_causeAt_57, e_X3_causeAt_59, ne10, true_and, and_true, rf_s, not_true_eq_false, not_false_eq_true, true_implies, false_implies, kl_i, kl_n, kl_l, kl_r, Option.toList, List.cons_append, List.nil_append, if_true, if_false, u2s, lt00, lt01, lt02, lt03, le10, le20, le30, ne10, ne20, ne30, eq00]
      exact hq I1 J1 e1 f1 i1 r1
theorem k_causeAt_out (hx : ExS S N P ex) (hl : LeS S N P l π) (hr : Led I J l π g h nb nc nk) {v : Int32} (he : ¬ (1 ≤ v ∧ v ≤ 9998)) : CWp S N (d + 1) MX3_causeAt [.ref ex, .ref (l + 1), .int v] I J P Q ↔ Q (some (.int (-1))) I J P := by
  rw [c_X3_causeAt]
  obtain ⟨o1, o2, ha⟩ := id hx
  have hs' := hl.r.f
  by_cases h1 : v < 1
  · have h1' := eq_true h1
    simp only [e_X3_causeAt_0, e_X3_causeAt_1, e_X3_causeAt_2, e_X3_causeAt_5, e_X3_causeAt_6, e_X3_causeAt_7, e_X3_causeAt_8, e_X3_causeAt_9, e_X3_causeAt_29, e_X3_causeAt_30, hs', h1', true_and, and_true, rf_s, not_true_eq_false, not_false_eq_true, true_implies, false_implies, kl_i, kl_n, kl_l, kl_r, Option.toList, List.cons_append, List.nil_append, if_true, if_false, u2s, lt00, lt01, lt02, lt03, le10, le20, le30, ne10, ne20, ne30, eq00]
  · have h1' := eq_false h1
    have h2 : (9999 : Int32) ≤ v := by
      have h3 : ¬ v ≤ 9998 := fun z => he ⟨Int32.not_lt.mp h1, z⟩
      rw [Int32.le_iff_toInt_le] at h3 ⊢
      have e1 : (9998 : Int32).toInt = 9998 := rfl
      have e2 : (9999 : Int32).toInt = 9999 := rfl
      omega
    simp only [e_X3_causeAt_0, e_X3_causeAt_1, e_X3_causeAt_2, e_X3_causeAt_5, e_X3_causeAt_6, e_X3_causeAt_7, e_X3_causeAt_8, e_X3_causeAt_9, e_X3_causeAt_12, e_X3_causeAt_13, e_X3_causeAt_16, e_X3_causeAt_29, e_X3_causeAt_30, hs', h1', h2, true_and, and_true, rf_s, not_true_eq_false, not_false_eq_true, true_implies, false_implies, kl_i, kl_n, kl_l, kl_r, Option.toList, List.cons_append, List.nil_append, if_true, if_false, u2s, lt00, lt01, lt02, lt03, le10, le20, le30, ne10, ne20, ne30, eq00]
theorem k_causeAt_in (hx : ExS S N P ex) (hl : LeS S N P l π) (hdis : ex + 11 ≤ l ∨ l + 30 ≤ ex) (hg : Gd g nb nc nk) {p e w : Nat} (hp : p < 6) (h1 : 1 ≤ w) (h2 : w < 9999) (hi : ExI g h nk ex p e I J) (hr : Led I J l π g h nb nc nk)
    (hq : ∀ I' J' e', Fr ex (ex + 11) I I' J J' → ExI g h nk ex p e' I' J' → Led I' J' l π g h nb nc nk → Q (some (.int (if flat (TxE g h nb nc nk p) w then -1 else nI (CcF (PvF g h nb nc p) w (3 + nk) 0)))) I' J' P) : CWp S N (d + 5) MX3_causeAt [.ref ex, .ref (l + 1), .int (nI w)] I J P Q := by
  rw [c_X3_causeAt]
  obtain ⟨o1, o2, ha⟩ := id hx
  have hs' := hl.r.f
  have hnk := hg.cb.2.2
  have r7 := hr.1.1.2.2
  have q3 : (3 : Int32) + nI nk = nI (3 + nk) := by rw [show (3 : Int32) = nI 3 from rfl, nI_add]
  have g1 : ¬ nI w < (1 : Int32) := nI_nlt (b := 1) h1 (by omega)
  have g2 : ¬ (9999 : Int32) ≤ nI w := nI_ge (b := 9999) h2 (by decide)
  have hpv : PvF g h nb nc p (3 + nk) = TxE g h nb nc nk p := by
    funext x
    unfold PvF
    rw [if_neg (by omega), show 3 + nk - 3 = nk by omega]
  simp only [e_X3_causeAt_0, e_X3_causeAt_1, e_X3_causeAt_2, e_X3_causeAt_5, e_X3_causeAt_6, e_X3_causeAt_7, e_X3_causeAt_8, e_X3_causeAt_9, e_X3_causeAt_12, e_X3_causeAt_13, e_X3_causeAt_16, e_X3_causeAt_19, e_X3_causeAt_20, e_X3_causeAt_21, e_X3_causeAt_22, e_X3_causeAt_23, o1, hs', r7, q3, g1, g2, true_and, and_true, rf_s, not_true_eq_false, not_false_eq_true, true_implies, false_implies, kl_i, kl_n, kl_l, kl_r, Option.toList, List.cons_append, List.nil_append, if_true, if_false, u2s, lt00, lt01, lt02, lt03, le10, le20, le30, ne10, ne20, ne30, eq00]
  refine k_bends hx hl hdis hg hp (show 3 + nk < 4 + nk by omega) h1 h2 hi hr (fun I1 J1 e1 f1 i1 r1 => ?_)
  rw [hpv]
  by_cases hf : flat (TxE g h nb nc nk p) w
  · rw [if_pos hf] at hq
    rw [if_pos hf]
    simp only [e_X3_causeAt_26, e_X3_causeAt_29, e_X3_causeAt_30, true_and, and_true, rf_s, not_true_eq_false, not_false_eq_true, true_implies, false_implies, kl_i, kl_n, kl_l, kl_r, Option.toList, List.cons_append, List.nil_append, if_true, if_false, u2s, lt00, lt01, lt02, lt03, le10, le20, le30, ne10, ne20, ne30, eq00]
    exact hq I1 J1 e1 f1 i1 r1
  · rw [if_neg hf] at hq
    rw [if_neg hf]
    simp only [e_X3_causeAt_26, e_X3_causeAt_31, e_X3_causeAt_32, ne10, true_and, and_true, rf_s, not_true_eq_false, not_false_eq_true, true_implies, false_implies, kl_i, kl_n, kl_l, kl_r, Option.toList, List.cons_append, List.nil_append, if_true, if_false, u2s, lt00, lt01, lt02, lt03, le10, le20, le30, ne10, ne20, ne30, eq00]
    exact ca_loop hx hl hdis hg hp h1 h2 (3 + nk) 0 (by omega) I1 J1 e1 i1 r1 (fun I' J' e' f' i' r' => hq I' J' e' (f1.tr f') i' r')
end KT9

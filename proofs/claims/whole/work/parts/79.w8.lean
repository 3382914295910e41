/-! addRules in the class -/
def hZ (nk : Nat) (h : Nat → Int64) : Nat → Int64 := fun y => if y % 6 < nk then h y else 0
theorem hZ_at {nk : Nat} {h : Nat → Int64} {p k : Nat} (hk : k < 6) : hZ nk h (6 * p + k) = if k < nk then h (6 * p + k) else 0 := by
  unfold hZ
  rw [show (6 * p + k) % 6 = k by omega]
section TE2
variable {S N : Nat → Nat} {d : Nat} {M : MR} {As : List Value} {I I1 : IM} {J J1 : JM} {P P1 : PM}
theorem cw_use {Q : Option Value → IM → JM → PM → Prop} {r : Option Value} (h : CWp S N d M As I J P (Qe r I1 J1 P1)) (hQ : Q r I1 J1 P1) : CWp S N d M As I J P Q := by
  obtain ⟨r', I', J', P', c, rfl, rfl, rfl, rfl⟩ := h
  exact ⟨_, _, _, _, c, hQ⟩
end TE2
section TAR
variable {S N : Nat → Nat} {d : Nat} {I : IM} {J : JM} {P : PM} {Q : Option Value → IM → JM → PM → Prop} {x n : Nat} {πd π πs : Nat → Nat} {πh : Nat → Nat → Nat} {g t : Nat → Int32} {h : Nat → Int64} {nb nc nk pn o : Nat} {G : Nat → Nat → Int32} {H : Nat → Nat → Int64}
theorem ar_calls (hw : WbS S N P x πd π πs πh) (hg : Gd g nb nc nk) (hr : Led I J (x + 29) π g h nb nc nk) (hT : I (x + 1) 1 = nI n) (hn : n ≤ 80) (ht : ∀ k, k < 89 → t k = g k) :
    ∃ I1 J1 I2 J2, CWp S N (d + 5) MX7_copyFrom [.ref (x + 4), .ref (x + 30)] I J P (Qe none I1 J1 P) ∧ CWp S N (d + 5) MX6_readInto [.ref (x + 1), .ref (x + 4)] I1 J1 P (Qe none I2 J2 P) ∧ Fx (x + 1) (x + 4) I I2 J J2 ∧ I2 (x + 1) 1 = 0 ∧
      ((∃ s', ItsF (I (x + 2)) n 81 0 = (none, s') ∧ I2 (x + 1) 2 = nI s' ∧ s' ≤ 80) ∨ ∃ l s', ItsF (I (x + 2)) n 81 0 = (some l, s') ∧ I2 (x + 1) 2 = -1 ∧ I2 (x + 1) 3 = nI l.length ∧ I2 (x + 1) 4 = bI (!(ItsO l t)) ∧ DS I2 J2 (x + 4) πd (ItsO l t) (ItsG l t) (hZ nk h)) := by
  obtain ⟨r1, I1, J1, P1, ⟨rfl, rfl, f1, f2⟩, h1⟩ := cw_ex (k_ruCopy (d := d + 3) (Q := fun r I' J' P' => r = none ∧ P' = P ∧ (∀ a, a < x + 4 ∨ x + 4 + 25 ≤ a → I' a = I a ∧ J' a = J a) ∧ Rul I' J' (x + 4) πd g h nb nc nk) hw.dr hw.le.r (by omega) hg.cb hr.1 (fun I' J' a1 a2 => ⟨rfl, rfl, a1, a2⟩))
  have fx1 : Fx (x + 1) (x + 4) I I1 J J1 := ⟨fun a _ _ h3 => (f1 a (by omega)).1, fun a h3 => (f1 a (by omega)).2⟩
  have hru := f2.cg (g' := t) (h' := hZ nk h) hg.cb (fun k hk => ht k (by omega)) (fun p k hp hk => by
    have := hg.cb.2.2
    rw [hZ_at (by omega), if_pos hk])
  have hds : DS I1 J1 (x + 4) πd false t (hZ nk h) := by
    refine ⟨⟨nc, hg.cb.2.1, f2.1.2.1⟩, ⟨nk, hg.cb.2.2, f2.1.2.2⟩, fun _ => ⟨nb, nc, nk, hg.cb, hru, ?_, ?_, ?_, fun p k hp h1 h2 => ?_⟩⟩
    · rw [ht 0 (by decide)]; exact hg.1.2.2.2.1
    · rw [ht 18 (by decide)]; exact hg.1.2.2.2.2.1
    · rw [ht 27 (by decide)]; exact hg.1.2.2.2.2.2
    · rw [hZ_at h2, if_neg (by omega)]
  have hc1 : I1 (x + 1 + 1) = I (x + 2) := (f1 (x + 2) (by omega)).1
  have hT1 : I1 (x + 1) 1 = nI n := by rw [(f1 (x + 1) (by omega)).1]; exact hT
  obtain ⟨r2, I2, J2, P2, ⟨rfl, rfl, f3, f4, f5⟩, h2⟩ := cw_ex (k_readInto (d := d) (Q := fun r I' J' P' => r = none ∧ P' = P1 ∧ Fx (x + 1) (x + 4) I1 I' J1 J' ∧ I' (x + 1) 1 = 0 ∧ ((∃ s', ItsF (I (x + 2)) n 81 0 = (none, s') ∧ I' (x + 1) 2 = nI s' ∧ s' ≤ 80) ∨ ∃ l s', ItsF (I (x + 2)) n 81 0 = (some l, s') ∧ I' (x + 1) 2 = -1 ∧ I' (x + 1) 3 = nI l.length ∧ I' (x + 1) 4 = bI (!(ItsO l t)) ∧ DS I' J' (x + 4) πd (ItsO l t) (ItsG l t) (hZ nk h))) hw.rt hw.dr (by omega) hc1 hT1 hn hds (fun s' e I' J' a1 a2 a3 => ⟨rfl, rfl, a1, a2, Or.inl ⟨s', e, a3, by
      have := ItsF_le (c := I (x + 2)) (n := n) 81 0 (Nat.zero_le _)
      rw [e] at this
      exact Nat.le_trans this hn⟩⟩) (fun l s' e I' J' a1 a2 a3 a4 a5 a6 => ⟨rfl, rfl, a1, a2, Or.inr ⟨l, s', e, a3, a4, a5, a6⟩⟩))
  exact ⟨I1, J1, I2, J2, h1, h2, fx1.tr f3, f4, f5⟩
/-- what addRules leaves alone -/
def Fa (x : Nat) (I I' : IM) (J J' : JM) : Prop := ∀ a, a < x + 1 ∨ a = x + 2 ∨ (x + 59 ≤ a ∧ a < x + 89) ∨ x + 271 ≤ a → I' a = I a ∧ J' a = J a
theorem w_addRules (hw : WbS S N P x πd π πs πh) (hg : Gd g nb nc nk) (hr : Led I J (x + 29) π g h nb nc nk) (hH : Hst I J (x + 89) πh pn o G H) (hT : I (x + 1) 1 = nI n) (hn : n ≤ 80) (ht : ∀ k, k < 89 → t k = g k) {l : List ItT} {s' : Nat} (he : ItsF (I (x + 2)) n 81 0 = (some l, s')) (ho : ItsO l t = false)
    (hq : ∀ I' J' o' nb' nc' nk', Fa x I I' J J' → I' (x + 1) 1 = 0 → I' (x + 1) 2 = -1 → Gd (ItsG l t) nb' nc' nk' → nk ≤ nk' → Hst I' J' (x + 89) πh (psn pn) o' (psh pn G g) (psh pn H h) → (∀ (g' : Nat → Int32) (h' : Nat → Int64), (∀ k, k < 89 → g' k = ItsG l t k) → (∀ p k, p < 6 → k < nk' → h' (6 * p + k) = if k < nk then h (6 * p + k) else 0) → Led I' J' (x + 29) π g' h' nb' nc' nk') → Q (some (.int (nI l.length))) I' J' P) : CWp S N (d + 6) MX8_addRules [.ref x] I J P Q := by
  obtain ⟨I1, J1, I2, J2, c1, c2, fx, f1, f2⟩ := ar_calls (d := d) hw hg hr hT hn ht
  rcases f2 with ⟨s2, e2, -⟩ | ⟨l2, s2, e2, f3, f4, f5, f6⟩
  · rw [he] at e2; cases e2
  rw [he] at e2
  cases e2
  rw [ho] at f5 f6
  obtain ⟨nb', nc', nk', hcb, hru, t0, t18, t27, hz⟩ := f6.2.2 rfl
  have hits := ItsF_ev 81 0 l s' (Nat.zero_le _) he
  have hgt : Gd t nb nc nk := hg.cg ht
  obtain ⟨nb2, nc2, nk2, hg2, hkk⟩ := Gd_its l t nb nc nk hgt hits ho
  have q1 : nb' = nb2 := (nI_eq (by have := hcb.1; omega) (by have := hg2.cb.1; omega)).mp (t0.symm.trans hg2.1.2.2.2.1)
  have q2 : nc' = nc2 := (nI_eq (by have := hcb.2.1; omega) (by have := hg2.cb.2.1; omega)).mp (t18.symm.trans hg2.1.2.2.2.2.1)
  have q3 : nk' = nk2 := (nI_eq (by have := hcb.2.2; omega) (by have := hg2.cb.2.2; omega)).mp (t27.symm.trans hg2.1.2.2.2.2.2)
  subst q1 q2 q3
  have hw' := hw.f
  have hl' := hw.le.f
  have hrt := hw.rt.1
  have hhi := hw.hi.1
  have hdr := hw.dr.1
  have hle1 := hw.le.r.f
  have f5' : I2 (x + 1) 4 = 1 := f5
  have g0 : ((-1 : Int32) = -1) = True := eq_self _
  have hr2 : Led I2 J2 (x + 29) π g h nb nc nk := hr.on hw.le hg.cb (fun a h1 h2 => fx.1 a (by omega) (by omega) (by omega)) (fun a h1 h2 => fx.2 a (by omega))
  have hH2 : Hst I2 J2 (x + 89) πh pn o G H := hH.on hw.hi (fun a h1 h2 => fx.1 a (by omega) (by omega) (by omega)) (fun a h1 h2 => fx.2 a (by omega))
  rw [c_X8_addRules]
  simp only [e_X8_addRules_0, e_X8_addRules_1, e_X8_addRules_4, e_X8_addRules_5, e_X8_addRules_8, e_X8_addRules_11, hw', hl', hdr, true_and, true_and, and_true, rf_s, not_true_eq_false, not_false_eq_true, true_implies, false_implies, kl_i, kl_n, kl_l, kl_r, Option.toList, List.cons_append, List.nil_append, if_true, if_false, u2s, lt00, lt01, lt02, lt03, le10, le20, le30, ne10, ne20, ne30, eq00]
  refine cw_use c1 ?_
  simp only [e_X8_addRules_14, e_X8_addRules_15, e_X8_addRules_18, e_X8_addRules_19, e_X8_addRules_22, hw', hrt, true_and, true_and, and_true, rf_s, not_true_eq_false, not_false_eq_true, true_implies, false_implies, kl_i, kl_n, kl_l, kl_r, Option.toList, List.cons_append, List.nil_append, if_true, if_false, u2s, lt00, lt01, lt02, lt03, le10, le20, le30, ne10, ne20, ne30, eq00]
  refine cw_use c2 ?_
  simp only [e_X8_addRules_25, e_X8_addRules_26, e_X8_addRules_29, e_X8_addRules_32, e_X8_addRules_33, e_X8_addRules_46, e_X8_addRules_47, e_X8_addRules_50, e_X8_addRules_53, e_X8_addRules_66, e_X8_addRules_67, e_X8_addRules_70, e_X8_addRules_71, e_X8_addRules_74, hw', hrt, hhi, f3, f5', g0, ne10, true_and, and_true, rf_s, not_true_eq_false, not_false_eq_true, true_implies, false_implies, kl_i, kl_n, kl_l, kl_r, Option.toList, List.cons_append, List.nil_append, if_true, if_false, u2s, lt00, lt01, lt02, lt03, le10, le20, le30, ne10, ne20, ne30, eq00]
  refine k_rem (d := d + 1) hw hg hr2 hH2 (fun I3 J3 o3 a1 a2 a3 => ?_)
  simp only [e_X8_addRules_77, e_X8_addRules_78, e_X8_addRules_81, e_X8_addRules_84, e_X8_addRules_85, e_X8_addRules_88, hw', hl', hle1, true_and, true_and, and_true, rf_s, not_true_eq_false, not_false_eq_true, true_implies, false_implies, kl_i, kl_n, kl_l, kl_r, Option.toList, List.cons_append, List.nil_append, if_true, if_false, u2s, lt00, lt01, lt02, lt03, le10, le20, le30, ne10, ne20, ne30, eq00]
  refine k_ruCopy (d := d + 3) hw.le.r hw.dr (by omega) hcb (hru.on hw.dr hcb (fun a h1 h2 => (a1 a (by omega)).1) (fun a h1 h2 => (a1 a (by omega)).2)) (fun I4 J4 b1 b2 => ?_)
  have e3 : I4 (x + 1) = I2 (x + 1) := by rw [(b1 _ (by omega)).1, (a1 _ (by omega)).1]
  have f4' : I4 (x + 1) 3 = nI l.length := by rw [e3]; exact f4
  simp only [e_X8_addRules_91, e_X8_addRules_92, e_X8_addRules_95, e_X8_addRules_98, hw', hrt, f4', true_and, and_true, rf_s, not_true_eq_false, not_false_eq_true, true_implies, false_implies, kl_i, kl_n, kl_l, kl_r, Option.toList, List.cons_append, List.nil_append, if_true, if_false, u2s, lt00, lt01, lt02, lt03, le10, le20, le30, ne10, ne20, ne30, eq00]
  have hPr : Prs I4 (x + 29) g := by
    have z : ∀ a, a = x + 29 ∨ (x + 29 + 26 ≤ a ∧ a < x + 29 + 30) → I4 a = I2 a := fun a ha => by rw [(b1 a (by omega)).1, (a1 a (by omega)).1]
    obtain ⟨p1, p2⟩ := hr2.2
    refine ⟨by rw [z _ (by omega)]; exact p1, fun p hp => ?_⟩
    rw [z _ (by omega), z _ (by omega), z _ (by omega), z _ (by omega)]
    exact p2 p hp
  refine hq I4 J4 o3 _ _ _ (fun a ha => ⟨?_, ?_⟩) (by rw [e3]; exact f1) (by rw [e3]; exact f3) hg2 hkk (a2.on hw.hi (fun a h1 h2 => (b1 a (by omega)).1) (fun a h1 h2 => (b1 a (by omega)).2)) (fun g' h' hg' hh' => ⟨b2.cg hcb (fun k hk => hg' k (by omega)) (fun p k hp hk => ?_), hPr.cg (fun k h1 h2 => ?_)⟩)
  · rw [(b1 a (by omega)).1, (a1 a (by omega)).1]
    exact fx.1 a (by omega) (by omega) (by omega)
  · rw [(b1 a (by omega)).2, (a1 a (by omega)).2]
    exact fx.2 a (by omega)
  · have := hcb.2.2
    rw [hh' p k hp hk, hZ_at (by omega)]
  · rw [hg' k h2, ItsG_off l t (fun i hi => (hits i hi).1) k h1, ht k h2]
end TAR
section TH
variable {l : Launch} {E : tx_En} {I : IM} {J : JM} {P : PM} {x : Nat} {πd π πs : Nat → Nat} {πh : Nat → Nat → Nat} {g : Nat → Int32} {h : Nat → Int64} {nb nc nk d : Nat}
theorem t_addRules1 (hE : tx_ok E) (hfl : l.stackTraces = false) (hw : WbS E.2.2.1 E.2.2.2.1 P x πd π πs πh) {I1 I2 : IM} {J1 J2 : JM} (h1 : CWp E.2.2.1 E.2.2.2.1 5 MX7_copyFrom [.ref (x + 4), .ref (x + 30)] I J P (Qe none I1 J1 P)) (h2 : CWp E.2.2.1 E.2.2.2.1 5 MX6_readInto [.ref (x + 1), .ref (x + 4)] I1 J1 P (Qe none I2 J2 P)) {s2 : Nat} (h3 : I2 (x + 1) 2 = nI s2) (h4 : s2 ≤ 80) : MtX l E 6 MX8_addRules [.ref x] I J P 1 I2 J2 P := by
  have hw' := hw.f
  have hl' := hw.le.f
  have hru := hw.le.r.f
  have hS := hw'.1
  refine MtX.of hE MX8_addRules_ok (Nat.le_of_ble_eq_true rfl) (fun pg e s m args below meth c C hno hT => zt_seg (M := MX8_addRules) C ?_)
  show Gp E.2.2.1 E.2.2.2.1 true MX8_addRules _ 0 [some (.ref x)] [] I J P
  have hrt := hw.rt.1
  have hdr := hw.dr.1
  simp only [g_X8_addRules_0, g_X8_addRules_1, g_X8_addRules_4, g_X8_addRules_5, g_X8_addRules_8, hw', hl', hru, true_and, and_true, rf_s, not_true_eq_false, not_false_eq_true, true_implies, false_implies, kl_i, kl_n, kl_l, kl_r, Option.toList, List.cons_append, List.nil_append, if_true, if_false, u2s, lt00, lt01, lt02, lt03, le10, le20, le30, ne10, ne20, ne30, eq00]
  refine gs_X8_addRules_11 ?_
  intro H locs ls hW hL
  refine sg_cE (M := MX7_copyFrom) (As := [.ref (x + 30)]) (b := x + 4) (pc2 := 14) rfl (none) C hL (d := 5) ⟨by show _ ≤ _ + 6; omega, by show _ ≤ 60 * _ + 120; omega⟩ ⟨Nat.zero_le _, Nat.zero_le _⟩ dX8_addRules_11 rfl rfl rfl hdr (by rw [hdr]; decide) (Nat.le_of_ble_eq_true rfl) rfl h1 hW (zt_seg (M := MX8_addRules) C ?_)
  simp only [g_X8_addRules_14, g_X8_addRules_15, g_X8_addRules_18, g_X8_addRules_19, hw', hl', hru, true_and, and_true, rf_s, not_true_eq_false, not_false_eq_true, true_implies, false_implies, kl_i, kl_n, kl_l, kl_r, Option.toList, List.cons_append, List.nil_append, if_true, if_false, u2s, lt00, lt01, lt02, lt03, le10, le20, le30, ne10, ne20, ne30, eq00]
  refine gs_X8_addRules_22 ?_
  intro H locs ls hW hL
  refine sg_cE (M := MX6_readInto) (As := [.ref (x + 4)]) (b := x + 1) (pc2 := 25) rfl (none) C hL (d := 5) ⟨by show _ ≤ _ + 6; omega, by show _ ≤ 60 * _ + 120; omega⟩ ⟨Nat.zero_le _, Nat.zero_le _⟩ dX8_addRules_22 rfl rfl rfl hrt (by rw [hrt]; decide) (Nat.le_of_ble_eq_true rfl) rfl h2 hW (zt_seg (M := MX8_addRules) C ?_)
  have g0 : (nI s2 = (-1 : Int32)) = False := eq_false (fun z => by
    have g1 : ¬ nI s2 < 0 := nI_pos (by omega)
    rw [z] at g1
    exact g1 (by decide))
  simp only [g_X8_addRules_25, g_X8_addRules_26, g_X8_addRules_29, g_X8_addRules_32, g_X8_addRules_33, hw', hl', hru, hrt, h3, g0, true_and, and_true, rf_s, not_true_eq_false, not_false_eq_true, true_implies, false_implies, kl_i, kl_n, kl_l, kl_r, Option.toList, List.cons_append, List.nil_append, if_true, if_false, u2s, lt00, lt01, lt02, lt03, le10, le20, le30, ne10, ne20, ne30, eq00]
  refine gs_X8_addRules_36 ?_
  intro H locs ls hW hL
  exact sg_newS C hfl hno hT hL thw_1 exi2 (Nat.le_of_ble_eq_true rfl) ⟨by show 6 ≤ _ + 6; omega, by show 100 ≤ _ + 120; omega, Nat.le_refl _, Nat.le_refl _⟩ dX8_addRules_36 dX8_addRules_39 dX8_addRules_40 dX8_addRules_42 dX8_addRules_45 hW
theorem t_addRules2 (hE : tx_ok E) (hfl : l.stackTraces = false) (hw : WbS E.2.2.1 E.2.2.2.1 P x πd π πs πh) {I1 I2 : IM} {J1 J2 : JM} (h1 : CWp E.2.2.1 E.2.2.2.1 5 MX7_copyFrom [.ref (x + 4), .ref (x + 30)] I J P (Qe none I1 J1 P)) (h2 : CWp E.2.2.1 E.2.2.2.1 5 MX6_readInto [.ref (x + 1), .ref (x + 4)] I1 J1 P (Qe none I2 J2 P)) (h3 : I2 (x + 1) 2 = -1) (h4 : I2 (x + 1) 4 = 0) : MtX l E 6 MX8_addRules [.ref x] I J P 2 I2 J2 P := by
  have hw' := hw.f
  have hl' := hw.le.f
  have hru := hw.le.r.f
  have hS := hw'.1
  refine MtX.of hE MX8_addRules_ok (Nat.le_of_ble_eq_true rfl) (fun pg e s m args below meth c C hno hT => zt_seg (M := MX8_addRules) C ?_)
  show Gp E.2.2.1 E.2.2.2.1 true MX8_addRules _ 0 [some (.ref x)] [] I J P
  have hrt := hw.rt.1
  have hdr := hw.dr.1
  simp only [g_X8_addRules_0, g_X8_addRules_1, g_X8_addRules_4, g_X8_addRules_5, g_X8_addRules_8, hw', hl', hru, true_and, and_true, rf_s, not_true_eq_false, not_false_eq_true, true_implies, false_implies, kl_i, kl_n, kl_l, kl_r, Option.toList, List.cons_append, List.nil_append, if_true, if_false, u2s, lt00, lt01, lt02, lt03, le10, le20, le30, ne10, ne20, ne30, eq00]
  refine gs_X8_addRules_11 ?_
  intro H locs ls hW hL
  refine sg_cE (M := MX7_copyFrom) (As := [.ref (x + 30)]) (b := x + 4) (pc2 := 14) rfl (none) C hL (d := 5) ⟨by show _ ≤ _ + 6; omega, by show _ ≤ 60 * _ + 120; omega⟩ ⟨Nat.zero_le _, Nat.zero_le _⟩ dX8_addRules_11 rfl rfl rfl hdr (by rw [hdr]; decide) (Nat.le_of_ble_eq_true rfl) rfl h1 hW (zt_seg (M := MX8_addRules) C ?_)
  simp only [g_X8_addRules_14, g_X8_addRules_15, g_X8_addRules_18, g_X8_addRules_19, hw', hl', hru, true_and, and_true, rf_s, not_true_eq_false, not_false_eq_true, true_implies, false_implies, kl_i, kl_n, kl_l, kl_r, Option.toList, List.cons_append, List.nil_append, if_true, if_false, u2s, lt00, lt01, lt02, lt03, le10, le20, le30, ne10, ne20, ne30, eq00]
  refine gs_X8_addRules_22 ?_
  intro H locs ls hW hL
  refine sg_cE (M := MX6_readInto) (As := [.ref (x + 4)]) (b := x + 1) (pc2 := 25) rfl (none) C hL (d := 5) ⟨by show _ ≤ _ + 6; omega, by show _ ≤ 60 * _ + 120; omega⟩ ⟨Nat.zero_le _, Nat.zero_le _⟩ dX8_addRules_22 rfl rfl rfl hrt (by rw [hrt]; decide) (Nat.le_of_ble_eq_true rfl) rfl h2 hW (zt_seg (M := MX8_addRules) C ?_)
  have g0 : ((-1 : Int32) = -1) = True := eq_self _
  have g1 : ((0 : Int32) = 0) = True := eq_self _
  simp only [g_X8_addRules_25, g_X8_addRules_26, g_X8_addRules_29, g_X8_addRules_32, g_X8_addRules_33, g_X8_addRules_46, g_X8_addRules_47, g_X8_addRules_50, g_X8_addRules_53, hw', hl', hru, hrt, h3, h4, g0, g1, true_and, and_true, rf_s, not_true_eq_false, not_false_eq_true, true_implies, false_implies, kl_i, kl_n, kl_l, kl_r, Option.toList, List.cons_append, List.nil_append, if_true, if_false, u2s, lt00, lt01, lt02, lt03, le10, le20, le30, ne10, ne20, ne30, eq00]
  refine gs_X8_addRules_56 ?_
  intro H locs ls hW hL
  exact sg_newS C hfl hno hT hL thw_2 exi3 (Nat.le_of_ble_eq_true rfl) ⟨by show 6 ≤ _ + 6; omega, by show 100 ≤ _ + 120; omega, Nat.le_refl _, Nat.le_refl _⟩ dX8_addRules_56 dX8_addRules_59 dX8_addRules_60 dX8_addRules_62 dX8_addRules_65 hW
end TH

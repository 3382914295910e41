/-! throws of NoSuchElementException; throws after the state has changed -/
section SGE
variable {p : Program} {l : Launch} {e : Env} {R : Room} {s : State} {m : MethodId} {args : Array Value} {below : List Frame} {meth : Method} {c : Code} {Q : State → Prop}
variable {E : tx_En} {A : Nat → Prop} {H0 H : Heap} {locs : List Loc} {cells slots : Nat} {cc : ByteArray} {nL o pc len : Nat} {st st' : List Value} {ls : Array Slot} {ll : List (Option Value)} {I I' : IM} {J J' : JM} {P P' : PM}
abbrev Qe (ov : Option Value) (I : IM) (J : JM) (P : PM) : Option Value → IM → JM → PM → Prop := fun r I1 J1 P1 => r = ov ∧ I1 = I ∧ J1 = J ∧ P1 = P
/-- a call with a known answer -/
theorem sg_cE {pc2 : Nat} (hpc : pc + 3 = pc2) (ov : Option Value) (C : Cx E o cc nL p s m args meth c) (hL : Lv ls nL ll) {n d b : Nat} {M : MR} {As : List Value} (hR : d + 1 ≤ R.frames ∧ 60 * d + 40 ≤ R.locals) (hcs : cells ≤ R.cells ∧ slots ≤ R.slots) (hd : decode cc pc = .ok (.invokevirtual n, 3)) (hm : mres o n = some M) (hs : M.2.2.2.2.2.2 = false) (hn : As.length = M.2.2.2.2.2.1) (hSb : E.2.2.1 b = M.2.2.2.2.1) (h10 : E.2.2.1 b < 10) (hst : (st'.map fun v => v.category).sum ≤ 8) (hs2 : st = As.reverse ++ .ref b :: st') (h : CWp E.2.2.1 E.2.2.2.1 d M (.ref b :: As) I J P (Qe ov I' J' P')) (hW : Wd E A H0 I J P H locs)
    (kk : Zt p l e R s m args below meth c E A H0 cells slots nL Q pc2 ll (ov.toList ++ st') I' J' P') : W p l e R s m args below meth c H locs cells slots Q (F0 m pc ls st) :=
  sg_cV C hL hR hcs hd hm hs hn hSb h10 hst hs2 h hW (fun r I1 J1 P1 hq H1 locs1 hW1 _ _ => by
    obtain ⟨rfl, rfl, rfl, rfl⟩ := hq
    subst hpc
    exact kk H1 locs1 ls hW1 hL)
end SGE
section TE
variable {S N : Nat → Nat} {d : Nat} {M : MR} {As : List Value} {I : IM} {J : JM} {P : PM}
/-- what is known of a call, with its answer named -/
theorem cw_ex {Q : Option Value → IM → JM → PM → Prop} (h : CWp S N d M As I J P Q) : ∃ r I1 J1 P1, Q r I1 J1 P1 ∧ CWp S N d M As I J P (Qe r I1 J1 P1) := by
  obtain ⟨r, I1, J1, P1, h1, h2⟩ := h
  exact ⟨r, I1, J1, P1, h2, r, I1, J1, P1, h1, rfl, rfl, rfl, rfl⟩
end TE
section TH
variable {l : Launch} {E : tx_En} {I : IM} {J : JM} {P : PM} {x : Nat} {πd π πs : Nat → Nat} {πh : Nat → Nat → Nat} {g : Nat → Int32} {h : Nat → Int64} {nb nc nk d : Nat}
theorem t_requirePartner2 (hE : tx_ok E) (hfl : l.stackTraces = false) (hw : WbS E.2.2.1 E.2.2.2.1 P x πd π πs πh) (hr : Led I J (x + 29) π g h nb nc nk) {p : Nat} (hp : p < 6) (hv : g (82 + p) = -1) : MtX l E 1 MX8_requirePartner [.ref x, .int (nI p)] I J P 3 I J P := by
  have hw' := hw.f
  have hl' := hw.le.f
  have hru := hw.le.r.f
  have hS := hw'.1
  refine MtX.of hE MX8_requirePartner_ok (Nat.le_of_ble_eq_true rfl) (fun pg e s m args below meth c C hno hT => zt_seg (M := MX8_requirePartner) C ?_)
  show Gp E.2.2.1 E.2.2.2.1 true MX8_requirePartner _ 0 [some (.ref x), some (.int (nI p)), none] [] I J P
  simp only [g_X8_requirePartner_0, g_X8_requirePartner_1, g_X8_requirePartner_2, hw', hl', hru, true_and, and_true, rf_s, not_true_eq_false, not_false_eq_true, true_implies, false_implies, kl_i, kl_n, kl_l, kl_r, Option.toList, List.cons_append, List.nil_append, if_true, if_false, u2s, lt00, lt01, lt02, lt03, le10, le20, le30, ne10, ne20, ne30, eq00]
  refine gs_X8_requirePartner_4 ?_
  intro H locs ls hW hL
  refine sg_cG (M := MX8_requireIndex) (As := [.int (nI p), .int 6]) (b := x) (pc2 := 7) rfl C hL ⟨by show 1 ≤ _ + 6; omega, by show 40 ≤ _ + 120; omega⟩ ⟨Nat.zero_le _, Nat.zero_le _⟩ dX8_requirePartner_4 rfl rfl rfl hS (by rw [hS]; decide) (Nat.le_of_ble_eq_true rfl) rfl (ok_rI6 hp) hW (zt_seg (M := MX8_requirePartner) C ?_)
  have b1 := led_partner hr hp
  have ee : ((-1 : Int32) = -1) = True := eq_self _
  simp only [g_X8_requirePartner_7, g_X8_requirePartner_8, g_X8_requirePartner_11, g_X8_requirePartner_14, g_X8_requirePartner_15, g_X8_requirePartner_16, g_X8_requirePartner_17, g_X8_requirePartner_18, g_X8_requirePartner_19, hw', hl', hru, b1, hv, ee, nI_clamp (show p < 2 ^ 31 by omega), vpn hp (by decide), true_and, and_true, rf_s, not_true_eq_false, not_false_eq_true, true_implies, false_implies, kl_i, kl_n, kl_l, kl_r, Option.toList, List.cons_append, List.nil_append, if_true, if_false, u2s, lt00, lt01, lt02, lt03, le10, le20, le30, ne10, ne20, ne30, eq00]
  refine gs_X8_requirePartner_22 ?_
  intro H locs ls hW hL
  exact sg_nzW C hfl hno hT hL nzw exi7 (Nat.le_of_ble_eq_true rfl) ⟨by show 6 ≤ _ + 6; omega, by show 100 ≤ _ + 120; omega, Nat.le_refl _, Nat.le_refl _⟩ dX8_requirePartner_22 dX8_requirePartner_25 dX8_requirePartner_26 dX8_requirePartner_29 dX8_requirePartner_32 hW
theorem t_part2 (hE : tx_ok E) (hfl : l.stackTraces = false) (hw : WbS E.2.2.1 E.2.2.2.1 P x πd π πs πh) (hr : Led I J (x + 29) π g h nb nc nk) {p : Nat} (hp : p < 6) (hv : g (82 + p) = -1) : MtX l E 2 MX8_part [.ref x, .int (nI p)] I J P 3 I J P := by
  have hw' := hw.f
  have hl' := hw.le.f
  have hru := hw.le.r.f
  have hS := hw'.1
  refine MtX.of hE MX8_part_ok (Nat.le_of_ble_eq_true rfl) (fun pg e s m args below meth c C hno hT => zt_seg (M := MX8_part) C ?_)
  show Gp E.2.2.1 E.2.2.2.1 true MX8_part _ 0 [some (.ref x), some (.int (nI p)), none] [] I J P
  have hco := hw.co.1
  simp only [g_X8_part_0, g_X8_part_1, hw', hl', hru, hco, true_and, and_true, rf_s, not_true_eq_false, not_false_eq_true, true_implies, false_implies, kl_i, kl_n, kl_l, kl_r, Option.toList, List.cons_append, List.nil_append, if_true, if_false, u2s, lt00, lt01, lt02, lt03, le10, le20, le30, ne10, ne20, ne30, eq00]
  refine gs_X8_part_2 ?_
  intro H locs ls hW hL
  exact sg_cX (M := MX8_requirePartner) (As := [.int (nI p)]) (b := x) C hno hT hL (d := 1) ⟨by show _ ≤ _ + 6; omega, by show _ ≤ 60 * _ + 120; omega, Nat.le_refl _, Nat.le_refl _⟩ dX8_part_2 rfl rfl rfl hS (by rw [hS]; decide) (Nat.le_of_ble_eq_true rfl) rfl (t_requirePartner2 hE hfl hw hr hp hv) hW
theorem t_partner2 (hE : tx_ok E) (hfl : l.stackTraces = false) (hw : WbS E.2.2.1 E.2.2.2.1 P x πd π πs πh) (hr : Led I J (x + 29) π g h nb nc nk) {p : Nat} (hp : p < 6) (hv : g (82 + p) = -1) : MtX l E 2 MX8_partner [.ref x, .int (nI p)] I J P 3 I J P := by
  have hw' := hw.f
  have hl' := hw.le.f
  have hru := hw.le.r.f
  have hS := hw'.1
  refine MtX.of hE MX8_partner_ok (Nat.le_of_ble_eq_true rfl) (fun pg e s m args below meth c C hno hT => zt_seg (M := MX8_partner) C ?_)
  show Gp E.2.2.1 E.2.2.2.1 true MX8_partner _ 0 [some (.ref x), some (.int (nI p))] [] I J P
  have hco := hw.co.1
  simp only [g_X8_partner_0, g_X8_partner_1, hw', hl', hru, hco, true_and, and_true, rf_s, not_true_eq_false, not_false_eq_true, true_implies, false_implies, kl_i, kl_n, kl_l, kl_r, Option.toList, List.cons_append, List.nil_append, if_true, if_false, u2s, lt00, lt01, lt02, lt03, le10, le20, le30, ne10, ne20, ne30, eq00]
  refine gs_X8_partner_2 ?_
  intro H locs ls hW hL
  exact sg_cX (M := MX8_requirePartner) (As := [.int (nI p)]) (b := x) C hno hT hL (d := 1) ⟨by show _ ≤ _ + 6; omega, by show _ ≤ 60 * _ + 120; omega, Nat.le_refl _, Nat.le_refl _⟩ dX8_partner_2 rfl rfl rfl hS (by rw [hS]; decide) (Nat.le_of_ble_eq_true rfl) rfl (t_requirePartner2 hE hfl hw hr hp hv) hW
theorem t_jointTax2 (hE : tx_ok E) (hfl : l.stackTraces = false) (hw : WbS E.2.2.1 E.2.2.2.1 P x πd π πs πh) (hr : Led I J (x + 29) π g h nb nc nk) {p : Nat} (hp : p < 6) (hv : g (82 + p) = -1) : MtX l E 2 MX8_jointTax [.ref x, .int (nI p)] I J P 3 I J P := by
  have hw' := hw.f
  have hl' := hw.le.f
  have hru := hw.le.r.f
  have hS := hw'.1
  refine MtX.of hE MX8_jointTax_ok (Nat.le_of_ble_eq_true rfl) (fun pg e s m args below meth c C hno hT => zt_seg (M := MX8_jointTax) C ?_)
  show Gp E.2.2.1 E.2.2.2.1 true MX8_jointTax _ 0 [some (.ref x), some (.int (nI p))] [] I J P
  have hco := hw.co.1
  simp only [g_X8_jointTax_0, g_X8_jointTax_1, g_X8_jointTax_4, g_X8_jointTax_5, g_X8_jointTax_8, g_X8_jointTax_9, g_X8_jointTax_10, hw', hl', hru, hco, true_and, and_true, rf_s, not_true_eq_false, not_false_eq_true, true_implies, false_implies, kl_i, kl_n, kl_l, kl_r, Option.toList, List.cons_append, List.nil_append, if_true, if_false, u2s, lt00, lt01, lt02, lt03, le10, le20, le30, ne10, ne20, ne30, eq00]
  refine gs_X8_jointTax_11 ?_
  intro H locs ls hW hL
  exact sg_cX (M := MX8_requirePartner) (As := [.int (nI p)]) (b := x) C hno hT hL (d := 1) ⟨by show _ ≤ _ + 6; omega, by show _ ≤ 60 * _ + 120; omega, Nat.le_refl _, Nat.le_refl _⟩ dX8_jointTax_11 rfl rfl rfl hS (by rw [hS]; decide) (Nat.le_of_ble_eq_true rfl) rfl (t_requirePartner2 hE hfl hw hr hp hv) hW
theorem t_separateTax2 (hE : tx_ok E) (hfl : l.stackTraces = false) (hw : WbS E.2.2.1 E.2.2.2.1 P x πd π πs πh) (hr : Led I J (x + 29) π g h nb nc nk) {p : Nat} (hp : p < 6) (hv : g (82 + p) = -1) : MtX l E 2 MX8_separateTax [.ref x, .int (nI p)] I J P 3 I J P := by
  have hw' := hw.f
  have hl' := hw.le.f
  have hru := hw.le.r.f
  have hS := hw'.1
  refine MtX.of hE MX8_separateTax_ok (Nat.le_of_ble_eq_true rfl) (fun pg e s m args below meth c C hno hT => zt_seg (M := MX8_separateTax) C ?_)
  show Gp E.2.2.1 E.2.2.2.1 true MX8_separateTax _ 0 [some (.ref x), some (.int (nI p))] [] I J P
  have hco := hw.co.1
  simp only [g_X8_separateTax_0, g_X8_separateTax_1, g_X8_separateTax_4, g_X8_separateTax_5, g_X8_separateTax_8, g_X8_separateTax_9, g_X8_separateTax_10, hw', hl', hru, hco, true_and, and_true, rf_s, not_true_eq_false, not_false_eq_true, true_implies, false_implies, kl_i, kl_n, kl_l, kl_r, Option.toList, List.cons_append, List.nil_append, if_true, if_false, u2s, lt00, lt01, lt02, lt03, le10, le20, le30, ne10, ne20, ne30, eq00]
  refine gs_X8_separateTax_11 ?_
  intro H locs ls hW hL
  exact sg_cX (M := MX8_requirePartner) (As := [.int (nI p)]) (b := x) C hno hT hL (d := 1) ⟨by show _ ≤ _ + 6; omega, by show _ ≤ 60 * _ + 120; omega, Nat.le_refl _, Nat.le_refl _⟩ dX8_separateTax_11 rfl rfl rfl hS (by rw [hS]; decide) (Nat.le_of_ble_eq_true rfl) rfl (t_requirePartner2 hE hfl hw hr hp hv) hW
theorem t_division2 (hE : tx_ok E) (hfl : l.stackTraces = false) (hw : WbS E.2.2.1 E.2.2.2.1 P x πd π πs πh) (hr : Led I J (x + 29) π g h nb nc nk) {p : Nat} (hp : p < 6) (hv : g (82 + p) = -1) : MtX l E 2 MX8_division [.ref x, .int (nI p)] I J P 3 I J P := by
  have hw' := hw.f
  have hl' := hw.le.f
  have hru := hw.le.r.f
  have hS := hw'.1
  refine MtX.of hE MX8_division_ok (Nat.le_of_ble_eq_true rfl) (fun pg e s m args below meth c C hno hT => zt_seg (M := MX8_division) C ?_)
  show Gp E.2.2.1 E.2.2.2.1 true MX8_division _ 0 [some (.ref x), some (.int (nI p))] [] I J P
  have hco := hw.co.1
  simp only [g_X8_division_0, g_X8_division_1, g_X8_division_4, g_X8_division_5, g_X8_division_8, g_X8_division_9, g_X8_division_10, hw', hl', hru, hco, true_and, and_true, rf_s, not_true_eq_false, not_false_eq_true, true_implies, false_implies, kl_i, kl_n, kl_l, kl_r, Option.toList, List.cons_append, List.nil_append, if_true, if_false, u2s, lt00, lt01, lt02, lt03, le10, le20, le30, ne10, ne20, ne30, eq00]
  refine gs_X8_division_11 ?_
  intro H locs ls hW hL
  exact sg_cX (M := MX8_requirePartner) (As := [.int (nI p)]) (b := x) C hno hT hL (d := 1) ⟨by show _ ≤ _ + 6; omega, by show _ ≤ 60 * _ + 120; omega, Nat.le_refl _, Nat.le_refl _⟩ dX8_division_11 rfl rfl rfl hS (by rw [hS]; decide) (Nat.le_of_ble_eq_true rfl) rfl (t_requirePartner2 hE hfl hw hr hp hv) hW
theorem t_choosesJoint2 (hE : tx_ok E) (hfl : l.stackTraces = false) (hw : WbS E.2.2.1 E.2.2.2.1 P x πd π πs πh) (hr : Led I J (x + 29) π g h nb nc nk) {p : Nat} (hp : p < 6) (hv : g (82 + p) = -1) : MtX l E 2 MX8_choosesJoint [.ref x, .int (nI p)] I J P 3 I J P := by
  have hw' := hw.f
  have hl' := hw.le.f
  have hru := hw.le.r.f
  have hS := hw'.1
  refine MtX.of hE MX8_choosesJoint_ok (Nat.le_of_ble_eq_true rfl) (fun pg e s m args below meth c C hno hT => zt_seg (M := MX8_choosesJoint) C ?_)
  show Gp E.2.2.1 E.2.2.2.1 true MX8_choosesJoint _ 0 [some (.ref x), some (.int (nI p))] [] I J P
  have hco := hw.co.1
  simp only [g_X8_choosesJoint_0, g_X8_choosesJoint_1, g_X8_choosesJoint_4, g_X8_choosesJoint_5, g_X8_choosesJoint_8, g_X8_choosesJoint_9, g_X8_choosesJoint_10, hw', hl', hru, hco, true_and, and_true, rf_s, not_true_eq_false, not_false_eq_true, true_implies, false_implies, kl_i, kl_n, kl_l, kl_r, Option.toList, List.cons_append, List.nil_append, if_true, if_false, u2s, lt00, lt01, lt02, lt03, le10, le20, le30, ne10, ne20, ne30, eq00]
  refine gs_X8_choosesJoint_11 ?_
  intro H locs ls hW hL
  exact sg_cX (M := MX8_requirePartner) (As := [.int (nI p)]) (b := x) C hno hT hL (d := 1) ⟨by show _ ≤ _ + 6; omega, by show _ ≤ 60 * _ + 120; omega, Nat.le_refl _, Nat.le_refl _⟩ dX8_choosesJoint_11 rfl rfl rfl hS (by rw [hS]; decide) (Nat.le_of_ble_eq_true rfl) rfl (t_requirePartner2 hE hfl hw hr hp hv) hW
theorem nk_calls (hw : WbS E.2.2.1 E.2.2.2.1 P x πd π πs πh) (hg : Gd g nb nc nk) (hr : Led I J (x + 29) π g h nb nc nk) {p : Nat} (hp : p < 6) {v : Int32} {e0 : Nat} (hs0 : NkS v e0) (hk : NkF (TxE g h nb nc nk p) (9999 - e0) e0 = none) :
    ∃ I1 J1 I2 J2, Fr (x + 292) (x + 303) I I2 J J2 ∧ CWp E.2.2.1 E.2.2.2.1 5 MX3_turnTo [.ref (x + 292), .ref (x + 29), .int (nI p)] I J P (Qe none I1 J1 P) ∧ CWp E.2.2.1 E.2.2.2.1 5 MX3_kinkAbove [.ref (x + 292), .ref (x + 30), .int v] I1 J1 P (Qe (some (.int (-1))) I2 J2 P) := by
  obtain ⟨r1, I1, J1, P1, ⟨rfl, rfl, f0, f2, f3⟩, h1⟩ := cw_ex (k_turnTo (d := 4) (Q := fun r I' J' P' => r = none ∧ P' = P ∧ Fr (x + 292) (x + 303) I I' J J' ∧ (∃ e, ExI g h nk (x + 292) p e I' J') ∧ Led I' J' (x + 29) π g h nb nc nk) hw.ex hw.le (by omega) hg hr hp (fun I1 J1 e1 f0 f1 f2 f3 => ⟨rfl, rfl, f1, ⟨e1, f2⟩, f3⟩))
  obtain ⟨e1, f2⟩ := f2
  obtain ⟨r2, I2, J2, P2, ⟨rfl, rfl, g0⟩, h2⟩ := cw_ex (k_kinkAbove (d := 1) (Q := fun r I' J' P' => r = some (.int (-1)) ∧ P' = P1 ∧ Fr (x + 292) (x + 303) I1 I' J1 J') hw.ex hw.le (by omega) hg hp f2 f3 hs0 (fun I2 J2 e2 a1 a2 a3 => ⟨by rw [hk], rfl, a1⟩))
  exact ⟨I1, J1, I2, J2, f0.tr g0, h1, h2⟩
theorem kc_calls (hw : WbS E.2.2.1 E.2.2.2.1 P x πd π πs πh) (hg : Gd g nb nc nk) (hr : Led I J (x + 29) π g h nb nc nk) {p : Nat} (hp : p < 6) {v : Int32} (hv : ¬ (1 ≤ v ∧ v ≤ 9998) ∨ ∃ w, v = nI w ∧ 1 ≤ w ∧ w < 9999 ∧ flat (TxE g h nb nc nk p) w) :
    ∃ I1 J1 I2 J2, Fr (x + 292) (x + 303) I I2 J J2 ∧ CWp E.2.2.1 E.2.2.2.1 5 MX3_turnTo [.ref (x + 292), .ref (x + 29), .int (nI p)] I J P (Qe none I1 J1 P) ∧ CWp E.2.2.1 E.2.2.2.1 5 MX3_causeAt [.ref (x + 292), .ref (x + 30), .int v] I1 J1 P (Qe (some (.int (-1))) I2 J2 P) := by
  obtain ⟨r1, I1, J1, P1, ⟨rfl, rfl, f0, f2, f3⟩, h1⟩ := cw_ex (k_turnTo (d := 4) (Q := fun r I' J' P' => r = none ∧ P' = P ∧ Fr (x + 292) (x + 303) I I' J J' ∧ (∃ e, ExI g h nk (x + 292) p e I' J') ∧ Led I' J' (x + 29) π g h nb nc nk) hw.ex hw.le (by omega) hg hr hp (fun I1 J1 e1 f0 f1 f2 f3 => ⟨rfl, rfl, f1, ⟨e1, f2⟩, f3⟩))
  obtain ⟨e1, f2⟩ := f2
  rcases hv with hv | ⟨w, rfl, w1, w2, w3⟩
  · exact ⟨I1, J1, I1, J1, f0, h1, (k_causeAt_out (d := 4) hw.ex hw.le f3 hv).mpr ⟨rfl, rfl, rfl, rfl⟩⟩
  · obtain ⟨r2, I2, J2, P2, ⟨rfl, rfl, g0⟩, h2⟩ := cw_ex (k_causeAt_in (d := 0) (Q := fun r I' J' P' => r = some (.int (-1)) ∧ P' = P1 ∧ Fr (x + 292) (x + 303) I1 I' J1 J') hw.ex hw.le (by omega) hg hp w1 w2 f2 f3 (fun I2 J2 e2 a1 a2 a3 => ⟨by rw [if_pos w3], rfl, a1⟩))
    exact ⟨I1, J1, I2, J2, f0.tr g0, h1, h2⟩
theorem t_nextKink2 (hE : tx_ok E) (hfl : l.stackTraces = false) (hw : WbS E.2.2.1 E.2.2.2.1 P x πd π πs πh) {p : Nat} (hp : p < 6) {v : Int32} {I1 I2 : IM} {J1 J2 : JM} (h1 : CWp E.2.2.1 E.2.2.2.1 5 MX3_turnTo [.ref (x + 292), .ref (x + 29), .int (nI p)] I J P (Qe none I1 J1 P)) (h2 : CWp E.2.2.1 E.2.2.2.1 5 MX3_kinkAbove [.ref (x + 292), .ref (x + 30), .int v] I1 J1 P (Qe (some (.int (-1))) I2 J2 P)) : MtX l E 6 MX8_nextKink [.ref x, .int (nI p), .int v] I J P 3 I2 J2 P := by
  have hw' := hw.f
  have hl' := hw.le.f
  have hru := hw.le.r.f
  have hS := hw'.1
  refine MtX.of hE MX8_nextKink_ok (Nat.le_of_ble_eq_true rfl) (fun pg e s m args below meth c C hno hT => zt_seg (M := MX8_nextKink) C ?_)
  show Gp E.2.2.1 E.2.2.2.1 true MX8_nextKink _ 0 [some (.ref x), some (.int (nI p)), some (.int v), none] [] I J P
  have hs3 := hw.ex.1
  simp only [g_X8_nextKink_0, g_X8_nextKink_1, g_X8_nextKink_2, hw', hl', hru, true_and, and_true, rf_s, not_true_eq_false, not_false_eq_true, true_implies, false_implies, kl_i, kl_n, kl_l, kl_r, Option.toList, List.cons_append, List.nil_append, if_true, if_false, u2s, lt00, lt01, lt02, lt03, le10, le20, le30, ne10, ne20, ne30, eq00]
  refine gs_X8_nextKink_4 ?_
  intro H locs ls hW hL
  refine sg_cG (M := MX8_requireIndex) (As := [.int (nI p), .int 6]) (b := x) (pc2 := 7) rfl C hL ⟨by show 1 ≤ _ + 6; omega, by show 40 ≤ _ + 120; omega⟩ ⟨Nat.zero_le _, Nat.zero_le _⟩ dX8_nextKink_4 rfl rfl rfl hS (by rw [hS]; decide) (Nat.le_of_ble_eq_true rfl) rfl (ok_rI6 hp) hW (zt_seg (M := MX8_nextKink) C ?_)
  simp only [g_X8_nextKink_7, g_X8_nextKink_8, g_X8_nextKink_11, g_X8_nextKink_12, g_X8_nextKink_15, hw', hl', hru, hs3, true_and, and_true, rf_s, not_true_eq_false, not_false_eq_true, true_implies, false_implies, kl_i, kl_n, kl_l, kl_r, Option.toList, List.cons_append, List.nil_append, if_true, if_false, u2s, lt00, lt01, lt02, lt03, le10, le20, le30, ne10, ne20, ne30, eq00]
  refine gs_X8_nextKink_16 ?_
  intro H locs ls hW hL
  refine sg_cE (M := MX3_turnTo) (As := [.ref (x + 29), .int (nI p)]) (b := x + 292) (pc2 := 19) rfl (none) C hL (d := 5) ⟨by show _ ≤ _ + 6; omega, by show _ ≤ 60 * _ + 120; omega⟩ ⟨Nat.zero_le _, Nat.zero_le _⟩ dX8_nextKink_16 rfl rfl rfl hs3 (by rw [hs3]; decide) (Nat.le_of_ble_eq_true rfl) rfl h1 hW (zt_seg (M := MX8_nextKink) C ?_)
  simp only [g_X8_nextKink_19, g_X8_nextKink_20, g_X8_nextKink_23, g_X8_nextKink_24, g_X8_nextKink_27, g_X8_nextKink_30, hw', hl', hru, hs3, true_and, and_true, rf_s, not_true_eq_false, not_false_eq_true, true_implies, false_implies, kl_i, kl_n, kl_l, kl_r, Option.toList, List.cons_append, List.nil_append, if_true, if_false, u2s, lt00, lt01, lt02, lt03, le10, le20, le30, ne10, ne20, ne30, eq00]
  refine gs_X8_nextKink_31 ?_
  intro H locs ls hW hL
  refine sg_cE (M := MX3_kinkAbove) (As := [.ref (x + 30), .int v]) (b := x + 292) (pc2 := 34) rfl (some (.int (-1))) C hL (d := 5) ⟨by show _ ≤ _ + 6; omega, by show _ ≤ 60 * _ + 120; omega⟩ ⟨Nat.zero_le _, Nat.zero_le _⟩ dX8_nextKink_31 rfl rfl rfl hs3 (by rw [hs3]; decide) (Nat.le_of_ble_eq_true rfl) rfl h2 hW (zt_seg (M := MX8_nextKink) C ?_)
  have ee : ((-1 : Int32) = -1) = True := eq_self _
  simp only [g_X8_nextKink_34, g_X8_nextKink_35, g_X8_nextKink_36, g_X8_nextKink_37, hw', hl', hru, ee, true_and, and_true, rf_s, not_true_eq_false, not_false_eq_true, true_implies, false_implies, kl_i, kl_n, kl_l, kl_r, Option.toList, List.cons_append, List.nil_append, if_true, if_false, u2s, lt00, lt01, lt02, lt03, le10, le20, le30, ne10, ne20, ne30, eq00]
  refine gs_X8_nextKink_40 ?_
  intro H locs ls hW hL
  exact sg_nzS C hfl hno hT hL nzw exi8 (Nat.le_of_ble_eq_true rfl) ⟨by show 6 ≤ _ + 6; omega, by show 100 ≤ _ + 120; omega, Nat.le_refl _, Nat.le_refl _⟩ dX8_nextKink_40 dX8_nextKink_43 dX8_nextKink_44 dX8_nextKink_46 dX8_nextKink_49 hW
theorem t_kinkCause2 (hE : tx_ok E) (hfl : l.stackTraces = false) (hw : WbS E.2.2.1 E.2.2.2.1 P x πd π πs πh) {p : Nat} (hp : p < 6) {v : Int32} {I1 I2 : IM} {J1 J2 : JM} (h1 : CWp E.2.2.1 E.2.2.2.1 5 MX3_turnTo [.ref (x + 292), .ref (x + 29), .int (nI p)] I J P (Qe none I1 J1 P)) (h2 : CWp E.2.2.1 E.2.2.2.1 5 MX3_causeAt [.ref (x + 292), .ref (x + 30), .int v] I1 J1 P (Qe (some (.int (-1))) I2 J2 P)) : MtX l E 6 MX8_kinkCause [.ref x, .int (nI p), .int v] I J P 3 I2 J2 P := by
  have hw' := hw.f
  have hl' := hw.le.f
  have hru := hw.le.r.f
  have hS := hw'.1
  refine MtX.of hE MX8_kinkCause_ok (Nat.le_of_ble_eq_true rfl) (fun pg e s m args below meth c C hno hT => zt_seg (M := MX8_kinkCause) C ?_)
  show Gp E.2.2.1 E.2.2.2.1 true MX8_kinkCause _ 0 [some (.ref x), some (.int (nI p)), some (.int v), none] [] I J P
  have hs3 := hw.ex.1
  simp only [g_X8_kinkCause_0, g_X8_kinkCause_1, g_X8_kinkCause_2, hw', hl', hru, true_and, and_true, rf_s, not_true_eq_false, not_false_eq_true, true_implies, false_implies, kl_i, kl_n, kl_l, kl_r, Option.toList, List.cons_append, List.nil_append, if_true, if_false, u2s, lt00, lt01, lt02, lt03, le10, le20, le30, ne10, ne20, ne30, eq00]
  refine gs_X8_kinkCause_4 ?_
  intro H locs ls hW hL
  refine sg_cG (M := MX8_requireIndex) (As := [.int (nI p), .int 6]) (b := x) (pc2 := 7) rfl C hL ⟨by show 1 ≤ _ + 6; omega, by show 40 ≤ _ + 120; omega⟩ ⟨Nat.zero_le _, Nat.zero_le _⟩ dX8_kinkCause_4 rfl rfl rfl hS (by rw [hS]; decide) (Nat.le_of_ble_eq_true rfl) rfl (ok_rI6 hp) hW (zt_seg (M := MX8_kinkCause) C ?_)
  simp only [g_X8_kinkCause_7, g_X8_kinkCause_8, g_X8_kinkCause_11, g_X8_kinkCause_12, g_X8_kinkCause_15, hw', hl', hru, hs3, true_and, and_true, rf_s, not_true_eq_false, not_false_eq_true, true_implies, false_implies, kl_i, kl_n, kl_l, kl_r, Option.toList, List.cons_append, List.nil_append, if_true, if_false, u2s, lt00, lt01, lt02, lt03, le10, le20, le30, ne10, ne20, ne30, eq00]
  refine gs_X8_kinkCause_16 ?_
  intro H locs ls hW hL
  refine sg_cE (M := MX3_turnTo) (As := [.ref (x + 29), .int (nI p)]) (b := x + 292) (pc2 := 19) rfl (none) C hL (d := 5) ⟨by show _ ≤ _ + 6; omega, by show _ ≤ 60 * _ + 120; omega⟩ ⟨Nat.zero_le _, Nat.zero_le _⟩ dX8_kinkCause_16 rfl rfl rfl hs3 (by rw [hs3]; decide) (Nat.le_of_ble_eq_true rfl) rfl h1 hW (zt_seg (M := MX8_kinkCause) C ?_)
  simp only [g_X8_kinkCause_19, g_X8_kinkCause_20, g_X8_kinkCause_23, g_X8_kinkCause_24, g_X8_kinkCause_27, g_X8_kinkCause_30, hw', hl', hru, hs3, true_and, and_true, rf_s, not_true_eq_false, not_false_eq_true, true_implies, false_implies, kl_i, kl_n, kl_l, kl_r, Option.toList, List.cons_append, List.nil_append, if_true, if_false, u2s, lt00, lt01, lt02, lt03, le10, le20, le30, ne10, ne20, ne30, eq00]
  refine gs_X8_kinkCause_31 ?_
  intro H locs ls hW hL
  refine sg_cE (M := MX3_causeAt) (As := [.ref (x + 30), .int v]) (b := x + 292) (pc2 := 34) rfl (some (.int (-1))) C hL (d := 5) ⟨by show _ ≤ _ + 6; omega, by show _ ≤ 60 * _ + 120; omega⟩ ⟨Nat.zero_le _, Nat.zero_le _⟩ dX8_kinkCause_31 rfl rfl rfl hs3 (by rw [hs3]; decide) (Nat.le_of_ble_eq_true rfl) rfl h2 hW (zt_seg (M := MX8_kinkCause) C ?_)
  have ee : ((-1 : Int32) = -1) = True := eq_self _
  simp only [g_X8_kinkCause_34, g_X8_kinkCause_35, g_X8_kinkCause_36, g_X8_kinkCause_37, hw', hl', hru, ee, true_and, and_true, rf_s, not_true_eq_false, not_false_eq_true, true_implies, false_implies, kl_i, kl_n, kl_l, kl_r, Option.toList, List.cons_append, List.nil_append, if_true, if_false, u2s, lt00, lt01, lt02, lt03, le10, le20, le30, ne10, ne20, ne30, eq00]
  refine gs_X8_kinkCause_40 ?_
  intro H locs ls hW hL
  exact sg_nzW C hfl hno hT hL nzw exi9 (Nat.le_of_ble_eq_true rfl) ⟨by show 6 ≤ _ + 6; omega, by show 100 ≤ _ + 120; omega, Nat.le_refl _, Nat.le_refl _⟩ dX8_kinkCause_40 dX8_kinkCause_43 dX8_kinkCause_44 dX8_kinkCause_47 dX8_kinkCause_50 hW
end TH

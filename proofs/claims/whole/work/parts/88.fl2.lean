/-! averages, each side -/
section FLP
variable {p : Program} {l : Launch} {e : Env} {R : Room} {s : State} {m : MethodId} {args : Array Value} {below : List Frame} {meth : Method} {c : Code} {Q : State → Prop}
variable {E : tx_En} {H : Heap} {locs : List Loc} {cells slots : Nat} {cc : ByteArray} {nL o pc : Nat} {rest : List Value} {ls : Array Slot}
theorem sg_l2dP {v : Int64} {pc2 : Nat} (hpc : pc + 1 = pc2) (C : Cx E o cc nL p s m args meth c) (hd : decode cc pc = .ok (.l2d, 1)) (k : W p l e R s m args below meth c H locs cells slots Q (F0 m pc2 ls (.double (FP.l2d v) :: rest))) : W p l e R s m args below meth c H locs cells slots Q (F0 m pc ls (.long v :: rest)) := by
  subst hpc
  exact sg_l2d C hd k
theorem sg_dc0P {pc2 : Nat} (hpc : pc + 1 = pc2) (C : Cx E o cc nL p s m args meth c) (hd : decode cc pc = .ok (.dconst 0, 1)) (k : W p l e R s m args below meth c H locs cells slots Q (F0 m pc2 ls (.double FP.dconst0 :: rest))) : W p l e R s m args below meth c H locs cells slots Q (F0 m pc ls rest) := by
  subst hpc
  exact lv_dconst0 C.1 C.2.1 hd k
end FLP
section TH
variable {l : Launch} {E : tx_En} {I : IM} {J : JM} {P : PM} {x m : Nat} {πd π πs : Nat → Nat} {πh : Nat → Nat → Nat} {g : Nat → Int32} {h : Nat → Int64} {nb nc nk d : Nat}
abbrev Inc (g : Nat → Int32) (p : Nat) : Int64 := 1000000 * (g (64 + 3 * p) + g (65 + 3 * p)).toInt64
abbrev RtD (g : Nat → Int32) (h : Nat → Int64) (nb nc nk p : Nat) : UInt64 := FP.ddiv (FP.l2d (TxA g h nb nc nk p (g (66 + 3 * p)))) (FP.l2d (Inc g p))
theorem inc_iff (hg : Gd g nb nc nk) {p : Nat} (hp : p < 6) : Inc g p = 0 ↔ g (64 + 3 * p) + g (65 + 3 * p) = 0 := by
  obtain ⟨⟨a, ha, ea⟩, ⟨b, hb, eb⟩, -⟩ := hg.2.2.2.2.2.2.2.2 p hp
  unfold Inc
  rw [ea, eb, nI_add, inc0 (by omega)]
  have z0 : (0 : Int32) = nI 0 := rfl
  rw [z0]
  exact (nI_eq (by omega) (by decide)).symm
theorem t_averageRate1 (hE : tx_ok E) (hfl : l.stackTraces = false) (hw : WbS E.2.2.1 E.2.2.2.1 P x πd π πs πh) {v : Int32} (hv : v < 0 ∨ nI 6 ≤ v) : MtX l E 1 MX8_averageRate [.ref x, .int v] I J P 0 I J P := by
  have hw' := hw.f
  have hl' := hw.le.f
  have hru := hw.le.r.f
  have hS := hw'.1
  refine MtX.of hE MX8_averageRate_ok (Nat.le_of_ble_eq_true rfl) (fun pg e s m args below meth c C hno hT => zt_seg (M := MX8_averageRate) C ?_)
  show Gp E.2.2.1 E.2.2.2.1 true MX8_averageRate _ 0 [some (.ref x), some (.int v), none, none] [] I J P
  simp only [g_X8_averageRate_0, g_X8_averageRate_1, g_X8_averageRate_2, hw', hl', hru, true_and, and_true, rf_s, not_true_eq_false, not_false_eq_true, true_implies, false_implies, kl_i, kl_n, kl_l, kl_r, Option.toList, List.cons_append, List.nil_append, if_true, if_false, u2s, lt00, lt01, lt02, lt03, le10, le20, le30, ne10, ne20, ne30, eq00]
  refine gs_X8_averageRate_4 ?_
  intro H locs ls hW hL
  exact sg_cX (M := MX8_requireIndex) (As := [.int v, .int 6]) (b := x) C hno hT hL (d := 0) ⟨by show _ ≤ _ + 6; omega, by show _ ≤ 60 * _ + 120; omega, Nat.le_refl _, Nat.le_refl _⟩ dX8_averageRate_4 rfl rfl rfl hS (by rw [hS]; decide) (Nat.le_of_ble_eq_true rfl) rfl (t_rI (d := 0) hE hfl hS hv) hW
theorem t_averageRate2 (hE : tx_ok E) (hfl : l.stackTraces = false) (hw : WbS E.2.2.1 E.2.2.2.1 P x πd π πs πh) (hr : Led I J (x + 29) π g h nb nc nk) {p : Nat} (hp : p < 6) (hz : Inc g p = 0) : MtX l E 1 MX8_averageRate [.ref x, .int (nI p)] I J P 4 I J P := by
  have hw' := hw.f
  have hl' := hw.le.f
  have hru := hw.le.r.f
  have hS := hw'.1
  refine MtX.of hE MX8_averageRate_ok (Nat.le_of_ble_eq_true rfl) (fun pg e s m args below meth c C hno hT => zt_seg (M := MX8_averageRate) C ?_)
  show Gp E.2.2.1 E.2.2.2.1 true MX8_averageRate _ 0 [some (.ref x), some (.int (nI p)), none, none] [] I J P
  simp only [g_X8_averageRate_0, g_X8_averageRate_1, g_X8_averageRate_2, hw', hl', hru, true_and, and_true, rf_s, not_true_eq_false, not_false_eq_true, true_implies, false_implies, kl_i, kl_n, kl_l, kl_r, Option.toList, List.cons_append, List.nil_append, if_true, if_false, u2s, lt00, lt01, lt02, lt03, le10, le20, le30, ne10, ne20, ne30, eq00]
  refine gs_X8_averageRate_4 ?_
  intro H locs ls hW hL
  refine sg_cG (M := MX8_requireIndex) (As := [.int (nI p), .int 6]) (b := x) (pc2 := 7) rfl C hL ⟨by show 1 ≤ _ + 6; omega, by show 40 ≤ _ + 120; omega⟩ ⟨Nat.zero_le _, Nat.zero_le _⟩ dX8_averageRate_4 rfl rfl rfl hS (by rw [hS]; decide) (Nat.le_of_ble_eq_true rfl) rfl (ok_rI6 hp) hW (zt_seg (M := MX8_averageRate) C ?_)
  obtain ⟨e1, e2, -⟩ := hr.2.2 p hp
  have hi : (1000000 * (g (64 + 3 * p) + g (65 + 3 * p)).toInt64 = 0) = True := eq_true hz
  simp only [g_X8_averageRate_7, g_X8_averageRate_10, g_X8_averageRate_11, g_X8_averageRate_14, g_X8_averageRate_17, g_X8_averageRate_18, g_X8_averageRate_19, g_X8_averageRate_20, g_X8_averageRate_23, g_X8_averageRate_26, g_X8_averageRate_27, g_X8_averageRate_28, g_X8_averageRate_29, g_X8_averageRate_30, g_X8_averageRate_31, g_X8_averageRate_32, g_X8_averageRate_33, g_X8_averageRate_34, g_X8_averageRate_35, hw', hl', hru, e1, e2, hi, lc_eq, nI_clamp (show p < 2 ^ 31 by omega), vpn hp (by decide), true_and, and_true, rf_s, not_true_eq_false, not_false_eq_true, true_implies, false_implies, kl_i, kl_n, kl_l, kl_r, Option.toList, List.cons_append, List.nil_append, if_true, if_false, u2s, lt00, lt01, lt02, lt03, le10, le20, le30, ne10, ne20, ne30, eq00]
  refine gs_X8_averageRate_38 ?_
  intro H locs ls hW hL
  exact sg_newW C hfl hno hT hL thw_4 exi10 (Nat.le_of_ble_eq_true rfl) ⟨by show 6 ≤ _ + 6; omega, by show 100 ≤ _ + 120; omega, Nat.le_refl _, Nat.le_refl _⟩ dX8_averageRate_38 dX8_averageRate_41 dX8_averageRate_42 dX8_averageRate_45 dX8_averageRate_48 hW
theorem fl8_rate (hE : tx_ok E) (hw : WbS E.2.2.1 E.2.2.2.1 P x πd π πs πh) (hg : Gd g nb nc nk) (hr : Led I J (x + 29) π g h nb nc nk) {p : Nat} (hp : p < 6) (hz : ¬ Inc g p = 0) :
    ∃ I1 J1, Fr (x + 271) (x + 303) I I1 J J1 ∧ MtM l E 8 MX8_averageRate [.ref x, .int (nI p)] I J P (some (.double (RtD g h nb nc nk p))) I1 J1 P := by
  obtain ⟨r, I1, J1, P1, ⟨rfl, rfl, fr, f7⟩, hc⟩ := cw_ex (k_assess (d := 4) (Q := fun r I' J' P' => r = some (.ref (x + 271)) ∧ P' = P ∧ Fr (x + 271) (x + 281) I I' J J' ∧ J' (x + 271) 7 = TxA g h nb nc nk p (g (66 + 3 * p))) hw hg hr hp (fun I1 J1 f1 f2 _ _ _ => ⟨rfl, rfl, f1, f2⟩))
  refine ⟨I1, J1, fr.w (Nat.le_refl _) (by omega), ?_⟩
  have hw' := hw.f
  have hl' := hw.le.f
  have hS := hw'.1
  have ha := hw.as.1
  obtain ⟨e1, e2, -⟩ := hr.2.2 p hp
  have hi : (1000000 * (g (64 + 3 * p) + g (65 + 3 * p)).toInt64 = 0) = False := eq_false hz
  refine MtM.of hE MX8_averageRate_ok (Nat.le_of_ble_eq_true rfl) (fun pg e s m args below meth c C hret => zt_seg (M := MX8_averageRate) C ?_)
  show Gp E.2.2.1 E.2.2.2.1 true MX8_averageRate _ 0 [some (.ref x), some (.int (nI p)), none, none] [] I J P1
  simp only [g_X8_averageRate_0, g_X8_averageRate_1, g_X8_averageRate_2, hw', true_and, and_true, rf_s, not_true_eq_false, not_false_eq_true, true_implies, false_implies, kl_i, kl_n, kl_l, kl_r, Option.toList, List.cons_append, List.nil_append, if_true, if_false, u2s, lt00, lt01, lt02, lt03, le10, le20, le30, ne10, ne20, ne30, eq00]
  refine gs_X8_averageRate_4 ?_
  intro H locs ls hW hL
  refine sg_cE (M := MX8_requireIndex) (As := [.int (nI p), .int 6]) (b := x) (pc2 := 7) rfl (none) C hL (d := 0) ⟨by show _ ≤ 8; omega, by show _ ≤ 480; omega⟩ ⟨Nat.le_refl _, Nat.le_refl _⟩ dX8_averageRate_4 rfl rfl rfl hS (by rw [hS]; decide) (Nat.le_of_ble_eq_true rfl) rfl (ok_rI6 hp) hW (zt_seg (M := MX8_averageRate) C ?_)
  simp only [g_X8_averageRate_7, g_X8_averageRate_10, g_X8_averageRate_11, g_X8_averageRate_14, g_X8_averageRate_17, g_X8_averageRate_18, g_X8_averageRate_19, g_X8_averageRate_20, g_X8_averageRate_23, g_X8_averageRate_26, g_X8_averageRate_27, g_X8_averageRate_28, g_X8_averageRate_29, g_X8_averageRate_30, g_X8_averageRate_31, g_X8_averageRate_32, g_X8_averageRate_33, g_X8_averageRate_34, g_X8_averageRate_35, g_X8_averageRate_49, g_X8_averageRate_50, hw', hl', e1, e2, hi, lc_eq, nI_clamp (show p < 2 ^ 31 by omega), vpn hp (by decide), true_and, and_true, rf_s, not_true_eq_false, not_false_eq_true, true_implies, false_implies, kl_i, kl_n, kl_l, kl_r, Option.toList, List.cons_append, List.nil_append, if_true, if_false, u2s, lt00, lt01, lt02, lt03, le10, le20, le30, ne10, ne20, ne30, eq00]
  refine gs_X8_averageRate_51 ?_
  intro H locs ls hW hL
  refine sg_cE (M := MX8_assessAlone) (As := [.int (nI p)]) (b := x) (pc2 := 54) rfl (some (.ref (x + 271))) C hL (d := 7) ⟨by show _ ≤ 8; omega, by show _ ≤ 480; omega⟩ ⟨Nat.le_refl _, Nat.le_refl _⟩ dX8_averageRate_51 rfl rfl rfl hS (by rw [hS]; decide) (Nat.le_of_ble_eq_true rfl) rfl (hc) hW (zt_seg (M := MX8_averageRate) C ?_)
  simp only [g_X8_averageRate_54, ha, f7, true_and, and_true, rf_s, not_true_eq_false, not_false_eq_true, true_implies, false_implies, kl_i, kl_n, kl_l, kl_r, Option.toList, List.cons_append, List.nil_append, if_true, if_false, u2s, lt00, lt01, lt02, lt03, le10, le20, le30, ne10, ne20, ne30, eq00]
  refine gs_X8_averageRate_57 ?_
  intro H locs ls hW hL
  refine sg_l2dP (pc2 := 58) rfl C dX8_averageRate_57 (zt_seg (M := MX8_averageRate) C ?_ H locs ls hW hL)
  simp only [g_X8_averageRate_58, true_and, and_true, rf_s, not_true_eq_false, not_false_eq_true, true_implies, false_implies, kl_i, kl_n, kl_l, kl_r, Option.toList, List.cons_append, List.nil_append, if_true, if_false, u2s, lt00, lt01, lt02, lt03, le10, le20, le30, ne10, ne20, ne30, eq00]
  refine gs_X8_averageRate_59 ?_
  intro H locs ls hW hL
  exact sg_l2d C dX8_averageRate_59 (sg_ddiv C (rate_nn hz) dX8_averageRate_60 (sg_retD C hret hW dX8_averageRate_61))
theorem fl9_bad (hE : tx_ok E) (hm : MdS E.2.2.1 E.2.2.2.1 P m) {v : Int32} (hv : v < 0 ∨ nI 6 ≤ v) : MtM l E 8 MX9_averageRate [.ref m, .int v] I J P (some (.double FP.dconst0)) (u2 I m 8 1) J P := by
  have hm' := hm.1
  have hn : ¬ (0 ≤ v ∧ v ≤ 5) := bad_rng 5 (by decide) hv
  refine MtM.of hE MX9_averageRate_ok (Nat.le_of_ble_eq_true rfl) (fun pg e s m9 args below meth c C hret => zt_seg (M := MX9_averageRate) C ?_)
  show Gp E.2.2.1 E.2.2.2.1 true MX9_averageRate _ 0 [some (.ref m), some (.int v)] [] I J P
  simp only [g_X9_averageRate_0, g_X9_averageRate_1, true_and, and_true, rf_s, not_true_eq_false, not_false_eq_true, true_implies, false_implies, kl_i, kl_n, kl_l, kl_r, Option.toList, List.cons_append, List.nil_append, if_true, if_false, u2s, lt00, lt01, lt02, lt03, le10, le20, le30, ne10, ne20, ne30, eq00]
  refine gs_X9_averageRate_2 ?_
  intro H locs ls hW hL
  refine sg_cSE (M := MX9_isPerson) (As := [.int v]) (pc2 := 5) rfl (some (.int 0)) C hL (d := 1) ⟨by show _ ≤ 8; omega, by show _ ≤ 480; omega⟩ ⟨Nat.le_refl _, Nat.le_refl _⟩ dX9_averageRate_2 rfl rfl rfl (Nat.le_of_ble_eq_true rfl) rfl ((s_isPerson (d := 0)).mpr ⟨by rw [if_neg hn], rfl, rfl, rfl⟩) hW (zt_seg (M := MX9_averageRate) C ?_)
  have g1 : ¬ (1 : Int32) ≤ 0 := by decide
  simp only [g_X9_averageRate_5, g_X9_averageRate_8, g_X9_averageRate_9, g_X9_averageRate_12, g_X9_averageRate_13, g_X9_averageRate_14, g_X9_averageRate_18, g_X9_averageRate_19, g_X9_averageRate_20, g_X9_averageRate_24, g_X9_averageRate_25, g_X9_averageRate_28, g_X9_averageRate_29, g_X9_averageRate_32, g_X9_averageRate_33, g_X9_averageRate_36, g_X9_averageRate_37, g_X9_averageRate_40, hm', g1, true_and, and_true, rf_s, not_true_eq_false, not_false_eq_true, true_implies, false_implies, kl_i, kl_n, kl_l, kl_r, Option.toList, List.cons_append, List.nil_append, if_true, if_false, u2s, lt00, lt01, lt02, lt03, le10, le20, le30, ne10, ne20, ne30, eq00]
  refine gs_X9_averageRate_43 ?_
  intro H1 locs1 ls1 hW1 hL1
  refine sg_dc0P (pc2 := 44) rfl C dX9_averageRate_43 (zt_seg (M := MX9_averageRate) C ?_ H1 locs1 ls1 hW1 hL1)
  simp only [g_X9_averageRate_44, true_and, and_true, rf_s, not_true_eq_false, not_false_eq_true, true_implies, false_implies, kl_i, kl_n, kl_l, kl_r, Option.toList, List.cons_append, List.nil_append, if_true, if_false, u2s, lt00, lt01, lt02, lt03, le10, le20, le30, ne10, ne20, ne30, eq00]
  refine gs_X9_averageRate_73 ?_
  intro H2 locs2 ls2 hW2 hL2
  exact sg_retD C hret hW2 dX9_averageRate_73
theorem fl9_zero (hE : tx_ok E) (hm : MdS E.2.2.1 E.2.2.2.1 P m) (hg1 : I (m + 1) = g) {p : Nat} (hp : p < 6) (hz : g (64 + 3 * p) + g (65 + 3 * p) = 0) : MtM l E 8 MX9_averageRate [.ref m, .int (nI p)] I J P (some (.double FP.dconst0)) (u2 I m 8 2) J P := by
  have hm' := hm.1
  have hS := hm.1
  refine MtM.of hE MX9_averageRate_ok (Nat.le_of_ble_eq_true rfl) (fun pg e s m9 args below meth c C hret => zt_seg (M := MX9_averageRate) C ?_)
  show Gp E.2.2.1 E.2.2.2.1 true MX9_averageRate _ 0 [some (.ref m), some (.int (nI p))] [] I J P
  simp only [g_X9_averageRate_0, g_X9_averageRate_1, true_and, and_true, rf_s, not_true_eq_false, not_false_eq_true, true_implies, false_implies, kl_i, kl_n, kl_l, kl_r, Option.toList, List.cons_append, List.nil_append, if_true, if_false, u2s, lt00, lt01, lt02, lt03, le10, le20, le30, ne10, ne20, ne30, eq00]
  refine gs_X9_averageRate_2 ?_
  intro H locs ls hW hL
  refine sg_cSE (M := MX9_isPerson) (As := [.int (nI p)]) (pc2 := 5) rfl (some (.int 1)) C hL (d := 1) ⟨by show _ ≤ 8; omega, by show _ ≤ 480; omega⟩ ⟨Nat.le_refl _, Nat.le_refl _⟩ dX9_averageRate_2 rfl rfl rfl (Nat.le_of_ble_eq_true rfl) rfl ((s_isPerson (d := 0)).mpr ⟨by rw [if_pos (of_eq_true (good6 hp))], rfl, rfl, rfl⟩) hW (zt_seg (M := MX9_averageRate) C ?_)
  simp only [g_X9_averageRate_5, g_X9_averageRate_8, g_X9_averageRate_9, g_X9_averageRate_12, g_X9_averageRate_13, g_X9_averageRate_14, ne10, true_and, and_true, rf_s, not_true_eq_false, not_false_eq_true, true_implies, false_implies, kl_i, kl_n, kl_l, kl_r, Option.toList, List.cons_append, List.nil_append, if_true, if_false, u2s, lt00, lt01, lt02, lt03, le10, le20, le30, ne10, ne20, ne30, eq00]
  refine gs_X9_averageRate_15 ?_
  intro H locs ls hW hL
  refine sg_cE (M := MX9_of) (As := [.int (nI p), .int 0]) (b := m) (pc2 := 18) rfl (some (.int (g (64 + 3 * p)))) C hL (d := 0) ⟨by show _ ≤ 8; omega, by show _ ≤ 480; omega⟩ ⟨Nat.le_refl _, Nat.le_refl _⟩ dX9_averageRate_15 rfl rfl rfl hS (by rw [hS]; decide) (Nat.le_of_ble_eq_true rfl) rfl ((s_of0 hm hg1 hp).mpr ⟨rfl, rfl, rfl, rfl⟩) hW (zt_seg (M := MX9_averageRate) C ?_)
  simp only [g_X9_averageRate_18, g_X9_averageRate_19, g_X9_averageRate_20, true_and, and_true, rf_s, not_true_eq_false, not_false_eq_true, true_implies, false_implies, kl_i, kl_n, kl_l, kl_r, Option.toList, List.cons_append, List.nil_append, if_true, if_false, u2s, lt00, lt01, lt02, lt03, le10, le20, le30, ne10, ne20, ne30, eq00]
  refine gs_X9_averageRate_21 ?_
  intro H locs ls hW hL
  refine sg_cE (M := MX9_of) (As := [.int (nI p), .int 1]) (b := m) (pc2 := 24) rfl (some (.int (g (65 + 3 * p)))) C hL (d := 0) ⟨by show _ ≤ 8; omega, by show _ ≤ 480; omega⟩ ⟨Nat.le_refl _, Nat.le_refl _⟩ dX9_averageRate_21 rfl rfl rfl hS (by rw [hS]; decide) (Nat.le_of_ble_eq_true rfl) rfl ((s_of1 hm hg1 hp).mpr ⟨rfl, rfl, rfl, rfl⟩) hW (zt_seg (M := MX9_averageRate) C ?_)
  have hi : (g (64 + 3 * p) + g (65 + 3 * p) = 0) = True := eq_true hz
  have g1 : ¬ (2 : Int32) ≤ 0 := by decide
  simp only [g_X9_averageRate_24, g_X9_averageRate_25, g_X9_averageRate_28, g_X9_averageRate_29, g_X9_averageRate_32, g_X9_averageRate_33, g_X9_averageRate_36, g_X9_averageRate_37, g_X9_averageRate_40, hm', g1, hi, true_and, and_true, rf_s, not_true_eq_false, not_false_eq_true, true_implies, false_implies, kl_i, kl_n, kl_l, kl_r, Option.toList, List.cons_append, List.nil_append, if_true, if_false, u2s, lt00, lt01, lt02, lt03, le10, le20, le30, ne10, ne20, ne30, eq00]
  refine gs_X9_averageRate_43 ?_
  intro H1 locs1 ls1 hW1 hL1
  refine sg_dc0P (pc2 := 44) rfl C dX9_averageRate_43 (zt_seg (M := MX9_averageRate) C ?_ H1 locs1 ls1 hW1 hL1)
  simp only [g_X9_averageRate_44, true_and, and_true, rf_s, not_true_eq_false, not_false_eq_true, true_implies, false_implies, kl_i, kl_n, kl_l, kl_r, Option.toList, List.cons_append, List.nil_append, if_true, if_false, u2s, lt00, lt01, lt02, lt03, le10, le20, le30, ne10, ne20, ne30, eq00]
  refine gs_X9_averageRate_73 ?_
  intro H2 locs2 ls2 hW2 hL2
  exact sg_retD C hret hW2 dX9_averageRate_73
theorem fl9_rate (hE : tx_ok E) (hm : MdS E.2.2.1 E.2.2.2.1 P m) (hg1 : I (m + 1) = g) (hh1 : J (m + 2) = h) (hc : Cnt g nb nc nk) {p : Nat} (hp : p < 6) (hz : ¬ g (64 + 3 * p) + g (65 + 3 * p) = 0) (hn : ¬ Inc g p = 0) : ∃ J1, Sc m J J1 ∧ MtM l E 8 MX9_averageRate [.ref m, .int (nI p)] I J P (some (.double (RtD g h nb nc nk p))) (u2 I m 8 0) J1 P := by
  have hg2 : (u2 I m 8 0) (m + 1) = g := by rw [u2_off _ _ _ (by omega)]; exact hg1
  obtain ⟨r, I1, J1, P1, ⟨rfl, rfl, rfl, hs⟩, hcx⟩ := cw_ex (s_taxOfPersonG (d := 3) (I := u2 I m 8 0) (Q := fun r I' J' P' => r = some (.long (TxA g h nb nc nk p (g (66 + 3 * p)))) ∧ P' = P ∧ I' = u2 I m 8 0 ∧ Sc m J J') hm hg2 hh1 hc hp (fun J1 hs _ => ⟨rfl, rfl, rfl, hs⟩))
  refine ⟨J1, hs, ?_⟩
  have hm' := hm.1
  have hS := hm.1
  refine MtM.of hE MX9_averageRate_ok (Nat.le_of_ble_eq_true rfl) (fun pg e s m9 args below meth c C hret => zt_seg (M := MX9_averageRate) C ?_)
  show Gp E.2.2.1 E.2.2.2.1 true MX9_averageRate _ 0 [some (.ref m), some (.int (nI p))] [] I J P1
  simp only [g_X9_averageRate_0, g_X9_averageRate_1, true_and, and_true, rf_s, not_true_eq_false, not_false_eq_true, true_implies, false_implies, kl_i, kl_n, kl_l, kl_r, Option.toList, List.cons_append, List.nil_append, if_true, if_false, u2s, lt00, lt01, lt02, lt03, le10, le20, le30, ne10, ne20, ne30, eq00]
  refine gs_X9_averageRate_2 ?_
  intro H locs ls hW hL
  refine sg_cSE (M := MX9_isPerson) (As := [.int (nI p)]) (pc2 := 5) rfl (some (.int 1)) C hL (d := 1) ⟨by show _ ≤ 8; omega, by show _ ≤ 480; omega⟩ ⟨Nat.le_refl _, Nat.le_refl _⟩ dX9_averageRate_2 rfl rfl rfl (Nat.le_of_ble_eq_true rfl) rfl ((s_isPerson (d := 0)).mpr ⟨by rw [if_pos (of_eq_true (good6 hp))], rfl, rfl, rfl⟩) hW (zt_seg (M := MX9_averageRate) C ?_)
  simp only [g_X9_averageRate_5, g_X9_averageRate_8, g_X9_averageRate_9, g_X9_averageRate_12, g_X9_averageRate_13, g_X9_averageRate_14, ne10, true_and, and_true, rf_s, not_true_eq_false, not_false_eq_true, true_implies, false_implies, kl_i, kl_n, kl_l, kl_r, Option.toList, List.cons_append, List.nil_append, if_true, if_false, u2s, lt00, lt01, lt02, lt03, le10, le20, le30, ne10, ne20, ne30, eq00]
  refine gs_X9_averageRate_15 ?_
  intro H locs ls hW hL
  refine sg_cE (M := MX9_of) (As := [.int (nI p), .int 0]) (b := m) (pc2 := 18) rfl (some (.int (g (64 + 3 * p)))) C hL (d := 0) ⟨by show _ ≤ 8; omega, by show _ ≤ 480; omega⟩ ⟨Nat.le_refl _, Nat.le_refl _⟩ dX9_averageRate_15 rfl rfl rfl hS (by rw [hS]; decide) (Nat.le_of_ble_eq_true rfl) rfl ((s_of0 hm hg1 hp).mpr ⟨rfl, rfl, rfl, rfl⟩) hW (zt_seg (M := MX9_averageRate) C ?_)
  simp only [g_X9_averageRate_18, g_X9_averageRate_19, g_X9_averageRate_20, true_and, and_true, rf_s, not_true_eq_false, not_false_eq_true, true_implies, false_implies, kl_i, kl_n, kl_l, kl_r, Option.toList, List.cons_append, List.nil_append, if_true, if_false, u2s, lt00, lt01, lt02, lt03, le10, le20, le30, ne10, ne20, ne30, eq00]
  refine gs_X9_averageRate_21 ?_
  intro H locs ls hW hL
  refine sg_cE (M := MX9_of) (As := [.int (nI p), .int 1]) (b := m) (pc2 := 24) rfl (some (.int (g (65 + 3 * p)))) C hL (d := 0) ⟨by show _ ≤ 8; omega, by show _ ≤ 480; omega⟩ ⟨Nat.le_refl _, Nat.le_refl _⟩ dX9_averageRate_21 rfl rfl rfl hS (by rw [hS]; decide) (Nat.le_of_ble_eq_true rfl) rfl ((s_of1 hm hg1 hp).mpr ⟨rfl, rfl, rfl, rfl⟩) hW (zt_seg (M := MX9_averageRate) C ?_)
  have hi : (g (64 + 3 * p) + g (65 + 3 * p) = 0) = False := eq_false hz
  have g1 : ((0 : Int32) ≤ 0) = True := by decide
  simp only [g_X9_averageRate_24, g_X9_averageRate_25, g_X9_averageRate_28, g_X9_averageRate_29, g_X9_averageRate_32, g_X9_averageRate_33, g_X9_averageRate_36, g_X9_averageRate_37, g_X9_averageRate_40, g_X9_averageRate_44, g_X9_averageRate_47, g_X9_averageRate_48, hm', g1, hi, true_and, and_true, rf_s, not_true_eq_false, not_false_eq_true, true_implies, false_implies, kl_i, kl_n, kl_l, kl_r, Option.toList, List.cons_append, List.nil_append, if_true, if_false, u2s, lt00, lt01, lt02, lt03, le10, le20, le30, ne10, ne20, ne30, eq00]
  refine gs_X9_averageRate_49 ?_
  intro H locs ls hW hL
  refine sg_cE (M := MX9_taxOfPerson) (As := [.int (nI p)]) (b := m) (pc2 := 52) rfl (some (.long (TxA g h nb nc nk p (g (66 + 3 * p))))) C hL (d := 7) ⟨by show _ ≤ 8; omega, by show _ ≤ 480; omega⟩ ⟨Nat.le_refl _, Nat.le_refl _⟩ dX9_averageRate_49 rfl rfl rfl hS (by rw [hS]; decide) (Nat.le_of_ble_eq_true rfl) rfl (hcx) hW (zt_seg (M := MX9_averageRate) C ?_)
  refine gs_X9_averageRate_52 ?_
  intro H1 locs1 ls1 hW1 hL1
  refine sg_l2dP (pc2 := 53) rfl C dX9_averageRate_52 (zt_seg (M := MX9_averageRate) C ?_ H1 locs1 ls1 hW1 hL1)
  simp only [g_X9_averageRate_53, g_X9_averageRate_56, g_X9_averageRate_57, g_X9_averageRate_58, true_and, and_true, rf_s, not_true_eq_false, not_false_eq_true, true_implies, false_implies, kl_i, kl_n, kl_l, kl_r, Option.toList, List.cons_append, List.nil_append, if_true, if_false, u2s, lt00, lt01, lt02, lt03, le10, le20, le30, ne10, ne20, ne30, eq00]
  refine gs_X9_averageRate_59 ?_
  intro H locs ls hW hL
  refine sg_cE (M := MX9_of) (As := [.int (nI p), .int 0]) (b := m) (pc2 := 62) rfl (some (.int (g (64 + 3 * p)))) C hL (d := 0) ⟨by show _ ≤ 8; omega, by show _ ≤ 480; omega⟩ ⟨Nat.le_refl _, Nat.le_refl _⟩ dX9_averageRate_59 rfl rfl rfl hS (by rw [hS]; decide) (Nat.le_of_ble_eq_true rfl) rfl ((s_of0 hm hg2 hp).mpr ⟨rfl, rfl, rfl, rfl⟩) hW (zt_seg (M := MX9_averageRate) C ?_)
  simp only [g_X9_averageRate_62, g_X9_averageRate_63, g_X9_averageRate_64, true_and, and_true, rf_s, not_true_eq_false, not_false_eq_true, true_implies, false_implies, kl_i, kl_n, kl_l, kl_r, Option.toList, List.cons_append, List.nil_append, if_true, if_false, u2s, lt00, lt01, lt02, lt03, le10, le20, le30, ne10, ne20, ne30, eq00]
  refine gs_X9_averageRate_65 ?_
  intro H locs ls hW hL
  refine sg_cE (M := MX9_of) (As := [.int (nI p), .int 1]) (b := m) (pc2 := 68) rfl (some (.int (g (65 + 3 * p)))) C hL (d := 0) ⟨by show _ ≤ 8; omega, by show _ ≤ 480; omega⟩ ⟨Nat.le_refl _, Nat.le_refl _⟩ dX9_averageRate_65 rfl rfl rfl hS (by rw [hS]; decide) (Nat.le_of_ble_eq_true rfl) rfl ((s_of1 hm hg2 hp).mpr ⟨rfl, rfl, rfl, rfl⟩) hW (zt_seg (M := MX9_averageRate) C ?_)
  simp only [g_X9_averageRate_68, g_X9_averageRate_69, g_X9_averageRate_70, true_and, and_true, rf_s, not_true_eq_false, not_false_eq_true, true_implies, false_implies, kl_i, kl_n, kl_l, kl_r, Option.toList, List.cons_append, List.nil_append, if_true, if_false, u2s, lt00, lt01, lt02, lt03, le10, le20, le30, ne10, ne20, ne30, eq00]
  refine gs_X9_averageRate_71 ?_
  intro H2 locs2 ls2 hW2 hL2
  exact sg_l2d C dX9_averageRate_71 (sg_ddiv C (rate_nn hn) dX9_averageRate_72 (sg_retD C hret hW2 dX9_averageRate_73))
def DpS (g : Nat → Int32) : Nat → Nat → Int32 → Int32
  | _, 0, v => v
  | k, n + 1, v => DpS g (k + 1) n (v + g (66 + 3 * k))
abbrev DpF (g : Nat → Int32) : UInt32 := FP.fdiv (FP.i2f (DpS g 0 6 0)) 1086324736
theorem ad8_loop {S N : Nat → Nat} {T : TG} (hw : WbS S N P x πd π πs πh) (hr : Led I J (x + 29) π g h nb nc nk) : ∀ (n k : Nat), k + n = 6 → ∀ (v : Int32), Gp S N true MX8_averageDependents T 28 [some (.ref x), some (.int (DpS g k n v)), some (.int (nI 6))] [] I J P → Gp S N true MX8_averageDependents T 4 [some (.ref x), some (.int v), some (.int (nI k))] [] I J P := by
  intro n
  induction n with
  | zero =>
    intro k hk v hq
    have hk : k = 6 := by omega
    subst hk
    have g1 : (6 : Int32) ≤ nI 6 := by decide
    simp only [g_X8_averageDependents_4, g_X8_averageDependents_5, g_X8_averageDependents_7, g1, true_and, and_true, rf_s, not_true_eq_false, not_false_eq_true, true_implies, false_implies, kl_i, kl_n, kl_l, kl_r, Option.toList, List.cons_append, List.nil_append, if_true, if_false, u2s, lt00, lt01, lt02, lt03, le10, le20, le30, ne10, ne20, ne30, eq00]
    exact hq
  | succ n ih =>
    intro k hk v hq
    have hw' := hw.f
    have hl' := hw.le.f
    have hp : k < 6 := by omega
    obtain ⟨-, -, e3, -⟩ := hr.2.2 k hp
    have g1 : ¬ (6 : Int32) ≤ nI k := nI_ge (b := 6) hp (by decide)
    simp only [g_X8_averageDependents_4, g_X8_averageDependents_5, g_X8_averageDependents_7, g_X8_averageDependents_10, g_X8_averageDependents_11, g_X8_averageDependents_12, g_X8_averageDependents_15, g_X8_averageDependents_18, g_X8_averageDependents_19, g_X8_averageDependents_20, g_X8_averageDependents_21, g_X8_averageDependents_22, g1, hw', hl', e3, nI_clamp (show k < 2 ^ 31 by omega), vpn hp (by decide), nI_1, true_and, and_true, rf_s, not_true_eq_false, not_false_eq_true, true_implies, false_implies, kl_i, kl_n, kl_l, kl_r, Option.toList, List.cons_append, List.nil_append, if_true, if_false, u2s, lt00, lt01, lt02, lt03, le10, le20, le30, ne10, ne20, ne30, eq00]
    refine g_X8_averageDependents_25.mpr ?_
    exact ih (k + 1) (by omega) _ hq
theorem fl8_dep (hE : tx_ok E) (hw : WbS E.2.2.1 E.2.2.2.1 P x πd π πs πh) (hr : Led I J (x + 29) π g h nb nc nk) : MtM l E 8 MX8_averageDependents [.ref x] I J P (some (.float (DpF g))) I J P := by
  refine MtM.of hE MX8_averageDependents_ok (Nat.le_of_ble_eq_true rfl) (fun pg e s m9 args below meth c C hret => zt_seg (M := MX8_averageDependents) C ?_)
  show Gp E.2.2.1 E.2.2.2.1 true MX8_averageDependents _ 0 [some (.ref x), none, none] [] I J P
  have z0 : (0 : Int32) = nI 0 := rfl
  simp only [g_X8_averageDependents_0, g_X8_averageDependents_1, g_X8_averageDependents_2, g_X8_averageDependents_3, true_and, and_true, rf_s, not_true_eq_false, not_false_eq_true, true_implies, false_implies, kl_i, kl_n, kl_l, kl_r, Option.toList, List.cons_append, List.nil_append, if_true, if_false, u2s, lt00, lt01, lt02, lt03, le10, le20, le30, ne10, ne20, ne30, eq00]
  refine ad8_loop hw hr 6 0 rfl 0 ?_
  simp only [g_X8_averageDependents_28, true_and, and_true, rf_s, not_true_eq_false, not_false_eq_true, true_implies, false_implies, kl_i, kl_n, kl_l, kl_r, Option.toList, List.cons_append, List.nil_append, if_true, if_false, u2s, lt00, lt01, lt02, lt03, le10, le20, le30, ne10, ne20, ne30, eq00]
  refine gs_X8_averageDependents_29 ?_
  intro H locs ls hW hL
  refine sg_i2f C dX8_averageDependents_29 ?_
  refine lv_ldcwf (own := RX8) (v := 1086324736) C.1 C.2.1 C.2.2.2.1 (C.2.2.2.2.1 _ (tz_mem ⟨List.mem_append_right _ (List.mem_of_getElem? (i := 462) (by decide +kernel)), by decide +kernel⟩)) dX8_averageDependents_30 ?_
  exact sg_fdiv C (dep_nn _) dX8_averageDependents_33 (sg_retF C hret hW dX8_averageDependents_34)
theorem ad9_loop {p : Program} {e : Env} {R : Room} {s : State} {m9 : MethodId} {args : Array Value} {below : List Frame} {meth : Method} {c : Code} {Q : State → Prop} {A : Nat → Prop} {H0 : Heap} (C : Cx E 9 MX9_averageDependents.2.1 3 p s m9 args meth c) (hR : 1 ≤ R.frames ∧ 40 ≤ R.locals) (hm : MdS E.2.2.1 E.2.2.2.1 P m) (hg1 : I (m + 1) = g) : ∀ (n k : Nat), k + n = 6 → ∀ (v : Int32), Gp E.2.2.1 E.2.2.2.1 true MX9_averageDependents (Zt p l e R s m9 args below meth c E A H0 0 0 3 Q) 30 [some (.ref m), some (.int (DpS g k n v)), some (.int (nI 6))] [] I J P → Gp E.2.2.1 E.2.2.2.1 true MX9_averageDependents (Zt p l e R s m9 args below meth c E A H0 0 0 3 Q) 9 [some (.ref m), some (.int v), some (.int (nI k))] [] I J P := by
  intro n
  have hS := hm.1
  induction n with
  | zero =>
    intro k hk v hq
    have hk : k = 6 := by omega
    subst hk
    have g1 : (6 : Int32) ≤ nI 6 := by decide
    simp only [g_X9_averageDependents_9, g_X9_averageDependents_10, g_X9_averageDependents_12, g1, true_and, and_true, rf_s, not_true_eq_false, not_false_eq_true, true_implies, false_implies, kl_i, kl_n, kl_l, kl_r, Option.toList, List.cons_append, List.nil_append, if_true, if_false, u2s, lt00, lt01, lt02, lt03, le10, le20, le30, ne10, ne20, ne30, eq00]
    exact hq
  | succ n ih =>
    intro k hk v hq
    have hp : k < 6 := by omega
    have g1 : ¬ (6 : Int32) ≤ nI k := nI_ge (b := 6) hp (by decide)
    simp only [g_X9_averageDependents_9, g_X9_averageDependents_10, g_X9_averageDependents_12, g_X9_averageDependents_15, g_X9_averageDependents_16, g_X9_averageDependents_17, g_X9_averageDependents_18, g1, true_and, and_true, rf_s, not_true_eq_false, not_false_eq_true, true_implies, false_implies, kl_i, kl_n, kl_l, kl_r, Option.toList, List.cons_append, List.nil_append, if_true, if_false, u2s, lt00, lt01, lt02, lt03, le10, le20, le30, ne10, ne20, ne30, eq00]
    refine gs_X9_averageDependents_19 ?_
    intro H locs ls hW hL
    refine sg_cE (M := MX9_of) (As := [.int (nI k), .int 2]) (b := m) (pc2 := 22) rfl (some (.int (g (66 + 3 * k)))) C hL (d := 0) hR ⟨Nat.zero_le _, Nat.zero_le _⟩ dX9_averageDependents_19 rfl rfl rfl hS (by rw [hS]; decide) (Nat.le_of_ble_eq_true rfl) rfl ((s_of2 hm hg1 hp).mpr ⟨rfl, rfl, rfl, rfl⟩) hW (zt_seg (M := MX9_averageDependents) C ?_)
    simp only [g_X9_averageDependents_22, g_X9_averageDependents_23, g_X9_averageDependents_24, nI_1, true_and, and_true, rf_s, not_true_eq_false, not_false_eq_true, true_implies, false_implies, kl_i, kl_n, kl_l, kl_r, Option.toList, List.cons_append, List.nil_append, if_true, if_false, u2s, lt00, lt01, lt02, lt03, le10, le20, le30, ne10, ne20, ne30, eq00]
    refine g_X9_averageDependents_27.mpr ?_
    exact ih (k + 1) (by omega) _ hq
theorem fl9_dep (hE : tx_ok E) (hm : MdS E.2.2.1 E.2.2.2.1 P m) (hg1 : I (m + 1) = g) : MtM l E 8 MX9_averageDependents [.ref m] I J P (some (.float (DpF g))) (u2 I m 8 0) J P := by
  have hm' := hm.1
  have hg2 : (u2 I m 8 0) (m + 1) = g := by rw [u2_off _ _ _ (by omega)]; exact hg1
  refine MtM.of hE MX9_averageDependents_ok (Nat.le_of_ble_eq_true rfl) (fun pg e s m9 args below meth c C hret => zt_seg (M := MX9_averageDependents) C ?_)
  show Gp E.2.2.1 E.2.2.2.1 true MX9_averageDependents _ 0 [some (.ref m), none, none] [] I J P
  simp only [g_X9_averageDependents_0, g_X9_averageDependents_1, g_X9_averageDependents_2, g_X9_averageDependents_5, g_X9_averageDependents_6, g_X9_averageDependents_7, g_X9_averageDependents_8, hm', true_and, and_true, rf_s, not_true_eq_false, not_false_eq_true, true_implies, false_implies, kl_i, kl_n, kl_l, kl_r, Option.toList, List.cons_append, List.nil_append, if_true, if_false, u2s, lt00, lt01, lt02, lt03, le10, le20, le30, ne10, ne20, ne30, eq00]
  refine ad9_loop C ⟨by show 1 ≤ 8; decide, by show 40 ≤ 480; decide⟩ hm hg2 6 0 rfl 0 ?_
  simp only [g_X9_averageDependents_30, true_and, and_true, rf_s, not_true_eq_false, not_false_eq_true, true_implies, false_implies, kl_i, kl_n, kl_l, kl_r, Option.toList, List.cons_append, List.nil_append, if_true, if_false, u2s, lt00, lt01, lt02, lt03, le10, le20, le30, ne10, ne20, ne30, eq00]
  refine gs_X9_averageDependents_31 ?_
  intro H locs ls hW hL
  refine sg_i2f C dX9_averageDependents_31 ?_
  refine lv_ldcf (own := RX9) (v := 1086324736) C.1 C.2.1 C.2.2.2.1 (C.2.2.2.2.1 _ (tz_mem ⟨List.mem_append_right _ (List.mem_of_getElem? (i := 1406) (by decide +kernel)), by decide +kernel⟩)) dX9_averageDependents_32 ?_
  exact sg_fdiv C (dep_nn _) dX9_averageDependents_34 (sg_retF C hret hW dX9_averageDependents_35)
end TH

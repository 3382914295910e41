/-! the law's wrappers, each way out -/
theorem vi01 : vp_in 0 1 := fun h => h.elim (by decide) (by decide)
section WR
variable {l : Launch} {E : tx_En} {I I' : IM} {J J' : JM} {P P' : PM} {x w d : Nat}
theorem LW_appendCharacter_ok (hE : tx_ok E) (hSx : E.2.2.1 x = 8) (hSo : E.2.2.1 w = 11) (hNo : E.2.2.2.1 w = 1) {p0 : Int32} (hd : d ≤ 11) {v : Int32} (h : CWp E.2.2.1 E.2.2.2.1 d MX8_appendCharacter [.ref x, .int p0] I J P (Qe (some (.int v)) I' J' P')) : MtW l E ML_appendCharacter hL_appendCharacter [.ref x, .int p0, .ref w] I J P (some (.int 0)) I' (u2 J' w 0 v.toInt64) P' := by
  refine MtW.of hE ML_appendCharacter_ok (Nat.le_of_ble_eq_true rfl) (fun pg e s m args below meth c C htab hret hT => zt_seg (M := ML_appendCharacter) C ?_)
  show Gp E.2.2.1 E.2.2.2.1 true ML_appendCharacter _ 0 [some (.ref x), some (.int p0), some (.ref w), none] [] I J P
  simp only [g_L_appendCharacter_0, g_L_appendCharacter_1, g_L_appendCharacter_2, g_L_appendCharacter_3, true_and, and_true, rf_s, not_true_eq_false, not_false_eq_true, true_implies, false_implies, kl_i, kl_n, kl_l, kl_r, Option.toList, List.cons_append, List.nil_append, if_true, if_false, u2s, lt00, lt01, lt02, lt03, le10, le20, le30, ne10, ne20, ne30, eq00]
  refine gs_L_appendCharacter_4 ?_
  intro H locs ls hW hL
  refine sg_cE (M := MX8_appendCharacter) (As := [.int p0]) (b := x) (pc2 := 7) rfl (some (.int v)) C hL (d := d) ⟨by show _ ≤ 18; omega, by show _ ≤ 1300; omega⟩ ⟨Nat.zero_le _, Nat.zero_le _⟩ dL_appendCharacter_4 rfl rfl rfl hSx (by rw [hSx]; decide) (Nat.le_of_ble_eq_true rfl) rfl h hW (zt_seg (M := ML_appendCharacter) C ?_)
  simp only [g_L_appendCharacter_7, g_L_appendCharacter_8, g_L_appendCharacter_9, g_L_appendCharacter_12, g_L_appendCharacter_13, g_L_appendCharacter_15, g_L_appendCharacter_16, g_L_appendCharacter_18, hSo, hNo, vi01, true_and, true_and, and_true, rf_s, not_true_eq_false, not_false_eq_true, true_implies, false_implies, kl_i, kl_n, kl_l, kl_r, Option.toList, List.cons_append, List.nil_append, if_true, if_false, u2s, lt00, lt01, lt02, lt03, le10, le20, le30, ne10, ne20, ne30, eq00]
  refine gs_L_appendCharacter_19 ?_
  intro H1 locs1 ls1 hW1 hL1
  exact sg_endW (M := ML_appendCharacter) C hret hW1 ⟨Nat.zero_le _, Nat.zero_le _⟩ dL_appendCharacter_19
theorem LW_appendCharacter_x1 (hE : tx_ok E) (hSx : E.2.2.1 x = 8) (hSo : E.2.2.1 w = 11) (hNo : E.2.2.2.1 w = 1) {p0 : Int32} (hd : d ≤ 11) (h : MtX l E d MX8_appendCharacter [.ref x, .int p0] I J P 1 I' J' P') : MtW l E ML_appendCharacter hL_appendCharacter [.ref x, .int p0, .ref w] I J P (some (.int 1)) I' J' P' := by
  refine MtW.of hE ML_appendCharacter_ok (Nat.le_of_ble_eq_true rfl) (fun pg e s m args below meth c C htab hret hT => zt_seg (M := ML_appendCharacter) C ?_)
  show Gp E.2.2.1 E.2.2.2.1 true ML_appendCharacter _ 0 [some (.ref x), some (.int p0), some (.ref w), none] [] I J P
  simp only [g_L_appendCharacter_0, g_L_appendCharacter_1, g_L_appendCharacter_2, g_L_appendCharacter_3, true_and, and_true, rf_s, not_true_eq_false, not_false_eq_true, true_implies, false_implies, kl_i, kl_n, kl_l, kl_r, Option.toList, List.cons_append, List.nil_append, if_true, if_false, u2s, lt00, lt01, lt02, lt03, le10, le20, le30, ne10, ne20, ne30, eq00]
  refine gs_L_appendCharacter_4 ?_
  intro H locs ls hW hL
  refine sg_callC (M := MX8_appendCharacter) (As := [.int p0]) (b := x) (d := d) C hT hL htab (pre := []) (suf := [(0, 9, 15, 15)]) (a0 := 0) (b0 := 9) (hpc := 12) (ct := 13) rfl (fun _ h => absurd h List.not_mem_nil) (by decide) ctl_1 (by decide) (by decide) ⟨by show _ ≤ 18; omega, by show _ ≤ 1300; omega, Nat.le_refl _, Nat.le_refl _⟩ dL_appendCharacter_4 rfl rfl rfl hSx (by rw [hSx]; decide) (Nat.le_of_ble_eq_true rfl) h hW (fun H1 locs1 q hW1 => seg_ok (M := ML_appendCharacter) C ?_ hW1 hL)
  simp only [g_L_appendCharacter_12, g_L_appendCharacter_13, true_and, and_true, rf_s, not_true_eq_false, not_false_eq_true, true_implies, false_implies, kl_i, kl_n, kl_l, kl_r, Option.toList, List.cons_append, List.nil_append, if_true, if_false, u2s, lt00, lt01, lt02, lt03, le10, le20, le30, ne10, ne20, ne30, eq00]
  refine gs_L_appendCharacter_14 ?_
  intro H2 locs2 ls2 hW2 hL2
  exact sg_endW (M := ML_appendCharacter) C hret hW2 ⟨Nat.le_refl _, Nat.le_refl _⟩ dL_appendCharacter_14
theorem LW_appendCharacter_x2 (hE : tx_ok E) (hSx : E.2.2.1 x = 8) (hSo : E.2.2.1 w = 11) (hNo : E.2.2.2.1 w = 1) {p0 : Int32} (hd : d ≤ 11) (h : MtX l E d MX8_appendCharacter [.ref x, .int p0] I J P 2 I' J' P') : MtW l E ML_appendCharacter hL_appendCharacter [.ref x, .int p0, .ref w] I J P (some (.int 2)) I' J' P' := by
  refine MtW.of hE ML_appendCharacter_ok (Nat.le_of_ble_eq_true rfl) (fun pg e s m args below meth c C htab hret hT => zt_seg (M := ML_appendCharacter) C ?_)
  show Gp E.2.2.1 E.2.2.2.1 true ML_appendCharacter _ 0 [some (.ref x), some (.int p0), some (.ref w), none] [] I J P
  simp only [g_L_appendCharacter_0, g_L_appendCharacter_1, g_L_appendCharacter_2, g_L_appendCharacter_3, true_and, and_true, rf_s, not_true_eq_false, not_false_eq_true, true_implies, false_implies, kl_i, kl_n, kl_l, kl_r, Option.toList, List.cons_append, List.nil_append, if_true, if_false, u2s, lt00, lt01, lt02, lt03, le10, le20, le30, ne10, ne20, ne30, eq00]
  refine gs_L_appendCharacter_4 ?_
  intro H locs ls hW hL
  refine sg_callC (M := MX8_appendCharacter) (As := [.int p0]) (b := x) (d := d) C hT hL htab (pre := [(0, 9, 12, 13)]) (suf := []) (a0 := 0) (b0 := 9) (hpc := 15) (ct := 15) rfl (List.forall_mem_cons.mpr ⟨⟨by decide, 1, ctl_1, List.mem_of_getElem? (i := 0) rfl⟩, fun _ h => absurd h List.not_mem_nil⟩) (by decide) ctl_2 (by decide) (by decide) ⟨by show _ ≤ 18; omega, by show _ ≤ 1300; omega, Nat.le_refl _, Nat.le_refl _⟩ dL_appendCharacter_4 rfl rfl rfl hSx (by rw [hSx]; decide) (Nat.le_of_ble_eq_true rfl) h hW (fun H1 locs1 q hW1 => seg_ok (M := ML_appendCharacter) C ?_ hW1 hL)
  simp only [g_L_appendCharacter_15, g_L_appendCharacter_16, true_and, and_true, rf_s, not_true_eq_false, not_false_eq_true, true_implies, false_implies, kl_i, kl_n, kl_l, kl_r, Option.toList, List.cons_append, List.nil_append, if_true, if_false, u2s, lt00, lt01, lt02, lt03, le10, le20, le30, ne10, ne20, ne30, eq00]
  refine gs_L_appendCharacter_17 ?_
  intro H2 locs2 ls2 hW2 hL2
  exact sg_endW (M := ML_appendCharacter) C hret hW2 ⟨Nat.le_refl _, Nat.le_refl _⟩ dL_appendCharacter_17
theorem LW_addRules_ok (hE : tx_ok E) (hSx : E.2.2.1 x = 8) (hSo : E.2.2.1 w = 11) (hNo : E.2.2.2.1 w = 1) (hd : d ≤ 11) {v : Int32} (h : CWp E.2.2.1 E.2.2.2.1 d MX8_addRules [.ref x] I J P (Qe (some (.int v)) I' J' P')) : MtW l E ML_addRules hL_addRules [.ref x, .ref w] I J P (some (.int 0)) I' (u2 J' w 0 v.toInt64) P' := by
  refine MtW.of hE ML_addRules_ok (Nat.le_of_ble_eq_true rfl) (fun pg e s m args below meth c C htab hret hT => zt_seg (M := ML_addRules) C ?_)
  show Gp E.2.2.1 E.2.2.2.1 true ML_addRules _ 0 [some (.ref x), some (.ref w), none] [] I J P
  simp only [g_L_addRules_0, g_L_addRules_1, g_L_addRules_2, true_and, and_true, rf_s, not_true_eq_false, not_false_eq_true, true_implies, false_implies, kl_i, kl_n, kl_l, kl_r, Option.toList, List.cons_append, List.nil_append, if_true, if_false, u2s, lt00, lt01, lt02, lt03, le10, le20, le30, ne10, ne20, ne30, eq00]
  refine gs_L_addRules_3 ?_
  intro H locs ls hW hL
  refine sg_cE (M := MX8_addRules) (As := []) (b := x) (pc2 := 6) rfl (some (.int v)) C hL (d := d) ⟨by show _ ≤ 18; omega, by show _ ≤ 1300; omega⟩ ⟨Nat.zero_le _, Nat.zero_le _⟩ dL_addRules_3 rfl rfl rfl hSx (by rw [hSx]; decide) (Nat.le_of_ble_eq_true rfl) rfl h hW (zt_seg (M := ML_addRules) C ?_)
  simp only [g_L_addRules_6, g_L_addRules_7, g_L_addRules_8, g_L_addRules_11, g_L_addRules_12, g_L_addRules_14, g_L_addRules_15, g_L_addRules_17, hSo, hNo, vi01, true_and, true_and, and_true, rf_s, not_true_eq_false, not_false_eq_true, true_implies, false_implies, kl_i, kl_n, kl_l, kl_r, Option.toList, List.cons_append, List.nil_append, if_true, if_false, u2s, lt00, lt01, lt02, lt03, le10, le20, le30, ne10, ne20, ne30, eq00]
  refine gs_L_addRules_18 ?_
  intro H1 locs1 ls1 hW1 hL1
  exact sg_endW (M := ML_addRules) C hret hW1 ⟨Nat.zero_le _, Nat.zero_le _⟩ dL_addRules_18
theorem LW_addRules_x1 (hE : tx_ok E) (hSx : E.2.2.1 x = 8) (hSo : E.2.2.1 w = 11) (hNo : E.2.2.2.1 w = 1) (hd : d ≤ 11) (h : MtX l E d MX8_addRules [.ref x] I J P 1 I' J' P') : MtW l E ML_addRules hL_addRules [.ref x, .ref w] I J P (some (.int 1)) I' J' P' := by
  refine MtW.of hE ML_addRules_ok (Nat.le_of_ble_eq_true rfl) (fun pg e s m args below meth c C htab hret hT => zt_seg (M := ML_addRules) C ?_)
  show Gp E.2.2.1 E.2.2.2.1 true ML_addRules _ 0 [some (.ref x), some (.ref w), none] [] I J P
  simp only [g_L_addRules_0, g_L_addRules_1, g_L_addRules_2, true_and, and_true, rf_s, not_true_eq_false, not_false_eq_true, true_implies, false_implies, kl_i, kl_n, kl_l, kl_r, Option.toList, List.cons_append, List.nil_append, if_true, if_false, u2s, lt00, lt01, lt02, lt03, le10, le20, le30, ne10, ne20, ne30, eq00]
  refine gs_L_addRules_3 ?_
  intro H locs ls hW hL
  refine sg_callC (M := MX8_addRules) (As := []) (b := x) (d := d) C hT hL htab (pre := []) (suf := [(0, 8, 14, 15)]) (a0 := 0) (b0 := 8) (hpc := 11) (ct := 13) rfl (fun _ h => absurd h List.not_mem_nil) (by decide) ctl_1 (by decide) (by decide) ⟨by show _ ≤ 18; omega, by show _ ≤ 1300; omega, Nat.le_refl _, Nat.le_refl _⟩ dL_addRules_3 rfl rfl rfl hSx (by rw [hSx]; decide) (Nat.le_of_ble_eq_true rfl) h hW (fun H1 locs1 q hW1 => seg_ok (M := ML_addRules) C ?_ hW1 hL)
  simp only [g_L_addRules_11, g_L_addRules_12, true_and, and_true, rf_s, not_true_eq_false, not_false_eq_true, true_implies, false_implies, kl_i, kl_n, kl_l, kl_r, Option.toList, List.cons_append, List.nil_append, if_true, if_false, u2s, lt00, lt01, lt02, lt03, le10, le20, le30, ne10, ne20, ne30, eq00]
  refine gs_L_addRules_13 ?_
  intro H2 locs2 ls2 hW2 hL2
  exact sg_endW (M := ML_addRules) C hret hW2 ⟨Nat.le_refl _, Nat.le_refl _⟩ dL_addRules_13
theorem LW_addRules_x2 (hE : tx_ok E) (hSx : E.2.2.1 x = 8) (hSo : E.2.2.1 w = 11) (hNo : E.2.2.2.1 w = 1) (hd : d ≤ 11) (h : MtX l E d MX8_addRules [.ref x] I J P 2 I' J' P') : MtW l E ML_addRules hL_addRules [.ref x, .ref w] I J P (some (.int 2)) I' J' P' := by
  refine MtW.of hE ML_addRules_ok (Nat.le_of_ble_eq_true rfl) (fun pg e s m args below meth c C htab hret hT => zt_seg (M := ML_addRules) C ?_)
  show Gp E.2.2.1 E.2.2.2.1 true ML_addRules _ 0 [some (.ref x), some (.ref w), none] [] I J P
  simp only [g_L_addRules_0, g_L_addRules_1, g_L_addRules_2, true_and, and_true, rf_s, not_true_eq_false, not_false_eq_true, true_implies, false_implies, kl_i, kl_n, kl_l, kl_r, Option.toList, List.cons_append, List.nil_append, if_true, if_false, u2s, lt00, lt01, lt02, lt03, le10, le20, le30, ne10, ne20, ne30, eq00]
  refine gs_L_addRules_3 ?_
  intro H locs ls hW hL
  refine sg_callC (M := MX8_addRules) (As := []) (b := x) (d := d) C hT hL htab (pre := [(0, 8, 11, 13)]) (suf := []) (a0 := 0) (b0 := 8) (hpc := 14) (ct := 15) rfl (List.forall_mem_cons.mpr ⟨⟨by decide, 1, ctl_1, List.mem_of_getElem? (i := 0) rfl⟩, fun _ h => absurd h List.not_mem_nil⟩) (by decide) ctl_2 (by decide) (by decide) ⟨by show _ ≤ 18; omega, by show _ ≤ 1300; omega, Nat.le_refl _, Nat.le_refl _⟩ dL_addRules_3 rfl rfl rfl hSx (by rw [hSx]; decide) (Nat.le_of_ble_eq_true rfl) h hW (fun H1 locs1 q hW1 => seg_ok (M := ML_addRules) C ?_ hW1 hL)
  simp only [g_L_addRules_14, g_L_addRules_15, true_and, and_true, rf_s, not_true_eq_false, not_false_eq_true, true_implies, false_implies, kl_i, kl_n, kl_l, kl_r, Option.toList, List.cons_append, List.nil_append, if_true, if_false, u2s, lt00, lt01, lt02, lt03, le10, le20, le30, ne10, ne20, ne30, eq00]
  refine gs_L_addRules_16 ?_
  intro H2 locs2 ls2 hW2 hL2
  exact sg_endW (M := ML_addRules) C hret hW2 ⟨Nat.le_refl _, Nat.le_refl _⟩ dL_addRules_16
theorem LW_bracket_ok (hE : tx_ok E) (hSx : E.2.2.1 x = 8) (hSo : E.2.2.1 w = 11) (hNo : E.2.2.2.1 w = 1) {p0 p1 : Int32} (hd : d ≤ 11) {v : Int32} (h : CWp E.2.2.1 E.2.2.2.1 d MX8_bracket [.ref x, .int p0, .int p1] I J P (Qe (some (.int v)) I' J' P')) : MtW l E ML_bracket hL_bracket [.ref x, .int p0, .int p1, .ref w] I J P (some (.int 0)) I' (u2 J' w 0 v.toInt64) P' := by
  refine MtW.of hE ML_bracket_ok (Nat.le_of_ble_eq_true rfl) (fun pg e s m args below meth c C htab hret hT => zt_seg (M := ML_bracket) C ?_)
  show Gp E.2.2.1 E.2.2.2.1 true ML_bracket _ 0 [some (.ref x), some (.int p0), some (.int p1), some (.ref w), none] [] I J P
  simp only [g_L_bracket_0, g_L_bracket_1, g_L_bracket_2, g_L_bracket_3, g_L_bracket_4, true_and, and_true, rf_s, not_true_eq_false, not_false_eq_true, true_implies, false_implies, kl_i, kl_n, kl_l, kl_r, Option.toList, List.cons_append, List.nil_append, if_true, if_false, u2s, lt00, lt01, lt02, lt03, le10, le20, le30, ne10, ne20, ne30, eq00]
  refine gs_L_bracket_5 ?_
  intro H locs ls hW hL
  refine sg_cE (M := MX8_bracket) (As := [.int p0, .int p1]) (b := x) (pc2 := 8) rfl (some (.int v)) C hL (d := d) ⟨by show _ ≤ 18; omega, by show _ ≤ 1300; omega⟩ ⟨Nat.zero_le _, Nat.zero_le _⟩ dL_bracket_5 rfl rfl rfl hSx (by rw [hSx]; decide) (Nat.le_of_ble_eq_true rfl) rfl h hW (zt_seg (M := ML_bracket) C ?_)
  simp only [g_L_bracket_8, g_L_bracket_9, g_L_bracket_10, g_L_bracket_13, g_L_bracket_15, g_L_bracket_17, g_L_bracket_19, g_L_bracket_21, hSo, hNo, vi01, true_and, true_and, and_true, rf_s, not_true_eq_false, not_false_eq_true, true_implies, false_implies, kl_i, kl_n, kl_l, kl_r, Option.toList, List.cons_append, List.nil_append, if_true, if_false, u2s, lt00, lt01, lt02, lt03, le10, le20, le30, ne10, ne20, ne30, eq00]
  refine gs_L_bracket_22 ?_
  intro H1 locs1 ls1 hW1 hL1
  exact sg_endW (M := ML_bracket) C hret hW1 ⟨Nat.zero_le _, Nat.zero_le _⟩ dL_bracket_22
theorem LW_bracket_x1 (hE : tx_ok E) (hSx : E.2.2.1 x = 8) (hSo : E.2.2.1 w = 11) (hNo : E.2.2.2.1 w = 1) {p0 p1 : Int32} (hd : d ≤ 11) (h : MtX l E d MX8_bracket [.ref x, .int p0, .int p1] I J P 0 I' J' P') : MtW l E ML_bracket hL_bracket [.ref x, .int p0, .int p1, .ref w] I J P (some (.int 1)) I' J' P' := by
  refine MtW.of hE ML_bracket_ok (Nat.le_of_ble_eq_true rfl) (fun pg e s m args below meth c C htab hret hT => zt_seg (M := ML_bracket) C ?_)
  show Gp E.2.2.1 E.2.2.2.1 true ML_bracket _ 0 [some (.ref x), some (.int p0), some (.int p1), some (.ref w), none] [] I J P
  simp only [g_L_bracket_0, g_L_bracket_1, g_L_bracket_2, g_L_bracket_3, g_L_bracket_4, true_and, and_true, rf_s, not_true_eq_false, not_false_eq_true, true_implies, false_implies, kl_i, kl_n, kl_l, kl_r, Option.toList, List.cons_append, List.nil_append, if_true, if_false, u2s, lt00, lt01, lt02, lt03, le10, le20, le30, ne10, ne20, ne30, eq00]
  refine gs_L_bracket_5 ?_
  intro H locs ls hW hL
  refine sg_callC (M := MX8_bracket) (As := [.int p0, .int p1]) (b := x) (d := d) C hT hL htab (pre := []) (suf := [(0, 10, 17, 13)]) (a0 := 0) (b0 := 10) (hpc := 13) (ct := 25) rfl (fun _ h => absurd h List.not_mem_nil) (by decide) ctl_0 (by decide) (by decide) ⟨by show _ ≤ 18; omega, by show _ ≤ 1300; omega, Nat.le_refl _, Nat.le_refl _⟩ dL_bracket_5 rfl rfl rfl hSx (by rw [hSx]; decide) (Nat.le_of_ble_eq_true rfl) h hW (fun H1 locs1 q hW1 => seg_ok (M := ML_bracket) C ?_ hW1 hL)
  simp only [g_L_bracket_13, g_L_bracket_15, true_and, and_true, rf_s, not_true_eq_false, not_false_eq_true, true_implies, false_implies, kl_i, kl_n, kl_l, kl_r, Option.toList, List.cons_append, List.nil_append, if_true, if_false, u2s, lt00, lt01, lt02, lt03, le10, le20, le30, ne10, ne20, ne30, eq00]
  refine gs_L_bracket_16 ?_
  intro H2 locs2 ls2 hW2 hL2
  exact sg_endW (M := ML_bracket) C hret hW2 ⟨Nat.le_refl _, Nat.le_refl _⟩ dL_bracket_16
theorem LW_bracket_x2 (hE : tx_ok E) (hSx : E.2.2.1 x = 8) (hSo : E.2.2.1 w = 11) (hNo : E.2.2.2.1 w = 1) {p0 p1 : Int32} (hd : d ≤ 11) (h : MtX l E d MX8_bracket [.ref x, .int p0, .int p1] I J P 1 I' J' P') : MtW l E ML_bracket hL_bracket [.ref x, .int p0, .int p1, .ref w] I J P (some (.int 2)) I' J' P' := by
  refine MtW.of hE ML_bracket_ok (Nat.le_of_ble_eq_true rfl) (fun pg e s m args below meth c C htab hret hT => zt_seg (M := ML_bracket) C ?_)
  show Gp E.2.2.1 E.2.2.2.1 true ML_bracket _ 0 [some (.ref x), some (.int p0), some (.int p1), some (.ref w), none] [] I J P
  simp only [g_L_bracket_0, g_L_bracket_1, g_L_bracket_2, g_L_bracket_3, g_L_bracket_4, true_and, and_true, rf_s, not_true_eq_false, not_false_eq_true, true_implies, false_implies, kl_i, kl_n, kl_l, kl_r, Option.toList, List.cons_append, List.nil_append, if_true, if_false, u2s, lt00, lt01, lt02, lt03, le10, le20, le30, ne10, ne20, ne30, eq00]
  refine gs_L_bracket_5 ?_
  intro H locs ls hW hL
  refine sg_callC (M := MX8_bracket) (As := [.int p0, .int p1]) (b := x) (d := d) C hT hL htab (pre := [(0, 10, 13, 25)]) (suf := []) (a0 := 0) (b0 := 10) (hpc := 17) (ct := 13) rfl (List.forall_mem_cons.mpr ⟨⟨by decide, 0, ctl_0, List.mem_of_getElem? (i := 1) rfl⟩, fun _ h => absurd h List.not_mem_nil⟩) (by decide) ctl_1 (by decide) (by decide) ⟨by show _ ≤ 18; omega, by show _ ≤ 1300; omega, Nat.le_refl _, Nat.le_refl _⟩ dL_bracket_5 rfl rfl rfl hSx (by rw [hSx]; decide) (Nat.le_of_ble_eq_true rfl) h hW (fun H1 locs1 q hW1 => seg_ok (M := ML_bracket) C ?_ hW1 hL)
  simp only [g_L_bracket_17, g_L_bracket_19, true_and, and_true, rf_s, not_true_eq_false, not_false_eq_true, true_implies, false_implies, kl_i, kl_n, kl_l, kl_r, Option.toList, List.cons_append, List.nil_append, if_true, if_false, u2s, lt00, lt01, lt02, lt03, le10, le20, le30, ne10, ne20, ne30, eq00]
  refine gs_L_bracket_20 ?_
  intro H2 locs2 ls2 hW2 hL2
  exact sg_endW (M := ML_bracket) C hret hW2 ⟨Nat.le_refl _, Nat.le_refl _⟩ dL_bracket_20
theorem LW_allowance_ok (hE : tx_ok E) (hSx : E.2.2.1 x = 8) (hSo : E.2.2.1 w = 11) (hNo : E.2.2.2.1 w = 1) {p0 : Int32} (hd : d ≤ 11) {v : Int32} (h : CWp E.2.2.1 E.2.2.2.1 d MX8_allowance [.ref x, .int p0] I J P (Qe (some (.int v)) I' J' P')) : MtW l E ML_allowance hL_allowance [.ref x, .int p0, .ref w] I J P (some (.int 0)) I' (u2 J' w 0 v.toInt64) P' := by
  refine MtW.of hE ML_allowance_ok (Nat.le_of_ble_eq_true rfl) (fun pg e s m args below meth c C htab hret hT => zt_seg (M := ML_allowance) C ?_)
  show Gp E.2.2.1 E.2.2.2.1 true ML_allowance _ 0 [some (.ref x), some (.int p0), some (.ref w), none] [] I J P
  simp only [g_L_allowance_0, g_L_allowance_1, g_L_allowance_2, g_L_allowance_3, true_and, and_true, rf_s, not_true_eq_false, not_false_eq_true, true_implies, false_implies, kl_i, kl_n, kl_l, kl_r, Option.toList, List.cons_append, List.nil_append, if_true, if_false, u2s, lt00, lt01, lt02, lt03, le10, le20, le30, ne10, ne20, ne30, eq00]
  refine gs_L_allowance_4 ?_
  intro H locs ls hW hL
  refine sg_cE (M := MX8_allowance) (As := [.int p0]) (b := x) (pc2 := 7) rfl (some (.int v)) C hL (d := d) ⟨by show _ ≤ 18; omega, by show _ ≤ 1300; omega⟩ ⟨Nat.zero_le _, Nat.zero_le _⟩ dL_allowance_4 rfl rfl rfl hSx (by rw [hSx]; decide) (Nat.le_of_ble_eq_true rfl) rfl h hW (zt_seg (M := ML_allowance) C ?_)
  simp only [g_L_allowance_7, g_L_allowance_8, g_L_allowance_9, g_L_allowance_12, g_L_allowance_13, g_L_allowance_15, hSo, hNo, vi01, true_and, true_and, and_true, rf_s, not_true_eq_false, not_false_eq_true, true_implies, false_implies, kl_i, kl_n, kl_l, kl_r, Option.toList, List.cons_append, List.nil_append, if_true, if_false, u2s, lt00, lt01, lt02, lt03, le10, le20, le30, ne10, ne20, ne30, eq00]
  refine gs_L_allowance_16 ?_
  intro H1 locs1 ls1 hW1 hL1
  exact sg_endW (M := ML_allowance) C hret hW1 ⟨Nat.zero_le _, Nat.zero_le _⟩ dL_allowance_16
theorem LW_allowance_x1 (hE : tx_ok E) (hSx : E.2.2.1 x = 8) (hSo : E.2.2.1 w = 11) (hNo : E.2.2.2.1 w = 1) {p0 : Int32} (hd : d ≤ 11) (h : MtX l E d MX8_allowance [.ref x, .int p0] I J P 1 I' J' P') : MtW l E ML_allowance hL_allowance [.ref x, .int p0, .ref w] I J P (some (.int 1)) I' J' P' := by
  refine MtW.of hE ML_allowance_ok (Nat.le_of_ble_eq_true rfl) (fun pg e s m args below meth c C htab hret hT => zt_seg (M := ML_allowance) C ?_)
  show Gp E.2.2.1 E.2.2.2.1 true ML_allowance _ 0 [some (.ref x), some (.int p0), some (.ref w), none] [] I J P
  simp only [g_L_allowance_0, g_L_allowance_1, g_L_allowance_2, g_L_allowance_3, true_and, and_true, rf_s, not_true_eq_false, not_false_eq_true, true_implies, false_implies, kl_i, kl_n, kl_l, kl_r, Option.toList, List.cons_append, List.nil_append, if_true, if_false, u2s, lt00, lt01, lt02, lt03, le10, le20, le30, ne10, ne20, ne30, eq00]
  refine gs_L_allowance_4 ?_
  intro H locs ls hW hL
  refine sg_callC (M := MX8_allowance) (As := [.int p0]) (b := x) (d := d) C hT hL htab (pre := []) (suf := []) (a0 := 0) (b0 := 9) (hpc := 12) (ct := 13) rfl (fun _ h => absurd h List.not_mem_nil) (by decide) ctl_1 (by decide) (by decide) ⟨by show _ ≤ 18; omega, by show _ ≤ 1300; omega, Nat.le_refl _, Nat.le_refl _⟩ dL_allowance_4 rfl rfl rfl hSx (by rw [hSx]; decide) (Nat.le_of_ble_eq_true rfl) h hW (fun H1 locs1 q hW1 => seg_ok (M := ML_allowance) C ?_ hW1 hL)
  simp only [g_L_allowance_12, g_L_allowance_13, true_and, and_true, rf_s, not_true_eq_false, not_false_eq_true, true_implies, false_implies, kl_i, kl_n, kl_l, kl_r, Option.toList, List.cons_append, List.nil_append, if_true, if_false, u2s, lt00, lt01, lt02, lt03, le10, le20, le30, ne10, ne20, ne30, eq00]
  refine gs_L_allowance_14 ?_
  intro H2 locs2 ls2 hW2 hL2
  exact sg_endW (M := ML_allowance) C hret hW2 ⟨Nat.le_refl _, Nat.le_refl _⟩ dL_allowance_14
theorem LW_charge_ok (hE : tx_ok E) (hSx : E.2.2.1 x = 8) (hSo : E.2.2.1 w = 11) (hNo : E.2.2.2.1 w = 1) {p0 p1 : Int32} (hd : d ≤ 11) {v : Int32} (h : CWp E.2.2.1 E.2.2.2.1 d MX8_charge [.ref x, .int p0, .int p1] I J P (Qe (some (.int v)) I' J' P')) : MtW l E ML_charge hL_charge [.ref x, .int p0, .int p1, .ref w] I J P (some (.int 0)) I' (u2 J' w 0 v.toInt64) P' := by
  refine MtW.of hE ML_charge_ok (Nat.le_of_ble_eq_true rfl) (fun pg e s m args below meth c C htab hret hT => zt_seg (M := ML_charge) C ?_)
  show Gp E.2.2.1 E.2.2.2.1 true ML_charge _ 0 [some (.ref x), some (.int p0), some (.int p1), some (.ref w), none] [] I J P
  simp only [g_L_charge_0, g_L_charge_1, g_L_charge_2, g_L_charge_3, g_L_charge_4, true_and, and_true, rf_s, not_true_eq_false, not_false_eq_true, true_implies, false_implies, kl_i, kl_n, kl_l, kl_r, Option.toList, List.cons_append, List.nil_append, if_true, if_false, u2s, lt00, lt01, lt02, lt03, le10, le20, le30, ne10, ne20, ne30, eq00]
  refine gs_L_charge_5 ?_
  intro H locs ls hW hL
  refine sg_cE (M := MX8_charge) (As := [.int p0, .int p1]) (b := x) (pc2 := 8) rfl (some (.int v)) C hL (d := d) ⟨by show _ ≤ 18; omega, by show _ ≤ 1300; omega⟩ ⟨Nat.zero_le _, Nat.zero_le _⟩ dL_charge_5 rfl rfl rfl hSx (by rw [hSx]; decide) (Nat.le_of_ble_eq_true rfl) rfl h hW (zt_seg (M := ML_charge) C ?_)
  simp only [g_L_charge_8, g_L_charge_9, g_L_charge_10, g_L_charge_13, g_L_charge_15, g_L_charge_17, g_L_charge_19, g_L_charge_21, hSo, hNo, vi01, true_and, true_and, and_true, rf_s, not_true_eq_false, not_false_eq_true, true_implies, false_implies, kl_i, kl_n, kl_l, kl_r, Option.toList, List.cons_append, List.nil_append, if_true, if_false, u2s, lt00, lt01, lt02, lt03, le10, le20, le30, ne10, ne20, ne30, eq00]
  refine gs_L_charge_22 ?_
  intro H1 locs1 ls1 hW1 hL1
  exact sg_endW (M := ML_charge) C hret hW1 ⟨Nat.zero_le _, Nat.zero_le _⟩ dL_charge_22
theorem LW_charge_x1 (hE : tx_ok E) (hSx : E.2.2.1 x = 8) (hSo : E.2.2.1 w = 11) (hNo : E.2.2.2.1 w = 1) {p0 p1 : Int32} (hd : d ≤ 11) (h : MtX l E d MX8_charge [.ref x, .int p0, .int p1] I J P 0 I' J' P') : MtW l E ML_charge hL_charge [.ref x, .int p0, .int p1, .ref w] I J P (some (.int 1)) I' J' P' := by
  refine MtW.of hE ML_charge_ok (Nat.le_of_ble_eq_true rfl) (fun pg e s m args below meth c C htab hret hT => zt_seg (M := ML_charge) C ?_)
  show Gp E.2.2.1 E.2.2.2.1 true ML_charge _ 0 [some (.ref x), some (.int p0), some (.int p1), some (.ref w), none] [] I J P
  simp only [g_L_charge_0, g_L_charge_1, g_L_charge_2, g_L_charge_3, g_L_charge_4, true_and, and_true, rf_s, not_true_eq_false, not_false_eq_true, true_implies, false_implies, kl_i, kl_n, kl_l, kl_r, Option.toList, List.cons_append, List.nil_append, if_true, if_false, u2s, lt00, lt01, lt02, lt03, le10, le20, le30, ne10, ne20, ne30, eq00]
  refine gs_L_charge_5 ?_
  intro H locs ls hW hL
  refine sg_callC (M := MX8_charge) (As := [.int p0, .int p1]) (b := x) (d := d) C hT hL htab (pre := []) (suf := [(0, 10, 17, 13)]) (a0 := 0) (b0 := 10) (hpc := 13) (ct := 25) rfl (fun _ h => absurd h List.not_mem_nil) (by decide) ctl_0 (by decide) (by decide) ⟨by show _ ≤ 18; omega, by show _ ≤ 1300; omega, Nat.le_refl _, Nat.le_refl _⟩ dL_charge_5 rfl rfl rfl hSx (by rw [hSx]; decide) (Nat.le_of_ble_eq_true rfl) h hW (fun H1 locs1 q hW1 => seg_ok (M := ML_charge) C ?_ hW1 hL)
  simp only [g_L_charge_13, g_L_charge_15, true_and, and_true, rf_s, not_true_eq_false, not_false_eq_true, true_implies, false_implies, kl_i, kl_n, kl_l, kl_r, Option.toList, List.cons_append, List.nil_append, if_true, if_false, u2s, lt00, lt01, lt02, lt03, le10, le20, le30, ne10, ne20, ne30, eq00]
  refine gs_L_charge_16 ?_
  intro H2 locs2 ls2 hW2 hL2
  exact sg_endW (M := ML_charge) C hret hW2 ⟨Nat.le_refl _, Nat.le_refl _⟩ dL_charge_16
theorem LW_charge_x2 (hE : tx_ok E) (hSx : E.2.2.1 x = 8) (hSo : E.2.2.1 w = 11) (hNo : E.2.2.2.1 w = 1) {p0 p1 : Int32} (hd : d ≤ 11) (h : MtX l E d MX8_charge [.ref x, .int p0, .int p1] I J P 1 I' J' P') : MtW l E ML_charge hL_charge [.ref x, .int p0, .int p1, .ref w] I J P (some (.int 2)) I' J' P' := by
  refine MtW.of hE ML_charge_ok (Nat.le_of_ble_eq_true rfl) (fun pg e s m args below meth c C htab hret hT => zt_seg (M := ML_charge) C ?_)
  show Gp E.2.2.1 E.2.2.2.1 true ML_charge _ 0 [some (.ref x), some (.int p0), some (.int p1), some (.ref w), none] [] I J P
  simp only [g_L_charge_0, g_L_charge_1, g_L_charge_2, g_L_charge_3, g_L_charge_4, true_and, and_true, rf_s, not_true_eq_false, not_false_eq_true, true_implies, false_implies, kl_i, kl_n, kl_l, kl_r, Option.toList, List.cons_append, List.nil_append, if_true, if_false, u2s, lt00, lt01, lt02, lt03, le10, le20, le30, ne10, ne20, ne30, eq00]
  refine gs_L_charge_5 ?_
  intro H locs ls hW hL
  refine sg_callC (M := MX8_charge) (As := [.int p0, .int p1]) (b := x) (d := d) C hT hL htab (pre := [(0, 10, 13, 25)]) (suf := []) (a0 := 0) (b0 := 10) (hpc := 17) (ct := 13) rfl (List.forall_mem_cons.mpr ⟨⟨by decide, 0, ctl_0, List.mem_of_getElem? (i := 1) rfl⟩, fun _ h => absurd h List.not_mem_nil⟩) (by decide) ctl_1 (by decide) (by decide) ⟨by show _ ≤ 18; omega, by show _ ≤ 1300; omega, Nat.le_refl _, Nat.le_refl _⟩ dL_charge_5 rfl rfl rfl hSx (by rw [hSx]; decide) (Nat.le_of_ble_eq_true rfl) h hW (fun H1 locs1 q hW1 => seg_ok (M := ML_charge) C ?_ hW1 hL)
  simp only [g_L_charge_17, g_L_charge_19, true_and, and_true, rf_s, not_true_eq_false, not_false_eq_true, true_implies, false_implies, kl_i, kl_n, kl_l, kl_r, Option.toList, List.cons_append, List.nil_append, if_true, if_false, u2s, lt00, lt01, lt02, lt03, le10, le20, le30, ne10, ne20, ne30, eq00]
  refine gs_L_charge_20 ?_
  intro H2 locs2 ls2 hW2 hL2
  exact sg_endW (M := ML_charge) C hret hW2 ⟨Nat.le_refl _, Nat.le_refl _⟩ dL_charge_20
theorem LW_credit_ok (hE : tx_ok E) (hSx : E.2.2.1 x = 8) (hSo : E.2.2.1 w = 11) (hNo : E.2.2.2.1 w = 1) {p0 p1 : Int32} (hd : d ≤ 11) {v : Int32} (h : CWp E.2.2.1 E.2.2.2.1 d MX8_credit [.ref x, .int p0, .int p1] I J P (Qe (some (.int v)) I' J' P')) : MtW l E ML_credit hL_credit [.ref x, .int p0, .int p1, .ref w] I J P (some (.int 0)) I' (u2 J' w 0 v.toInt64) P' := by
  refine MtW.of hE ML_credit_ok (Nat.le_of_ble_eq_true rfl) (fun pg e s m args below meth c C htab hret hT => zt_seg (M := ML_credit) C ?_)
  show Gp E.2.2.1 E.2.2.2.1 true ML_credit _ 0 [some (.ref x), some (.int p0), some (.int p1), some (.ref w), none] [] I J P
  simp only [g_L_credit_0, g_L_credit_1, g_L_credit_2, g_L_credit_3, g_L_credit_4, true_and, and_true, rf_s, not_true_eq_false, not_false_eq_true, true_implies, false_implies, kl_i, kl_n, kl_l, kl_r, Option.toList, List.cons_append, List.nil_append, if_true, if_false, u2s, lt00, lt01, lt02, lt03, le10, le20, le30, ne10, ne20, ne30, eq00]
  refine gs_L_credit_5 ?_
  intro H locs ls hW hL
  refine sg_cE (M := MX8_credit) (As := [.int p0, .int p1]) (b := x) (pc2 := 8) rfl (some (.int v)) C hL (d := d) ⟨by show _ ≤ 18; omega, by show _ ≤ 1300; omega⟩ ⟨Nat.zero_le _, Nat.zero_le _⟩ dL_credit_5 rfl rfl rfl hSx (by rw [hSx]; decide) (Nat.le_of_ble_eq_true rfl) rfl h hW (zt_seg (M := ML_credit) C ?_)
  simp only [g_L_credit_8, g_L_credit_9, g_L_credit_10, g_L_credit_13, g_L_credit_15, g_L_credit_17, g_L_credit_19, g_L_credit_21, hSo, hNo, vi01, true_and, true_and, and_true, rf_s, not_true_eq_false, not_false_eq_true, true_implies, false_implies, kl_i, kl_n, kl_l, kl_r, Option.toList, List.cons_append, List.nil_append, if_true, if_false, u2s, lt00, lt01, lt02, lt03, le10, le20, le30, ne10, ne20, ne30, eq00]
  refine gs_L_credit_22 ?_
  intro H1 locs1 ls1 hW1 hL1
  exact sg_endW (M := ML_credit) C hret hW1 ⟨Nat.zero_le _, Nat.zero_le _⟩ dL_credit_22
theorem LW_credit_x1 (hE : tx_ok E) (hSx : E.2.2.1 x = 8) (hSo : E.2.2.1 w = 11) (hNo : E.2.2.2.1 w = 1) {p0 p1 : Int32} (hd : d ≤ 11) (h : MtX l E d MX8_credit [.ref x, .int p0, .int p1] I J P 0 I' J' P') : MtW l E ML_credit hL_credit [.ref x, .int p0, .int p1, .ref w] I J P (some (.int 1)) I' J' P' := by
  refine MtW.of hE ML_credit_ok (Nat.le_of_ble_eq_true rfl) (fun pg e s m args below meth c C htab hret hT => zt_seg (M := ML_credit) C ?_)
  show Gp E.2.2.1 E.2.2.2.1 true ML_credit _ 0 [some (.ref x), some (.int p0), some (.int p1), some (.ref w), none] [] I J P
  simp only [g_L_credit_0, g_L_credit_1, g_L_credit_2, g_L_credit_3, g_L_credit_4, true_and, and_true, rf_s, not_true_eq_false, not_false_eq_true, true_implies, false_implies, kl_i, kl_n, kl_l, kl_r, Option.toList, List.cons_append, List.nil_append, if_true, if_false, u2s, lt00, lt01, lt02, lt03, le10, le20, le30, ne10, ne20, ne30, eq00]
  refine gs_L_credit_5 ?_
  intro H locs ls hW hL
  refine sg_callC (M := MX8_credit) (As := [.int p0, .int p1]) (b := x) (d := d) C hT hL htab (pre := []) (suf := [(0, 10, 17, 13)]) (a0 := 0) (b0 := 10) (hpc := 13) (ct := 25) rfl (fun _ h => absurd h List.not_mem_nil) (by decide) ctl_0 (by decide) (by decide) ⟨by show _ ≤ 18; omega, by show _ ≤ 1300; omega, Nat.le_refl _, Nat.le_refl _⟩ dL_credit_5 rfl rfl rfl hSx (by rw [hSx]; decide) (Nat.le_of_ble_eq_true rfl) h hW (fun H1 locs1 q hW1 => seg_ok (M := ML_credit) C ?_ hW1 hL)
  simp only [g_L_credit_13, g_L_credit_15, true_and, and_true, rf_s, not_true_eq_false, not_false_eq_true, true_implies, false_implies, kl_i, kl_n, kl_l, kl_r, Option.toList, List.cons_append, List.nil_append, if_true, if_false, u2s, lt00, lt01, lt02, lt03, le10, le20, le30, ne10, ne20, ne30, eq00]
  refine gs_L_credit_16 ?_
  intro H2 locs2 ls2 hW2 hL2
  exact sg_endW (M := ML_credit) C hret hW2 ⟨Nat.le_refl _, Nat.le_refl _⟩ dL_credit_16
theorem LW_credit_x2 (hE : tx_ok E) (hSx : E.2.2.1 x = 8) (hSo : E.2.2.1 w = 11) (hNo : E.2.2.2.1 w = 1) {p0 p1 : Int32} (hd : d ≤ 11) (h : MtX l E d MX8_credit [.ref x, .int p0, .int p1] I J P 1 I' J' P') : MtW l E ML_credit hL_credit [.ref x, .int p0, .int p1, .ref w] I J P (some (.int 2)) I' J' P' := by
  refine MtW.of hE ML_credit_ok (Nat.le_of_ble_eq_true rfl) (fun pg e s m args below meth c C htab hret hT => zt_seg (M := ML_credit) C ?_)
  show Gp E.2.2.1 E.2.2.2.1 true ML_credit _ 0 [some (.ref x), some (.int p0), some (.int p1), some (.ref w), none] [] I J P
  simp only [g_L_credit_0, g_L_credit_1, g_L_credit_2, g_L_credit_3, g_L_credit_4, true_and, and_true, rf_s, not_true_eq_false, not_false_eq_true, true_implies, false_implies, kl_i, kl_n, kl_l, kl_r, Option.toList, List.cons_append, List.nil_append, if_true, if_false, u2s, lt00, lt01, lt02, lt03, le10, le20, le30, ne10, ne20, ne30, eq00]
  refine gs_L_credit_5 ?_
  intro H locs ls hW hL
  refine sg_callC (M := MX8_credit) (As := [.int p0, .int p1]) (b := x) (d := d) C hT hL htab (pre := [(0, 10, 13, 25)]) (suf := []) (a0 := 0) (b0 := 10) (hpc := 17) (ct := 13) rfl (List.forall_mem_cons.mpr ⟨⟨by decide, 0, ctl_0, List.mem_of_getElem? (i := 1) rfl⟩, fun _ h => absurd h List.not_mem_nil⟩) (by decide) ctl_1 (by decide) (by decide) ⟨by show _ ≤ 18; omega, by show _ ≤ 1300; omega, Nat.le_refl _, Nat.le_refl _⟩ dL_credit_5 rfl rfl rfl hSx (by rw [hSx]; decide) (Nat.le_of_ble_eq_true rfl) h hW (fun H1 locs1 q hW1 => seg_ok (M := ML_credit) C ?_ hW1 hL)
  simp only [g_L_credit_17, g_L_credit_19, true_and, and_true, rf_s, not_true_eq_false, not_false_eq_true, true_implies, false_implies, kl_i, kl_n, kl_l, kl_r, Option.toList, List.cons_append, List.nil_append, if_true, if_false, u2s, lt00, lt01, lt02, lt03, le10, le20, le30, ne10, ne20, ne30, eq00]
  refine gs_L_credit_20 ?_
  intro H2 locs2 ls2 hW2 hL2
  exact sg_endW (M := ML_credit) C hret hW2 ⟨Nat.le_refl _, Nat.le_refl _⟩ dL_credit_20
theorem LW_removeCredit_ok (hE : tx_ok E) (hSx : E.2.2.1 x = 8) (hSo : E.2.2.1 w = 11) (hNo : E.2.2.2.1 w = 1) {p0 : Int32} (hd : d ≤ 11) {v : Int32} (h : CWp E.2.2.1 E.2.2.2.1 d MX8_removeCredit [.ref x, .int p0] I J P (Qe (some (.int v)) I' J' P')) : MtW l E ML_removeCredit hL_removeCredit [.ref x, .int p0, .ref w] I J P (some (.int 0)) I' (u2 J' w 0 v.toInt64) P' := by
  refine MtW.of hE ML_removeCredit_ok (Nat.le_of_ble_eq_true rfl) (fun pg e s m args below meth c C htab hret hT => zt_seg (M := ML_removeCredit) C ?_)
  show Gp E.2.2.1 E.2.2.2.1 true ML_removeCredit _ 0 [some (.ref x), some (.int p0), some (.ref w), none] [] I J P
  simp only [g_L_removeCredit_0, g_L_removeCredit_1, g_L_removeCredit_2, g_L_removeCredit_3, true_and, and_true, rf_s, not_true_eq_false, not_false_eq_true, true_implies, false_implies, kl_i, kl_n, kl_l, kl_r, Option.toList, List.cons_append, List.nil_append, if_true, if_false, u2s, lt00, lt01, lt02, lt03, le10, le20, le30, ne10, ne20, ne30, eq00]
  refine gs_L_removeCredit_4 ?_
  intro H locs ls hW hL
  refine sg_cE (M := MX8_removeCredit) (As := [.int p0]) (b := x) (pc2 := 7) rfl (some (.int v)) C hL (d := d) ⟨by show _ ≤ 18; omega, by show _ ≤ 1300; omega⟩ ⟨Nat.zero_le _, Nat.zero_le _⟩ dL_removeCredit_4 rfl rfl rfl hSx (by rw [hSx]; decide) (Nat.le_of_ble_eq_true rfl) rfl h hW (zt_seg (M := ML_removeCredit) C ?_)
  simp only [g_L_removeCredit_7, g_L_removeCredit_8, g_L_removeCredit_9, g_L_removeCredit_12, g_L_removeCredit_13, g_L_removeCredit_15, hSo, hNo, vi01, true_and, true_and, and_true, rf_s, not_true_eq_false, not_false_eq_true, true_implies, false_implies, kl_i, kl_n, kl_l, kl_r, Option.toList, List.cons_append, List.nil_append, if_true, if_false, u2s, lt00, lt01, lt02, lt03, le10, le20, le30, ne10, ne20, ne30, eq00]
  refine gs_L_removeCredit_16 ?_
  intro H1 locs1 ls1 hW1 hL1
  exact sg_endW (M := ML_removeCredit) C hret hW1 ⟨Nat.zero_le _, Nat.zero_le _⟩ dL_removeCredit_16
theorem LW_removeCredit_x1 (hE : tx_ok E) (hSx : E.2.2.1 x = 8) (hSo : E.2.2.1 w = 11) (hNo : E.2.2.2.1 w = 1) {p0 : Int32} (hd : d ≤ 11) (h : MtX l E d MX8_removeCredit [.ref x, .int p0] I J P 0 I' J' P') : MtW l E ML_removeCredit hL_removeCredit [.ref x, .int p0, .ref w] I J P (some (.int 1)) I' J' P' := by
  refine MtW.of hE ML_removeCredit_ok (Nat.le_of_ble_eq_true rfl) (fun pg e s m args below meth c C htab hret hT => zt_seg (M := ML_removeCredit) C ?_)
  show Gp E.2.2.1 E.2.2.2.1 true ML_removeCredit _ 0 [some (.ref x), some (.int p0), some (.ref w), none] [] I J P
  simp only [g_L_removeCredit_0, g_L_removeCredit_1, g_L_removeCredit_2, g_L_removeCredit_3, true_and, and_true, rf_s, not_true_eq_false, not_false_eq_true, true_implies, false_implies, kl_i, kl_n, kl_l, kl_r, Option.toList, List.cons_append, List.nil_append, if_true, if_false, u2s, lt00, lt01, lt02, lt03, le10, le20, le30, ne10, ne20, ne30, eq00]
  refine gs_L_removeCredit_4 ?_
  intro H locs ls hW hL
  refine sg_callC (M := MX8_removeCredit) (As := [.int p0]) (b := x) (d := d) C hT hL htab (pre := []) (suf := []) (a0 := 0) (b0 := 9) (hpc := 12) (ct := 25) rfl (fun _ h => absurd h List.not_mem_nil) (by decide) ctl_0 (by decide) (by decide) ⟨by show _ ≤ 18; omega, by show _ ≤ 1300; omega, Nat.le_refl _, Nat.le_refl _⟩ dL_removeCredit_4 rfl rfl rfl hSx (by rw [hSx]; decide) (Nat.le_of_ble_eq_true rfl) h hW (fun H1 locs1 q hW1 => seg_ok (M := ML_removeCredit) C ?_ hW1 hL)
  simp only [g_L_removeCredit_12, g_L_removeCredit_13, true_and, and_true, rf_s, not_true_eq_false, not_false_eq_true, true_implies, false_implies, kl_i, kl_n, kl_l, kl_r, Option.toList, List.cons_append, List.nil_append, if_true, if_false, u2s, lt00, lt01, lt02, lt03, le10, le20, le30, ne10, ne20, ne30, eq00]
  refine gs_L_removeCredit_14 ?_
  intro H2 locs2 ls2 hW2 hL2
  exact sg_endW (M := ML_removeCredit) C hret hW2 ⟨Nat.le_refl _, Nat.le_refl _⟩ dL_removeCredit_14
theorem LW_moveCredit_ok (hE : tx_ok E) (hSx : E.2.2.1 x = 8) {p0 p1 : Int32} (hd : d ≤ 11) (h : CWp E.2.2.1 E.2.2.2.1 d MX8_moveCredit [.ref x, .int p0, .int p1] I J P (Qe none I' J' P')) : MtW l E ML_moveCredit hL_moveCredit [.ref x, .int p0, .int p1] I J P (some (.int 0)) I' J' P' := by
  refine MtW.of hE ML_moveCredit_ok (Nat.le_of_ble_eq_true rfl) (fun pg e s m args below meth c C htab hret hT => zt_seg (M := ML_moveCredit) C ?_)
  show Gp E.2.2.1 E.2.2.2.1 true ML_moveCredit _ 0 [some (.ref x), some (.int p0), some (.int p1), none] [] I J P
  simp only [g_L_moveCredit_0, g_L_moveCredit_1, g_L_moveCredit_2, true_and, and_true, rf_s, not_true_eq_false, not_false_eq_true, true_implies, false_implies, kl_i, kl_n, kl_l, kl_r, Option.toList, List.cons_append, List.nil_append, if_true, if_false, u2s, lt00, lt01, lt02, lt03, le10, le20, le30, ne10, ne20, ne30, eq00]
  refine gs_L_moveCredit_3 ?_
  intro H locs ls hW hL
  refine sg_cE (M := MX8_moveCredit) (As := [.int p0, .int p1]) (b := x) (pc2 := 6) rfl none C hL (d := d) ⟨by show _ ≤ 18; omega, by show _ ≤ 1300; omega⟩ ⟨Nat.zero_le _, Nat.zero_le _⟩ dL_moveCredit_3 rfl rfl rfl hSx (by rw [hSx]; decide) (Nat.le_of_ble_eq_true rfl) rfl h hW (zt_seg (M := ML_moveCredit) C ?_)
  simp only [g_L_moveCredit_6, g_L_moveCredit_9, g_L_moveCredit_10, g_L_moveCredit_12, true_and, and_true, rf_s, not_true_eq_false, not_false_eq_true, true_implies, false_implies, kl_i, kl_n, kl_l, kl_r, Option.toList, List.cons_append, List.nil_append, if_true, if_false, u2s, lt00, lt01, lt02, lt03, le10, le20, le30, ne10, ne20, ne30, eq00]
  refine gs_L_moveCredit_13 ?_
  intro H1 locs1 ls1 hW1 hL1
  exact sg_endW (M := ML_moveCredit) C hret hW1 ⟨Nat.zero_le _, Nat.zero_le _⟩ dL_moveCredit_13
theorem LW_moveCredit_x1 (hE : tx_ok E) (hSx : E.2.2.1 x = 8) {p0 p1 : Int32} (hd : d ≤ 11) (h : MtX l E d MX8_moveCredit [.ref x, .int p0, .int p1] I J P 0 I' J' P') : MtW l E ML_moveCredit hL_moveCredit [.ref x, .int p0, .int p1] I J P (some (.int 1)) I' J' P' := by
  refine MtW.of hE ML_moveCredit_ok (Nat.le_of_ble_eq_true rfl) (fun pg e s m args below meth c C htab hret hT => zt_seg (M := ML_moveCredit) C ?_)
  show Gp E.2.2.1 E.2.2.2.1 true ML_moveCredit _ 0 [some (.ref x), some (.int p0), some (.int p1), none] [] I J P
  simp only [g_L_moveCredit_0, g_L_moveCredit_1, g_L_moveCredit_2, true_and, and_true, rf_s, not_true_eq_false, not_false_eq_true, true_implies, false_implies, kl_i, kl_n, kl_l, kl_r, Option.toList, List.cons_append, List.nil_append, if_true, if_false, u2s, lt00, lt01, lt02, lt03, le10, le20, le30, ne10, ne20, ne30, eq00]
  refine gs_L_moveCredit_3 ?_
  intro H locs ls hW hL
  refine sg_callC (M := MX8_moveCredit) (As := [.int p0, .int p1]) (b := x) (d := d) C hT hL htab (pre := []) (suf := []) (a0 := 0) (b0 := 6) (hpc := 9) (ct := 25) rfl (fun _ h => absurd h List.not_mem_nil) (by decide) ctl_0 (by decide) (by decide) ⟨by show _ ≤ 18; omega, by show _ ≤ 1300; omega, Nat.le_refl _, Nat.le_refl _⟩ dL_moveCredit_3 rfl rfl rfl hSx (by rw [hSx]; decide) (Nat.le_of_ble_eq_true rfl) h hW (fun H1 locs1 q hW1 => seg_ok (M := ML_moveCredit) C ?_ hW1 hL)
  simp only [g_L_moveCredit_9, g_L_moveCredit_10, true_and, and_true, rf_s, not_true_eq_false, not_false_eq_true, true_implies, false_implies, kl_i, kl_n, kl_l, kl_r, Option.toList, List.cons_append, List.nil_append, if_true, if_false, u2s, lt00, lt01, lt02, lt03, le10, le20, le30, ne10, ne20, ne30, eq00]
  refine gs_L_moveCredit_11 ?_
  intro H2 locs2 ls2 hW2 hL2
  exact sg_endW (M := ML_moveCredit) C hret hW2 ⟨Nat.le_refl _, Nat.le_refl _⟩ dL_moveCredit_11
theorem LW_setPerson_ok (hE : tx_ok E) (hSx : E.2.2.1 x = 8) {p0 p1 p2 p3 : Int32} (hd : d ≤ 11) (h : CWp E.2.2.1 E.2.2.2.1 d MX8_setPerson [.ref x, .int p0, .int p1, .int p2, .int p3] I J P (Qe none I' J' P')) : MtW l E ML_setPerson hL_setPerson [.ref x, .int p0, .int p1, .int p2, .int p3] I J P (some (.int 0)) I' J' P' := by
  refine MtW.of hE ML_setPerson_ok (Nat.le_of_ble_eq_true rfl) (fun pg e s m args below meth c C htab hret hT => zt_seg (M := ML_setPerson) C ?_)
  show Gp E.2.2.1 E.2.2.2.1 true ML_setPerson _ 0 [some (.ref x), some (.int p0), some (.int p1), some (.int p2), some (.int p3), none] [] I J P
  simp only [g_L_setPerson_0, g_L_setPerson_1, g_L_setPerson_2, g_L_setPerson_3, g_L_setPerson_4, true_and, and_true, rf_s, not_true_eq_false, not_false_eq_true, true_implies, false_implies, kl_i, kl_n, kl_l, kl_r, Option.toList, List.cons_append, List.nil_append, if_true, if_false, u2s, lt00, lt01, lt02, lt03, le10, le20, le30, ne10, ne20, ne30, eq00]
  refine gs_L_setPerson_6 ?_
  intro H locs ls hW hL
  refine sg_cE (M := MX8_setPerson) (As := [.int p0, .int p1, .int p2, .int p3]) (b := x) (pc2 := 9) rfl none C hL (d := d) ⟨by show _ ≤ 18; omega, by show _ ≤ 1300; omega⟩ ⟨Nat.zero_le _, Nat.zero_le _⟩ dL_setPerson_6 rfl rfl rfl hSx (by rw [hSx]; decide) (Nat.le_of_ble_eq_true rfl) rfl h hW (zt_seg (M := ML_setPerson) C ?_)
  simp only [g_L_setPerson_9, g_L_setPerson_12, g_L_setPerson_14, g_L_setPerson_16, g_L_setPerson_18, g_L_setPerson_20, true_and, and_true, rf_s, not_true_eq_false, not_false_eq_true, true_implies, false_implies, kl_i, kl_n, kl_l, kl_r, Option.toList, List.cons_append, List.nil_append, if_true, if_false, u2s, lt00, lt01, lt02, lt03, le10, le20, le30, ne10, ne20, ne30, eq00]
  refine gs_L_setPerson_21 ?_
  intro H1 locs1 ls1 hW1 hL1
  exact sg_endW (M := ML_setPerson) C hret hW1 ⟨Nat.zero_le _, Nat.zero_le _⟩ dL_setPerson_21
theorem LW_setPerson_x1 (hE : tx_ok E) (hSx : E.2.2.1 x = 8) {p0 p1 p2 p3 : Int32} (hd : d ≤ 11) (h : MtX l E d MX8_setPerson [.ref x, .int p0, .int p1, .int p2, .int p3] I J P 0 I' J' P') : MtW l E ML_setPerson hL_setPerson [.ref x, .int p0, .int p1, .int p2, .int p3] I J P (some (.int 1)) I' J' P' := by
  refine MtW.of hE ML_setPerson_ok (Nat.le_of_ble_eq_true rfl) (fun pg e s m args below meth c C htab hret hT => zt_seg (M := ML_setPerson) C ?_)
  show Gp E.2.2.1 E.2.2.2.1 true ML_setPerson _ 0 [some (.ref x), some (.int p0), some (.int p1), some (.int p2), some (.int p3), none] [] I J P
  simp only [g_L_setPerson_0, g_L_setPerson_1, g_L_setPerson_2, g_L_setPerson_3, g_L_setPerson_4, true_and, and_true, rf_s, not_true_eq_false, not_false_eq_true, true_implies, false_implies, kl_i, kl_n, kl_l, kl_r, Option.toList, List.cons_append, List.nil_append, if_true, if_false, u2s, lt00, lt01, lt02, lt03, le10, le20, le30, ne10, ne20, ne30, eq00]
  refine gs_L_setPerson_6 ?_
  intro H locs ls hW hL
  refine sg_callC (M := MX8_setPerson) (As := [.int p0, .int p1, .int p2, .int p3]) (b := x) (d := d) C hT hL htab (pre := []) (suf := [(0, 9, 16, 13)]) (a0 := 0) (b0 := 9) (hpc := 12) (ct := 25) rfl (fun _ h => absurd h List.not_mem_nil) (by decide) ctl_0 (by decide) (by decide) ⟨by show _ ≤ 18; omega, by show _ ≤ 1300; omega, Nat.le_refl _, Nat.le_refl _⟩ dL_setPerson_6 rfl rfl rfl hSx (by rw [hSx]; decide) (Nat.le_of_ble_eq_true rfl) h hW (fun H1 locs1 q hW1 => seg_ok (M := ML_setPerson) C ?_ hW1 hL)
  simp only [g_L_setPerson_12, g_L_setPerson_14, true_and, and_true, rf_s, not_true_eq_false, not_false_eq_true, true_implies, false_implies, kl_i, kl_n, kl_l, kl_r, Option.toList, List.cons_append, List.nil_append, if_true, if_false, u2s, lt00, lt01, lt02, lt03, le10, le20, le30, ne10, ne20, ne30, eq00]
  refine gs_L_setPerson_15 ?_
  intro H2 locs2 ls2 hW2 hL2
  exact sg_endW (M := ML_setPerson) C hret hW2 ⟨Nat.le_refl _, Nat.le_refl _⟩ dL_setPerson_15
theorem LW_setPerson_x2 (hE : tx_ok E) (hSx : E.2.2.1 x = 8) {p0 p1 p2 p3 : Int32} (hd : d ≤ 11) (h : MtX l E d MX8_setPerson [.ref x, .int p0, .int p1, .int p2, .int p3] I J P 1 I' J' P') : MtW l E ML_setPerson hL_setPerson [.ref x, .int p0, .int p1, .int p2, .int p3] I J P (some (.int 2)) I' J' P' := by
  refine MtW.of hE ML_setPerson_ok (Nat.le_of_ble_eq_true rfl) (fun pg e s m args below meth c C htab hret hT => zt_seg (M := ML_setPerson) C ?_)
  show Gp E.2.2.1 E.2.2.2.1 true ML_setPerson _ 0 [some (.ref x), some (.int p0), some (.int p1), some (.int p2), some (.int p3), none] [] I J P
  simp only [g_L_setPerson_0, g_L_setPerson_1, g_L_setPerson_2, g_L_setPerson_3, g_L_setPerson_4, true_and, and_true, rf_s, not_true_eq_false, not_false_eq_true, true_implies, false_implies, kl_i, kl_n, kl_l, kl_r, Option.toList, List.cons_append, List.nil_append, if_true, if_false, u2s, lt00, lt01, lt02, lt03, le10, le20, le30, ne10, ne20, ne30, eq00]
  refine gs_L_setPerson_6 ?_
  intro H locs ls hW hL
  refine sg_callC (M := MX8_setPerson) (As := [.int p0, .int p1, .int p2, .int p3]) (b := x) (d := d) C hT hL htab (pre := [(0, 9, 12, 25)]) (suf := []) (a0 := 0) (b0 := 9) (hpc := 16) (ct := 13) rfl (List.forall_mem_cons.mpr ⟨⟨by decide, 0, ctl_0, List.mem_of_getElem? (i := 1) rfl⟩, fun _ h => absurd h List.not_mem_nil⟩) (by decide) ctl_1 (by decide) (by decide) ⟨by show _ ≤ 18; omega, by show _ ≤ 1300; omega, Nat.le_refl _, Nat.le_refl _⟩ dL_setPerson_6 rfl rfl rfl hSx (by rw [hSx]; decide) (Nat.le_of_ble_eq_true rfl) h hW (fun H1 locs1 q hW1 => seg_ok (M := ML_setPerson) C ?_ hW1 hL)
  simp only [g_L_setPerson_16, g_L_setPerson_18, true_and, and_true, rf_s, not_true_eq_false, not_false_eq_true, true_implies, false_implies, kl_i, kl_n, kl_l, kl_r, Option.toList, List.cons_append, List.nil_append, if_true, if_false, u2s, lt00, lt01, lt02, lt03, le10, le20, le30, ne10, ne20, ne30, eq00]
  refine gs_L_setPerson_19 ?_
  intro H2 locs2 ls2 hW2 hL2
  exact sg_endW (M := ML_setPerson) C hret hW2 ⟨Nat.le_refl _, Nat.le_refl _⟩ dL_setPerson_19
theorem LW_personData_ok (hE : tx_ok E) (hSx : E.2.2.1 x = 8) (hSo : E.2.2.1 w = 11) (hNo : E.2.2.2.1 w = 1) {p0 p1 : Int32} (hd : d ≤ 11) {v : Int32} (h : CWp E.2.2.1 E.2.2.2.1 d MX8_personData [.ref x, .int p0, .int p1] I J P (Qe (some (.int v)) I' J' P')) : MtW l E ML_personData hL_personData [.ref x, .int p0, .int p1, .ref w] I J P (some (.int 0)) I' (u2 J' w 0 v.toInt64) P' := by
  refine MtW.of hE ML_personData_ok (Nat.le_of_ble_eq_true rfl) (fun pg e s m args below meth c C htab hret hT => zt_seg (M := ML_personData) C ?_)
  show Gp E.2.2.1 E.2.2.2.1 true ML_personData _ 0 [some (.ref x), some (.int p0), some (.int p1), some (.ref w), none] [] I J P
  simp only [g_L_personData_0, g_L_personData_1, g_L_personData_2, g_L_personData_3, g_L_personData_4, true_and, and_true, rf_s, not_true_eq_false, not_false_eq_true, true_implies, false_implies, kl_i, kl_n, kl_l, kl_r, Option.toList, List.cons_append, List.nil_append, if_true, if_false, u2s, lt00, lt01, lt02, lt03, le10, le20, le30, ne10, ne20, ne30, eq00]
  refine gs_L_personData_5 ?_
  intro H locs ls hW hL
  refine sg_cE (M := MX8_personData) (As := [.int p0, .int p1]) (b := x) (pc2 := 8) rfl (some (.int v)) C hL (d := d) ⟨by show _ ≤ 18; omega, by show _ ≤ 1300; omega⟩ ⟨Nat.zero_le _, Nat.zero_le _⟩ dL_personData_5 rfl rfl rfl hSx (by rw [hSx]; decide) (Nat.le_of_ble_eq_true rfl) rfl h hW (zt_seg (M := ML_personData) C ?_)
  simp only [g_L_personData_8, g_L_personData_9, g_L_personData_10, g_L_personData_13, g_L_personData_15, g_L_personData_17, g_L_personData_19, g_L_personData_21, hSo, hNo, vi01, true_and, true_and, and_true, rf_s, not_true_eq_false, not_false_eq_true, true_implies, false_implies, kl_i, kl_n, kl_l, kl_r, Option.toList, List.cons_append, List.nil_append, if_true, if_false, u2s, lt00, lt01, lt02, lt03, le10, le20, le30, ne10, ne20, ne30, eq00]
  refine gs_L_personData_22 ?_
  intro H1 locs1 ls1 hW1 hL1
  exact sg_endW (M := ML_personData) C hret hW1 ⟨Nat.zero_le _, Nat.zero_le _⟩ dL_personData_22
theorem LW_personData_x1 (hE : tx_ok E) (hSx : E.2.2.1 x = 8) (hSo : E.2.2.1 w = 11) (hNo : E.2.2.2.1 w = 1) {p0 p1 : Int32} (hd : d ≤ 11) (h : MtX l E d MX8_personData [.ref x, .int p0, .int p1] I J P 0 I' J' P') : MtW l E ML_personData hL_personData [.ref x, .int p0, .int p1, .ref w] I J P (some (.int 1)) I' J' P' := by
  refine MtW.of hE ML_personData_ok (Nat.le_of_ble_eq_true rfl) (fun pg e s m args below meth c C htab hret hT => zt_seg (M := ML_personData) C ?_)
  show Gp E.2.2.1 E.2.2.2.1 true ML_personData _ 0 [some (.ref x), some (.int p0), some (.int p1), some (.ref w), none] [] I J P
  simp only [g_L_personData_0, g_L_personData_1, g_L_personData_2, g_L_personData_3, g_L_personData_4, true_and, and_true, rf_s, not_true_eq_false, not_false_eq_true, true_implies, false_implies, kl_i, kl_n, kl_l, kl_r, Option.toList, List.cons_append, List.nil_append, if_true, if_false, u2s, lt00, lt01, lt02, lt03, le10, le20, le30, ne10, ne20, ne30, eq00]
  refine gs_L_personData_5 ?_
  intro H locs ls hW hL
  refine sg_callC (M := MX8_personData) (As := [.int p0, .int p1]) (b := x) (d := d) C hT hL htab (pre := []) (suf := [(0, 10, 17, 13)]) (a0 := 0) (b0 := 10) (hpc := 13) (ct := 25) rfl (fun _ h => absurd h List.not_mem_nil) (by decide) ctl_0 (by decide) (by decide) ⟨by show _ ≤ 18; omega, by show _ ≤ 1300; omega, Nat.le_refl _, Nat.le_refl _⟩ dL_personData_5 rfl rfl rfl hSx (by rw [hSx]; decide) (Nat.le_of_ble_eq_true rfl) h hW (fun H1 locs1 q hW1 => seg_ok (M := ML_personData) C ?_ hW1 hL)
  simp only [g_L_personData_13, g_L_personData_15, true_and, and_true, rf_s, not_true_eq_false, not_false_eq_true, true_implies, false_implies, kl_i, kl_n, kl_l, kl_r, Option.toList, List.cons_append, List.nil_append, if_true, if_false, u2s, lt00, lt01, lt02, lt03, le10, le20, le30, ne10, ne20, ne30, eq00]
  refine gs_L_personData_16 ?_
  intro H2 locs2 ls2 hW2 hL2
  exact sg_endW (M := ML_personData) C hret hW2 ⟨Nat.le_refl _, Nat.le_refl _⟩ dL_personData_16
theorem LW_personData_x2 (hE : tx_ok E) (hSx : E.2.2.1 x = 8) (hSo : E.2.2.1 w = 11) (hNo : E.2.2.2.1 w = 1) {p0 p1 : Int32} (hd : d ≤ 11) (h : MtX l E d MX8_personData [.ref x, .int p0, .int p1] I J P 1 I' J' P') : MtW l E ML_personData hL_personData [.ref x, .int p0, .int p1, .ref w] I J P (some (.int 2)) I' J' P' := by
  refine MtW.of hE ML_personData_ok (Nat.le_of_ble_eq_true rfl) (fun pg e s m args below meth c C htab hret hT => zt_seg (M := ML_personData) C ?_)
  show Gp E.2.2.1 E.2.2.2.1 true ML_personData _ 0 [some (.ref x), some (.int p0), some (.int p1), some (.ref w), none] [] I J P
  simp only [g_L_personData_0, g_L_personData_1, g_L_personData_2, g_L_personData_3, g_L_personData_4, true_and, and_true, rf_s, not_true_eq_false, not_false_eq_true, true_implies, false_implies, kl_i, kl_n, kl_l, kl_r, Option.toList, List.cons_append, List.nil_append, if_true, if_false, u2s, lt00, lt01, lt02, lt03, le10, le20, le30, ne10, ne20, ne30, eq00]
  refine gs_L_personData_5 ?_
  intro H locs ls hW hL
  refine sg_callC (M := MX8_personData) (As := [.int p0, .int p1]) (b := x) (d := d) C hT hL htab (pre := [(0, 10, 13, 25)]) (suf := []) (a0 := 0) (b0 := 10) (hpc := 17) (ct := 13) rfl (List.forall_mem_cons.mpr ⟨⟨by decide, 0, ctl_0, List.mem_of_getElem? (i := 1) rfl⟩, fun _ h => absurd h List.not_mem_nil⟩) (by decide) ctl_1 (by decide) (by decide) ⟨by show _ ≤ 18; omega, by show _ ≤ 1300; omega, Nat.le_refl _, Nat.le_refl _⟩ dL_personData_5 rfl rfl rfl hSx (by rw [hSx]; decide) (Nat.le_of_ble_eq_true rfl) h hW (fun H1 locs1 q hW1 => seg_ok (M := ML_personData) C ?_ hW1 hL)
  simp only [g_L_personData_17, g_L_personData_19, true_and, and_true, rf_s, not_true_eq_false, not_false_eq_true, true_implies, false_implies, kl_i, kl_n, kl_l, kl_r, Option.toList, List.cons_append, List.nil_append, if_true, if_false, u2s, lt00, lt01, lt02, lt03, le10, le20, le30, ne10, ne20, ne30, eq00]
  refine gs_L_personData_20 ?_
  intro H2 locs2 ls2 hW2 hL2
  exact sg_endW (M := ML_personData) C hret hW2 ⟨Nat.le_refl _, Nat.le_refl _⟩ dL_personData_20
theorem LW_marry_ok (hE : tx_ok E) (hSx : E.2.2.1 x = 8) {p0 p1 : Int32} (hd : d ≤ 11) (h : CWp E.2.2.1 E.2.2.2.1 d MX8_marry [.ref x, .int p0, .int p1] I J P (Qe none I' J' P')) : MtW l E ML_marry hL_marry [.ref x, .int p0, .int p1] I J P (some (.int 0)) I' J' P' := by
  refine MtW.of hE ML_marry_ok (Nat.le_of_ble_eq_true rfl) (fun pg e s m args below meth c C htab hret hT => zt_seg (M := ML_marry) C ?_)
  show Gp E.2.2.1 E.2.2.2.1 true ML_marry _ 0 [some (.ref x), some (.int p0), some (.int p1), none] [] I J P
  simp only [g_L_marry_0, g_L_marry_1, g_L_marry_2, true_and, and_true, rf_s, not_true_eq_false, not_false_eq_true, true_implies, false_implies, kl_i, kl_n, kl_l, kl_r, Option.toList, List.cons_append, List.nil_append, if_true, if_false, u2s, lt00, lt01, lt02, lt03, le10, le20, le30, ne10, ne20, ne30, eq00]
  refine gs_L_marry_3 ?_
  intro H locs ls hW hL
  refine sg_cE (M := MX8_marry) (As := [.int p0, .int p1]) (b := x) (pc2 := 6) rfl none C hL (d := d) ⟨by show _ ≤ 18; omega, by show _ ≤ 1300; omega⟩ ⟨Nat.zero_le _, Nat.zero_le _⟩ dL_marry_3 rfl rfl rfl hSx (by rw [hSx]; decide) (Nat.le_of_ble_eq_true rfl) rfl h hW (zt_seg (M := ML_marry) C ?_)
  simp only [g_L_marry_6, g_L_marry_9, g_L_marry_10, g_L_marry_12, g_L_marry_13, g_L_marry_15, g_L_marry_16, g_L_marry_18, true_and, and_true, rf_s, not_true_eq_false, not_false_eq_true, true_implies, false_implies, kl_i, kl_n, kl_l, kl_r, Option.toList, List.cons_append, List.nil_append, if_true, if_false, u2s, lt00, lt01, lt02, lt03, le10, le20, le30, ne10, ne20, ne30, eq00]
  refine gs_L_marry_19 ?_
  intro H1 locs1 ls1 hW1 hL1
  exact sg_endW (M := ML_marry) C hret hW1 ⟨Nat.zero_le _, Nat.zero_le _⟩ dL_marry_19
theorem LW_marry_x1 (hE : tx_ok E) (hSx : E.2.2.1 x = 8) {p0 p1 : Int32} (hd : d ≤ 11) (h : MtX l E d MX8_marry [.ref x, .int p0, .int p1] I J P 0 I' J' P') : MtW l E ML_marry hL_marry [.ref x, .int p0, .int p1] I J P (some (.int 1)) I' J' P' := by
  refine MtW.of hE ML_marry_ok (Nat.le_of_ble_eq_true rfl) (fun pg e s m args below meth c C htab hret hT => zt_seg (M := ML_marry) C ?_)
  show Gp E.2.2.1 E.2.2.2.1 true ML_marry _ 0 [some (.ref x), some (.int p0), some (.int p1), none] [] I J P
  simp only [g_L_marry_0, g_L_marry_1, g_L_marry_2, true_and, and_true, rf_s, not_true_eq_false, not_false_eq_true, true_implies, false_implies, kl_i, kl_n, kl_l, kl_r, Option.toList, List.cons_append, List.nil_append, if_true, if_false, u2s, lt00, lt01, lt02, lt03, le10, le20, le30, ne10, ne20, ne30, eq00]
  refine gs_L_marry_3 ?_
  intro H locs ls hW hL
  refine sg_callC (M := MX8_marry) (As := [.int p0, .int p1]) (b := x) (d := d) C hT hL htab (pre := []) (suf := [(0, 6, 12, 13), (0, 6, 15, 15)]) (a0 := 0) (b0 := 6) (hpc := 9) (ct := 25) rfl (fun _ h => absurd h List.not_mem_nil) (by decide) ctl_0 (by decide) (by decide) ⟨by show _ ≤ 18; omega, by show _ ≤ 1300; omega, Nat.le_refl _, Nat.le_refl _⟩ dL_marry_3 rfl rfl rfl hSx (by rw [hSx]; decide) (Nat.le_of_ble_eq_true rfl) h hW (fun H1 locs1 q hW1 => seg_ok (M := ML_marry) C ?_ hW1 hL)
  simp only [g_L_marry_9, g_L_marry_10, true_and, and_true, rf_s, not_true_eq_false, not_false_eq_true, true_implies, false_implies, kl_i, kl_n, kl_l, kl_r, Option.toList, List.cons_append, List.nil_append, if_true, if_false, u2s, lt00, lt01, lt02, lt03, le10, le20, le30, ne10, ne20, ne30, eq00]
  refine gs_L_marry_11 ?_
  intro H2 locs2 ls2 hW2 hL2
  exact sg_endW (M := ML_marry) C hret hW2 ⟨Nat.le_refl _, Nat.le_refl _⟩ dL_marry_11
theorem LW_marry_x2 (hE : tx_ok E) (hSx : E.2.2.1 x = 8) {p0 p1 : Int32} (hd : d ≤ 11) (h : MtX l E d MX8_marry [.ref x, .int p0, .int p1] I J P 1 I' J' P') : MtW l E ML_marry hL_marry [.ref x, .int p0, .int p1] I J P (some (.int 2)) I' J' P' := by
  refine MtW.of hE ML_marry_ok (Nat.le_of_ble_eq_true rfl) (fun pg e s m args below meth c C htab hret hT => zt_seg (M := ML_marry) C ?_)
  show Gp E.2.2.1 E.2.2.2.1 true ML_marry _ 0 [some (.ref x), some (.int p0), some (.int p1), none] [] I J P
  simp only [g_L_marry_0, g_L_marry_1, g_L_marry_2, true_and, and_true, rf_s, not_true_eq_false, not_false_eq_true, true_implies, false_implies, kl_i, kl_n, kl_l, kl_r, Option.toList, List.cons_append, List.nil_append, if_true, if_false, u2s, lt00, lt01, lt02, lt03, le10, le20, le30, ne10, ne20, ne30, eq00]
  refine gs_L_marry_3 ?_
  intro H locs ls hW hL
  refine sg_callC (M := MX8_marry) (As := [.int p0, .int p1]) (b := x) (d := d) C hT hL htab (pre := [(0, 6, 9, 25)]) (suf := [(0, 6, 15, 15)]) (a0 := 0) (b0 := 6) (hpc := 12) (ct := 13) rfl (List.forall_mem_cons.mpr ⟨⟨by decide, 0, ctl_0, List.mem_of_getElem? (i := 1) rfl⟩, fun _ h => absurd h List.not_mem_nil⟩) (by decide) ctl_1 (by decide) (by decide) ⟨by show _ ≤ 18; omega, by show _ ≤ 1300; omega, Nat.le_refl _, Nat.le_refl _⟩ dL_marry_3 rfl rfl rfl hSx (by rw [hSx]; decide) (Nat.le_of_ble_eq_true rfl) h hW (fun H1 locs1 q hW1 => seg_ok (M := ML_marry) C ?_ hW1 hL)
  simp only [g_L_marry_12, g_L_marry_13, true_and, and_true, rf_s, not_true_eq_false, not_false_eq_true, true_implies, false_implies, kl_i, kl_n, kl_l, kl_r, Option.toList, List.cons_append, List.nil_append, if_true, if_false, u2s, lt00, lt01, lt02, lt03, le10, le20, le30, ne10, ne20, ne30, eq00]
  refine gs_L_marry_14 ?_
  intro H2 locs2 ls2 hW2 hL2
  exact sg_endW (M := ML_marry) C hret hW2 ⟨Nat.le_refl _, Nat.le_refl _⟩ dL_marry_14
theorem LW_marry_x3 (hE : tx_ok E) (hSx : E.2.2.1 x = 8) {p0 p1 : Int32} (hd : d ≤ 11) (h : MtX l E d MX8_marry [.ref x, .int p0, .int p1] I J P 2 I' J' P') : MtW l E ML_marry hL_marry [.ref x, .int p0, .int p1] I J P (some (.int 3)) I' J' P' := by
  refine MtW.of hE ML_marry_ok (Nat.le_of_ble_eq_true rfl) (fun pg e s m args below meth c C htab hret hT => zt_seg (M := ML_marry) C ?_)
  show Gp E.2.2.1 E.2.2.2.1 true ML_marry _ 0 [some (.ref x), some (.int p0), some (.int p1), none] [] I J P
  simp only [g_L_marry_0, g_L_marry_1, g_L_marry_2, true_and, and_true, rf_s, not_true_eq_false, not_false_eq_true, true_implies, false_implies, kl_i, kl_n, kl_l, kl_r, Option.toList, List.cons_append, List.nil_append, if_true, if_false, u2s, lt00, lt01, lt02, lt03, le10, le20, le30, ne10, ne20, ne30, eq00]
  refine gs_L_marry_3 ?_
  intro H locs ls hW hL
  refine sg_callC (M := MX8_marry) (As := [.int p0, .int p1]) (b := x) (d := d) C hT hL htab (pre := [(0, 6, 9, 25), (0, 6, 12, 13)]) (suf := []) (a0 := 0) (b0 := 6) (hpc := 15) (ct := 15) rfl (List.forall_mem_cons.mpr ⟨⟨by decide, 0, ctl_0, List.mem_of_getElem? (i := 2) rfl⟩, List.forall_mem_cons.mpr ⟨⟨by decide, 1, ctl_1, List.mem_of_getElem? (i := 0) rfl⟩, fun _ h => absurd h List.not_mem_nil⟩⟩) (by decide) ctl_2 (by decide) (by decide) ⟨by show _ ≤ 18; omega, by show _ ≤ 1300; omega, Nat.le_refl _, Nat.le_refl _⟩ dL_marry_3 rfl rfl rfl hSx (by rw [hSx]; decide) (Nat.le_of_ble_eq_true rfl) h hW (fun H1 locs1 q hW1 => seg_ok (M := ML_marry) C ?_ hW1 hL)
  simp only [g_L_marry_15, g_L_marry_16, true_and, and_true, rf_s, not_true_eq_false, not_false_eq_true, true_implies, false_implies, kl_i, kl_n, kl_l, kl_r, Option.toList, List.cons_append, List.nil_append, if_true, if_false, u2s, lt00, lt01, lt02, lt03, le10, le20, le30, ne10, ne20, ne30, eq00]
  refine gs_L_marry_17 ?_
  intro H2 locs2 ls2 hW2 hL2
  exact sg_endW (M := ML_marry) C hret hW2 ⟨Nat.le_refl _, Nat.le_refl _⟩ dL_marry_17
theorem LW_part_ok (hE : tx_ok E) (hSx : E.2.2.1 x = 8) (hSo : E.2.2.1 w = 11) (hNo : E.2.2.2.1 w = 1) {p0 : Int32} (hd : d ≤ 11) {v : Int32} (h : CWp E.2.2.1 E.2.2.2.1 d MX8_part [.ref x, .int p0] I J P (Qe (some (.int v)) I' J' P')) : MtW l E ML_part hL_part [.ref x, .int p0, .ref w] I J P (some (.int 0)) I' (u2 J' w 0 v.toInt64) P' := by
  refine MtW.of hE ML_part_ok (Nat.le_of_ble_eq_true rfl) (fun pg e s m args below meth c C htab hret hT => zt_seg (M := ML_part) C ?_)
  show Gp E.2.2.1 E.2.2.2.1 true ML_part _ 0 [some (.ref x), some (.int p0), some (.ref w), none] [] I J P
  simp only [g_L_part_0, g_L_part_1, g_L_part_2, g_L_part_3, true_and, and_true, rf_s, not_true_eq_false, not_false_eq_true, true_implies, false_implies, kl_i, kl_n, kl_l, kl_r, Option.toList, List.cons_append, List.nil_append, if_true, if_false, u2s, lt00, lt01, lt02, lt03, le10, le20, le30, ne10, ne20, ne30, eq00]
  refine gs_L_part_4 ?_
  intro H locs ls hW hL
  refine sg_cE (M := MX8_part) (As := [.int p0]) (b := x) (pc2 := 7) rfl (some (.int v)) C hL (d := d) ⟨by show _ ≤ 18; omega, by show _ ≤ 1300; omega⟩ ⟨Nat.zero_le _, Nat.zero_le _⟩ dL_part_4 rfl rfl rfl hSx (by rw [hSx]; decide) (Nat.le_of_ble_eq_true rfl) rfl h hW (zt_seg (M := ML_part) C ?_)
  simp only [g_L_part_7, g_L_part_8, g_L_part_9, g_L_part_12, g_L_part_13, g_L_part_15, g_L_part_16, g_L_part_18, hSo, hNo, vi01, true_and, true_and, and_true, rf_s, not_true_eq_false, not_false_eq_true, true_implies, false_implies, kl_i, kl_n, kl_l, kl_r, Option.toList, List.cons_append, List.nil_append, if_true, if_false, u2s, lt00, lt01, lt02, lt03, le10, le20, le30, ne10, ne20, ne30, eq00]
  refine gs_L_part_19 ?_
  intro H1 locs1 ls1 hW1 hL1
  exact sg_endW (M := ML_part) C hret hW1 ⟨Nat.zero_le _, Nat.zero_le _⟩ dL_part_19
theorem LW_part_x1 (hE : tx_ok E) (hSx : E.2.2.1 x = 8) (hSo : E.2.2.1 w = 11) (hNo : E.2.2.2.1 w = 1) {p0 : Int32} (hd : d ≤ 11) (h : MtX l E d MX8_part [.ref x, .int p0] I J P 0 I' J' P') : MtW l E ML_part hL_part [.ref x, .int p0, .ref w] I J P (some (.int 1)) I' J' P' := by
  refine MtW.of hE ML_part_ok (Nat.le_of_ble_eq_true rfl) (fun pg e s m args below meth c C htab hret hT => zt_seg (M := ML_part) C ?_)
  show Gp E.2.2.1 E.2.2.2.1 true ML_part _ 0 [some (.ref x), some (.int p0), some (.ref w), none] [] I J P
  simp only [g_L_part_0, g_L_part_1, g_L_part_2, g_L_part_3, true_and, and_true, rf_s, not_true_eq_false, not_false_eq_true, true_implies, false_implies, kl_i, kl_n, kl_l, kl_r, Option.toList, List.cons_append, List.nil_append, if_true, if_false, u2s, lt00, lt01, lt02, lt03, le10, le20, le30, ne10, ne20, ne30, eq00]
  refine gs_L_part_4 ?_
  intro H locs ls hW hL
  refine sg_callC (M := MX8_part) (As := [.int p0]) (b := x) (d := d) C hT hL htab (pre := []) (suf := [(0, 9, 15, 56)]) (a0 := 0) (b0 := 9) (hpc := 12) (ct := 25) rfl (fun _ h => absurd h List.not_mem_nil) (by decide) ctl_0 (by decide) (by decide) ⟨by show _ ≤ 18; omega, by show _ ≤ 1300; omega, Nat.le_refl _, Nat.le_refl _⟩ dL_part_4 rfl rfl rfl hSx (by rw [hSx]; decide) (Nat.le_of_ble_eq_true rfl) h hW (fun H1 locs1 q hW1 => seg_ok (M := ML_part) C ?_ hW1 hL)
  simp only [g_L_part_12, g_L_part_13, true_and, and_true, rf_s, not_true_eq_false, not_false_eq_true, true_implies, false_implies, kl_i, kl_n, kl_l, kl_r, Option.toList, List.cons_append, List.nil_append, if_true, if_false, u2s, lt00, lt01, lt02, lt03, le10, le20, le30, ne10, ne20, ne30, eq00]
  refine gs_L_part_14 ?_
  intro H2 locs2 ls2 hW2 hL2
  exact sg_endW (M := ML_part) C hret hW2 ⟨Nat.le_refl _, Nat.le_refl _⟩ dL_part_14
theorem LW_part_x2 (hE : tx_ok E) (hSx : E.2.2.1 x = 8) (hSo : E.2.2.1 w = 11) (hNo : E.2.2.2.1 w = 1) {p0 : Int32} (hd : d ≤ 11) (h : MtX l E d MX8_part [.ref x, .int p0] I J P 3 I' J' P') : MtW l E ML_part hL_part [.ref x, .int p0, .ref w] I J P (some (.int 2)) I' J' P' := by
  refine MtW.of hE ML_part_ok (Nat.le_of_ble_eq_true rfl) (fun pg e s m args below meth c C htab hret hT => zt_seg (M := ML_part) C ?_)
  show Gp E.2.2.1 E.2.2.2.1 true ML_part _ 0 [some (.ref x), some (.int p0), some (.ref w), none] [] I J P
  simp only [g_L_part_0, g_L_part_1, g_L_part_2, g_L_part_3, true_and, and_true, rf_s, not_true_eq_false, not_false_eq_true, true_implies, false_implies, kl_i, kl_n, kl_l, kl_r, Option.toList, List.cons_append, List.nil_append, if_true, if_false, u2s, lt00, lt01, lt02, lt03, le10, le20, le30, ne10, ne20, ne30, eq00]
  refine gs_L_part_4 ?_
  intro H locs ls hW hL
  refine sg_callC (M := MX8_part) (As := [.int p0]) (b := x) (d := d) C hT hL htab (pre := [(0, 9, 12, 25)]) (suf := []) (a0 := 0) (b0 := 9) (hpc := 15) (ct := 56) rfl (List.forall_mem_cons.mpr ⟨⟨by decide, 0, ctl_0, List.mem_of_getElem? (i := 3) rfl⟩, fun _ h => absurd h List.not_mem_nil⟩) (by decide) ctl_3 (by decide) (by decide) ⟨by show _ ≤ 18; omega, by show _ ≤ 1300; omega, Nat.le_refl _, Nat.le_refl _⟩ dL_part_4 rfl rfl rfl hSx (by rw [hSx]; decide) (Nat.le_of_ble_eq_true rfl) h hW (fun H1 locs1 q hW1 => seg_ok (M := ML_part) C ?_ hW1 hL)
  simp only [g_L_part_15, g_L_part_16, true_and, and_true, rf_s, not_true_eq_false, not_false_eq_true, true_implies, false_implies, kl_i, kl_n, kl_l, kl_r, Option.toList, List.cons_append, List.nil_append, if_true, if_false, u2s, lt00, lt01, lt02, lt03, le10, le20, le30, ne10, ne20, ne30, eq00]
  refine gs_L_part_17 ?_
  intro H2 locs2 ls2 hW2 hL2
  exact sg_endW (M := ML_part) C hret hW2 ⟨Nat.le_refl _, Nat.le_refl _⟩ dL_part_17
theorem LW_partner_ok (hE : tx_ok E) (hSx : E.2.2.1 x = 8) (hSo : E.2.2.1 w = 11) (hNo : E.2.2.2.1 w = 1) {p0 : Int32} (hd : d ≤ 11) {v : Int32} (h : CWp E.2.2.1 E.2.2.2.1 d MX8_partner [.ref x, .int p0] I J P (Qe (some (.int v)) I' J' P')) : MtW l E ML_partner hL_partner [.ref x, .int p0, .ref w] I J P (some (.int 0)) I' (u2 J' w 0 v.toInt64) P' := by
  refine MtW.of hE ML_partner_ok (Nat.le_of_ble_eq_true rfl) (fun pg e s m args below meth c C htab hret hT => zt_seg (M := ML_partner) C ?_)
  show Gp E.2.2.1 E.2.2.2.1 true ML_partner _ 0 [some (.ref x), some (.int p0), some (.ref w), none] [] I J P
  simp only [g_L_partner_0, g_L_partner_1, g_L_partner_2, g_L_partner_3, true_and, and_true, rf_s, not_true_eq_false, not_false_eq_true, true_implies, false_implies, kl_i, kl_n, kl_l, kl_r, Option.toList, List.cons_append, List.nil_append, if_true, if_false, u2s, lt00, lt01, lt02, lt03, le10, le20, le30, ne10, ne20, ne30, eq00]
  refine gs_L_partner_4 ?_
  intro H locs ls hW hL
  refine sg_cE (M := MX8_partner) (As := [.int p0]) (b := x) (pc2 := 7) rfl (some (.int v)) C hL (d := d) ⟨by show _ ≤ 18; omega, by show _ ≤ 1300; omega⟩ ⟨Nat.zero_le _, Nat.zero_le _⟩ dL_partner_4 rfl rfl rfl hSx (by rw [hSx]; decide) (Nat.le_of_ble_eq_true rfl) rfl h hW (zt_seg (M := ML_partner) C ?_)
  simp only [g_L_partner_7, g_L_partner_8, g_L_partner_9, g_L_partner_12, g_L_partner_13, g_L_partner_15, g_L_partner_16, g_L_partner_18, hSo, hNo, vi01, true_and, true_and, and_true, rf_s, not_true_eq_false, not_false_eq_true, true_implies, false_implies, kl_i, kl_n, kl_l, kl_r, Option.toList, List.cons_append, List.nil_append, if_true, if_false, u2s, lt00, lt01, lt02, lt03, le10, le20, le30, ne10, ne20, ne30, eq00]
  refine gs_L_partner_19 ?_
  intro H1 locs1 ls1 hW1 hL1
  exact sg_endW (M := ML_partner) C hret hW1 ⟨Nat.zero_le _, Nat.zero_le _⟩ dL_partner_19
theorem LW_partner_x1 (hE : tx_ok E) (hSx : E.2.2.1 x = 8) (hSo : E.2.2.1 w = 11) (hNo : E.2.2.2.1 w = 1) {p0 : Int32} (hd : d ≤ 11) (h : MtX l E d MX8_partner [.ref x, .int p0] I J P 0 I' J' P') : MtW l E ML_partner hL_partner [.ref x, .int p0, .ref w] I J P (some (.int 1)) I' J' P' := by
  refine MtW.of hE ML_partner_ok (Nat.le_of_ble_eq_true rfl) (fun pg e s m args below meth c C htab hret hT => zt_seg (M := ML_partner) C ?_)
  show Gp E.2.2.1 E.2.2.2.1 true ML_partner _ 0 [some (.ref x), some (.int p0), some (.ref w), none] [] I J P
  simp only [g_L_partner_0, g_L_partner_1, g_L_partner_2, g_L_partner_3, true_and, and_true, rf_s, not_true_eq_false, not_false_eq_true, true_implies, false_implies, kl_i, kl_n, kl_l, kl_r, Option.toList, List.cons_append, List.nil_append, if_true, if_false, u2s, lt00, lt01, lt02, lt03, le10, le20, le30, ne10, ne20, ne30, eq00]
  refine gs_L_partner_4 ?_
  intro H locs ls hW hL
  refine sg_callC (M := MX8_partner) (As := [.int p0]) (b := x) (d := d) C hT hL htab (pre := []) (suf := [(0, 9, 15, 56)]) (a0 := 0) (b0 := 9) (hpc := 12) (ct := 25) rfl (fun _ h => absurd h List.not_mem_nil) (by decide) ctl_0 (by decide) (by decide) ⟨by show _ ≤ 18; omega, by show _ ≤ 1300; omega, Nat.le_refl _, Nat.le_refl _⟩ dL_partner_4 rfl rfl rfl hSx (by rw [hSx]; decide) (Nat.le_of_ble_eq_true rfl) h hW (fun H1 locs1 q hW1 => seg_ok (M := ML_partner) C ?_ hW1 hL)
  simp only [g_L_partner_12, g_L_partner_13, true_and, and_true, rf_s, not_true_eq_false, not_false_eq_true, true_implies, false_implies, kl_i, kl_n, kl_l, kl_r, Option.toList, List.cons_append, List.nil_append, if_true, if_false, u2s, lt00, lt01, lt02, lt03, le10, le20, le30, ne10, ne20, ne30, eq00]
  refine gs_L_partner_14 ?_
  intro H2 locs2 ls2 hW2 hL2
  exact sg_endW (M := ML_partner) C hret hW2 ⟨Nat.le_refl _, Nat.le_refl _⟩ dL_partner_14
theorem LW_partner_x2 (hE : tx_ok E) (hSx : E.2.2.1 x = 8) (hSo : E.2.2.1 w = 11) (hNo : E.2.2.2.1 w = 1) {p0 : Int32} (hd : d ≤ 11) (h : MtX l E d MX8_partner [.ref x, .int p0] I J P 3 I' J' P') : MtW l E ML_partner hL_partner [.ref x, .int p0, .ref w] I J P (some (.int 2)) I' J' P' := by
  refine MtW.of hE ML_partner_ok (Nat.le_of_ble_eq_true rfl) (fun pg e s m args below meth c C htab hret hT => zt_seg (M := ML_partner) C ?_)
  show Gp E.2.2.1 E.2.2.2.1 true ML_partner _ 0 [some (.ref x), some (.int p0), some (.ref w), none] [] I J P
  simp only [g_L_partner_0, g_L_partner_1, g_L_partner_2, g_L_partner_3, true_and, and_true, rf_s, not_true_eq_false, not_false_eq_true, true_implies, false_implies, kl_i, kl_n, kl_l, kl_r, Option.toList, List.cons_append, List.nil_append, if_true, if_false, u2s, lt00, lt01, lt02, lt03, le10, le20, le30, ne10, ne20, ne30, eq00]
  refine gs_L_partner_4 ?_
  intro H locs ls hW hL
  refine sg_callC (M := MX8_partner) (As := [.int p0]) (b := x) (d := d) C hT hL htab (pre := [(0, 9, 12, 25)]) (suf := []) (a0 := 0) (b0 := 9) (hpc := 15) (ct := 56) rfl (List.forall_mem_cons.mpr ⟨⟨by decide, 0, ctl_0, List.mem_of_getElem? (i := 3) rfl⟩, fun _ h => absurd h List.not_mem_nil⟩) (by decide) ctl_3 (by decide) (by decide) ⟨by show _ ≤ 18; omega, by show _ ≤ 1300; omega, Nat.le_refl _, Nat.le_refl _⟩ dL_partner_4 rfl rfl rfl hSx (by rw [hSx]; decide) (Nat.le_of_ble_eq_true rfl) h hW (fun H1 locs1 q hW1 => seg_ok (M := ML_partner) C ?_ hW1 hL)
  simp only [g_L_partner_15, g_L_partner_16, true_and, and_true, rf_s, not_true_eq_false, not_false_eq_true, true_implies, false_implies, kl_i, kl_n, kl_l, kl_r, Option.toList, List.cons_append, List.nil_append, if_true, if_false, u2s, lt00, lt01, lt02, lt03, le10, le20, le30, ne10, ne20, ne30, eq00]
  refine gs_L_partner_17 ?_
  intro H2 locs2 ls2 hW2 hL2
  exact sg_endW (M := ML_partner) C hret hW2 ⟨Nat.le_refl _, Nat.le_refl _⟩ dL_partner_17
theorem LW_tax_ok (hE : tx_ok E) (hSx : E.2.2.1 x = 8) (hSo : E.2.2.1 w = 11) (hNo : E.2.2.2.1 w = 1) {p0 : Int32} (hd : d ≤ 11) {v : Int64} (h : CWp E.2.2.1 E.2.2.2.1 d MX8_tax [.ref x, .int p0] I J P (Qe (some (.long v)) I' J' P')) : MtW l E ML_tax hL_tax [.ref x, .int p0, .ref w] I J P (some (.int 0)) I' (u2 J' w 0 v) P' := by
  refine MtW.of hE ML_tax_ok (Nat.le_of_ble_eq_true rfl) (fun pg e s m args below meth c C htab hret hT => zt_seg (M := ML_tax) C ?_)
  show Gp E.2.2.1 E.2.2.2.1 true ML_tax _ 0 [some (.ref x), some (.int p0), some (.ref w), none] [] I J P
  simp only [g_L_tax_0, g_L_tax_1, g_L_tax_2, g_L_tax_3, true_and, and_true, rf_s, not_true_eq_false, not_false_eq_true, true_implies, false_implies, kl_i, kl_n, kl_l, kl_r, Option.toList, List.cons_append, List.nil_append, if_true, if_false, u2s, lt00, lt01, lt02, lt03, le10, le20, le30, ne10, ne20, ne30, eq00]
  refine gs_L_tax_4 ?_
  intro H locs ls hW hL
  refine sg_cE (M := MX8_tax) (As := [.int p0]) (b := x) (pc2 := 7) rfl (some (.long v)) C hL (d := d) ⟨by show _ ≤ 18; omega, by show _ ≤ 1300; omega⟩ ⟨Nat.zero_le _, Nat.zero_le _⟩ dL_tax_4 rfl rfl rfl hSx (by rw [hSx]; decide) (Nat.le_of_ble_eq_true rfl) rfl h hW (zt_seg (M := ML_tax) C ?_)
  simp only [g_L_tax_7, g_L_tax_8, g_L_tax_11, g_L_tax_12, g_L_tax_14, hSo, hNo, vi01, true_and, true_and, and_true, rf_s, not_true_eq_false, not_false_eq_true, true_implies, false_implies, kl_i, kl_n, kl_l, kl_r, Option.toList, List.cons_append, List.nil_append, if_true, if_false, u2s, lt00, lt01, lt02, lt03, le10, le20, le30, ne10, ne20, ne30, eq00]
  refine gs_L_tax_15 ?_
  intro H1 locs1 ls1 hW1 hL1
  exact sg_endW (M := ML_tax) C hret hW1 ⟨Nat.zero_le _, Nat.zero_le _⟩ dL_tax_15
theorem LW_tax_x1 (hE : tx_ok E) (hSx : E.2.2.1 x = 8) (hSo : E.2.2.1 w = 11) (hNo : E.2.2.2.1 w = 1) {p0 : Int32} (hd : d ≤ 11) (h : MtX l E d MX8_tax [.ref x, .int p0] I J P 0 I' J' P') : MtW l E ML_tax hL_tax [.ref x, .int p0, .ref w] I J P (some (.int 1)) I' J' P' := by
  refine MtW.of hE ML_tax_ok (Nat.le_of_ble_eq_true rfl) (fun pg e s m args below meth c C htab hret hT => zt_seg (M := ML_tax) C ?_)
  show Gp E.2.2.1 E.2.2.2.1 true ML_tax _ 0 [some (.ref x), some (.int p0), some (.ref w), none] [] I J P
  simp only [g_L_tax_0, g_L_tax_1, g_L_tax_2, g_L_tax_3, true_and, and_true, rf_s, not_true_eq_false, not_false_eq_true, true_implies, false_implies, kl_i, kl_n, kl_l, kl_r, Option.toList, List.cons_append, List.nil_append, if_true, if_false, u2s, lt00, lt01, lt02, lt03, le10, le20, le30, ne10, ne20, ne30, eq00]
  refine gs_L_tax_4 ?_
  intro H locs ls hW hL
  refine sg_callC (M := MX8_tax) (As := [.int p0]) (b := x) (d := d) C hT hL htab (pre := []) (suf := []) (a0 := 0) (b0 := 8) (hpc := 11) (ct := 25) rfl (fun _ h => absurd h List.not_mem_nil) (by decide) ctl_0 (by decide) (by decide) ⟨by show _ ≤ 18; omega, by show _ ≤ 1300; omega, Nat.le_refl _, Nat.le_refl _⟩ dL_tax_4 rfl rfl rfl hSx (by rw [hSx]; decide) (Nat.le_of_ble_eq_true rfl) h hW (fun H1 locs1 q hW1 => seg_ok (M := ML_tax) C ?_ hW1 hL)
  simp only [g_L_tax_11, g_L_tax_12, true_and, and_true, rf_s, not_true_eq_false, not_false_eq_true, true_implies, false_implies, kl_i, kl_n, kl_l, kl_r, Option.toList, List.cons_append, List.nil_append, if_true, if_false, u2s, lt00, lt01, lt02, lt03, le10, le20, le30, ne10, ne20, ne30, eq00]
  refine gs_L_tax_13 ?_
  intro H2 locs2 ls2 hW2 hL2
  exact sg_endW (M := ML_tax) C hret hW2 ⟨Nat.le_refl _, Nat.le_refl _⟩ dL_tax_13
theorem LW_taxPart_ok (hE : tx_ok E) (hSx : E.2.2.1 x = 8) (hSo : E.2.2.1 w = 11) (hNo : E.2.2.2.1 w = 1) {p0 p1 : Int32} (hd : d ≤ 11) {v : Int64} (h : CWp E.2.2.1 E.2.2.2.1 d MX8_taxPart [.ref x, .int p0, .int p1] I J P (Qe (some (.long v)) I' J' P')) : MtW l E ML_taxPart hL_taxPart [.ref x, .int p0, .int p1, .ref w] I J P (some (.int 0)) I' (u2 J' w 0 v) P' := by
  refine MtW.of hE ML_taxPart_ok (Nat.le_of_ble_eq_true rfl) (fun pg e s m args below meth c C htab hret hT => zt_seg (M := ML_taxPart) C ?_)
  show Gp E.2.2.1 E.2.2.2.1 true ML_taxPart _ 0 [some (.ref x), some (.int p0), some (.int p1), some (.ref w), none] [] I J P
  simp only [g_L_taxPart_0, g_L_taxPart_1, g_L_taxPart_2, g_L_taxPart_3, g_L_taxPart_4, true_and, and_true, rf_s, not_true_eq_false, not_false_eq_true, true_implies, false_implies, kl_i, kl_n, kl_l, kl_r, Option.toList, List.cons_append, List.nil_append, if_true, if_false, u2s, lt00, lt01, lt02, lt03, le10, le20, le30, ne10, ne20, ne30, eq00]
  refine gs_L_taxPart_5 ?_
  intro H locs ls hW hL
  refine sg_cE (M := MX8_taxPart) (As := [.int p0, .int p1]) (b := x) (pc2 := 8) rfl (some (.long v)) C hL (d := d) ⟨by show _ ≤ 18; omega, by show _ ≤ 1300; omega⟩ ⟨Nat.zero_le _, Nat.zero_le _⟩ dL_taxPart_5 rfl rfl rfl hSx (by rw [hSx]; decide) (Nat.le_of_ble_eq_true rfl) rfl h hW (zt_seg (M := ML_taxPart) C ?_)
  simp only [g_L_taxPart_8, g_L_taxPart_9, g_L_taxPart_12, g_L_taxPart_14, g_L_taxPart_16, g_L_taxPart_18, g_L_taxPart_20, hSo, hNo, vi01, true_and, true_and, and_true, rf_s, not_true_eq_false, not_false_eq_true, true_implies, false_implies, kl_i, kl_n, kl_l, kl_r, Option.toList, List.cons_append, List.nil_append, if_true, if_false, u2s, lt00, lt01, lt02, lt03, le10, le20, le30, ne10, ne20, ne30, eq00]
  refine gs_L_taxPart_21 ?_
  intro H1 locs1 ls1 hW1 hL1
  exact sg_endW (M := ML_taxPart) C hret hW1 ⟨Nat.zero_le _, Nat.zero_le _⟩ dL_taxPart_21
theorem LW_taxPart_x1 (hE : tx_ok E) (hSx : E.2.2.1 x = 8) (hSo : E.2.2.1 w = 11) (hNo : E.2.2.2.1 w = 1) {p0 p1 : Int32} (hd : d ≤ 11) (h : MtX l E d MX8_taxPart [.ref x, .int p0, .int p1] I J P 0 I' J' P') : MtW l E ML_taxPart hL_taxPart [.ref x, .int p0, .int p1, .ref w] I J P (some (.int 1)) I' J' P' := by
  refine MtW.of hE ML_taxPart_ok (Nat.le_of_ble_eq_true rfl) (fun pg e s m args below meth c C htab hret hT => zt_seg (M := ML_taxPart) C ?_)
  show Gp E.2.2.1 E.2.2.2.1 true ML_taxPart _ 0 [some (.ref x), some (.int p0), some (.int p1), some (.ref w), none] [] I J P
  simp only [g_L_taxPart_0, g_L_taxPart_1, g_L_taxPart_2, g_L_taxPart_3, g_L_taxPart_4, true_and, and_true, rf_s, not_true_eq_false, not_false_eq_true, true_implies, false_implies, kl_i, kl_n, kl_l, kl_r, Option.toList, List.cons_append, List.nil_append, if_true, if_false, u2s, lt00, lt01, lt02, lt03, le10, le20, le30, ne10, ne20, ne30, eq00]
  refine gs_L_taxPart_5 ?_
  intro H locs ls hW hL
  refine sg_callC (M := MX8_taxPart) (As := [.int p0, .int p1]) (b := x) (d := d) C hT hL htab (pre := []) (suf := [(0, 9, 16, 13)]) (a0 := 0) (b0 := 9) (hpc := 12) (ct := 25) rfl (fun _ h => absurd h List.not_mem_nil) (by decide) ctl_0 (by decide) (by decide) ⟨by show _ ≤ 18; omega, by show _ ≤ 1300; omega, Nat.le_refl _, Nat.le_refl _⟩ dL_taxPart_5 rfl rfl rfl hSx (by rw [hSx]; decide) (Nat.le_of_ble_eq_true rfl) h hW (fun H1 locs1 q hW1 => seg_ok (M := ML_taxPart) C ?_ hW1 hL)
  simp only [g_L_taxPart_12, g_L_taxPart_14, true_and, and_true, rf_s, not_true_eq_false, not_false_eq_true, true_implies, false_implies, kl_i, kl_n, kl_l, kl_r, Option.toList, List.cons_append, List.nil_append, if_true, if_false, u2s, lt00, lt01, lt02, lt03, le10, le20, le30, ne10, ne20, ne30, eq00]
  refine gs_L_taxPart_15 ?_
  intro H2 locs2 ls2 hW2 hL2
  exact sg_endW (M := ML_taxPart) C hret hW2 ⟨Nat.le_refl _, Nat.le_refl _⟩ dL_taxPart_15
theorem LW_taxPart_x2 (hE : tx_ok E) (hSx : E.2.2.1 x = 8) (hSo : E.2.2.1 w = 11) (hNo : E.2.2.2.1 w = 1) {p0 p1 : Int32} (hd : d ≤ 11) (h : MtX l E d MX8_taxPart [.ref x, .int p0, .int p1] I J P 1 I' J' P') : MtW l E ML_taxPart hL_taxPart [.ref x, .int p0, .int p1, .ref w] I J P (some (.int 2)) I' J' P' := by
  refine MtW.of hE ML_taxPart_ok (Nat.le_of_ble_eq_true rfl) (fun pg e s m args below meth c C htab hret hT => zt_seg (M := ML_taxPart) C ?_)
  show Gp E.2.2.1 E.2.2.2.1 true ML_taxPart _ 0 [some (.ref x), some (.int p0), some (.int p1), some (.ref w), none] [] I J P
  simp only [g_L_taxPart_0, g_L_taxPart_1, g_L_taxPart_2, g_L_taxPart_3, g_L_taxPart_4, true_and, and_true, rf_s, not_true_eq_false, not_false_eq_true, true_implies, false_implies, kl_i, kl_n, kl_l, kl_r, Option.toList, List.cons_append, List.nil_append, if_true, if_false, u2s, lt00, lt01, lt02, lt03, le10, le20, le30, ne10, ne20, ne30, eq00]
  refine gs_L_taxPart_5 ?_
  intro H locs ls hW hL
  refine sg_callC (M := MX8_taxPart) (As := [.int p0, .int p1]) (b := x) (d := d) C hT hL htab (pre := [(0, 9, 12, 25)]) (suf := []) (a0 := 0) (b0 := 9) (hpc := 16) (ct := 13) rfl (List.forall_mem_cons.mpr ⟨⟨by decide, 0, ctl_0, List.mem_of_getElem? (i := 1) rfl⟩, fun _ h => absurd h List.not_mem_nil⟩) (by decide) ctl_1 (by decide) (by decide) ⟨by show _ ≤ 18; omega, by show _ ≤ 1300; omega, Nat.le_refl _, Nat.le_refl _⟩ dL_taxPart_5 rfl rfl rfl hSx (by rw [hSx]; decide) (Nat.le_of_ble_eq_true rfl) h hW (fun H1 locs1 q hW1 => seg_ok (M := ML_taxPart) C ?_ hW1 hL)
  simp only [g_L_taxPart_16, g_L_taxPart_18, true_and, and_true, rf_s, not_true_eq_false, not_false_eq_true, true_implies, false_implies, kl_i, kl_n, kl_l, kl_r, Option.toList, List.cons_append, List.nil_append, if_true, if_false, u2s, lt00, lt01, lt02, lt03, le10, le20, le30, ne10, ne20, ne30, eq00]
  refine gs_L_taxPart_19 ?_
  intro H2 locs2 ls2 hW2 hL2
  exact sg_endW (M := ML_taxPart) C hret hW2 ⟨Nat.le_refl _, Nat.le_refl _⟩ dL_taxPart_19
theorem LW_creditPart_ok (hE : tx_ok E) (hSx : E.2.2.1 x = 8) (hSo : E.2.2.1 w = 11) (hNo : E.2.2.2.1 w = 1) {p0 p1 p2 : Int32} (hd : d ≤ 11) {v : Int64} (h : CWp E.2.2.1 E.2.2.2.1 d MX8_creditPart [.ref x, .int p0, .int p1, .int p2] I J P (Qe (some (.long v)) I' J' P')) : MtW l E ML_creditPart hL_creditPart [.ref x, .int p0, .int p1, .int p2, .ref w] I J P (some (.int 0)) I' (u2 J' w 0 v) P' := by
  refine MtW.of hE ML_creditPart_ok (Nat.le_of_ble_eq_true rfl) (fun pg e s m args below meth c C htab hret hT => zt_seg (M := ML_creditPart) C ?_)
  show Gp E.2.2.1 E.2.2.2.1 true ML_creditPart _ 0 [some (.ref x), some (.int p0), some (.int p1), some (.int p2), some (.ref w), none] [] I J P
  simp only [g_L_creditPart_0, g_L_creditPart_2, g_L_creditPart_3, g_L_creditPart_4, g_L_creditPart_5, g_L_creditPart_6, true_and, and_true, rf_s, not_true_eq_false, not_false_eq_true, true_implies, false_implies, kl_i, kl_n, kl_l, kl_r, Option.toList, List.cons_append, List.nil_append, if_true, if_false, u2s, lt00, lt01, lt02, lt03, le10, le20, le30, ne10, ne20, ne30, eq00]
  refine gs_L_creditPart_7 ?_
  intro H locs ls hW hL
  refine sg_cE (M := MX8_creditPart) (As := [.int p0, .int p1, .int p2]) (b := x) (pc2 := 10) rfl (some (.long v)) C hL (d := d) ⟨by show _ ≤ 18; omega, by show _ ≤ 1300; omega⟩ ⟨Nat.zero_le _, Nat.zero_le _⟩ dL_creditPart_7 rfl rfl rfl hSx (by rw [hSx]; decide) (Nat.le_of_ble_eq_true rfl) rfl h hW (zt_seg (M := ML_creditPart) C ?_)
  simp only [g_L_creditPart_10, g_L_creditPart_11, g_L_creditPart_14, g_L_creditPart_16, g_L_creditPart_18, g_L_creditPart_20, g_L_creditPart_22, hSo, hNo, vi01, true_and, true_and, and_true, rf_s, not_true_eq_false, not_false_eq_true, true_implies, false_implies, kl_i, kl_n, kl_l, kl_r, Option.toList, List.cons_append, List.nil_append, if_true, if_false, u2s, lt00, lt01, lt02, lt03, le10, le20, le30, ne10, ne20, ne30, eq00]
  refine gs_L_creditPart_23 ?_
  intro H1 locs1 ls1 hW1 hL1
  exact sg_endW (M := ML_creditPart) C hret hW1 ⟨Nat.zero_le _, Nat.zero_le _⟩ dL_creditPart_23
theorem LW_creditPart_x1 (hE : tx_ok E) (hSx : E.2.2.1 x = 8) (hSo : E.2.2.1 w = 11) (hNo : E.2.2.2.1 w = 1) {p0 p1 p2 : Int32} (hd : d ≤ 11) (h : MtX l E d MX8_creditPart [.ref x, .int p0, .int p1, .int p2] I J P 0 I' J' P') : MtW l E ML_creditPart hL_creditPart [.ref x, .int p0, .int p1, .int p2, .ref w] I J P (some (.int 1)) I' J' P' := by
  refine MtW.of hE ML_creditPart_ok (Nat.le_of_ble_eq_true rfl) (fun pg e s m args below meth c C htab hret hT => zt_seg (M := ML_creditPart) C ?_)
  show Gp E.2.2.1 E.2.2.2.1 true ML_creditPart _ 0 [some (.ref x), some (.int p0), some (.int p1), some (.int p2), some (.ref w), none] [] I J P
  simp only [g_L_creditPart_0, g_L_creditPart_2, g_L_creditPart_3, g_L_creditPart_4, g_L_creditPart_5, g_L_creditPart_6, true_and, and_true, rf_s, not_true_eq_false, not_false_eq_true, true_implies, false_implies, kl_i, kl_n, kl_l, kl_r, Option.toList, List.cons_append, List.nil_append, if_true, if_false, u2s, lt00, lt01, lt02, lt03, le10, le20, le30, ne10, ne20, ne30, eq00]
  refine gs_L_creditPart_7 ?_
  intro H locs ls hW hL
  refine sg_callC (M := MX8_creditPart) (As := [.int p0, .int p1, .int p2]) (b := x) (d := d) C hT hL htab (pre := []) (suf := [(0, 11, 18, 13)]) (a0 := 0) (b0 := 11) (hpc := 14) (ct := 25) rfl (fun _ h => absurd h List.not_mem_nil) (by decide) ctl_0 (by decide) (by decide) ⟨by show _ ≤ 18; omega, by show _ ≤ 1300; omega, Nat.le_refl _, Nat.le_refl _⟩ dL_creditPart_7 rfl rfl rfl hSx (by rw [hSx]; decide) (Nat.le_of_ble_eq_true rfl) h hW (fun H1 locs1 q hW1 => seg_ok (M := ML_creditPart) C ?_ hW1 hL)
  simp only [g_L_creditPart_14, g_L_creditPart_16, true_and, and_true, rf_s, not_true_eq_false, not_false_eq_true, true_implies, false_implies, kl_i, kl_n, kl_l, kl_r, Option.toList, List.cons_append, List.nil_append, if_true, if_false, u2s, lt00, lt01, lt02, lt03, le10, le20, le30, ne10, ne20, ne30, eq00]
  refine gs_L_creditPart_17 ?_
  intro H2 locs2 ls2 hW2 hL2
  exact sg_endW (M := ML_creditPart) C hret hW2 ⟨Nat.le_refl _, Nat.le_refl _⟩ dL_creditPart_17
theorem LW_creditPart_x2 (hE : tx_ok E) (hSx : E.2.2.1 x = 8) (hSo : E.2.2.1 w = 11) (hNo : E.2.2.2.1 w = 1) {p0 p1 p2 : Int32} (hd : d ≤ 11) (h : MtX l E d MX8_creditPart [.ref x, .int p0, .int p1, .int p2] I J P 1 I' J' P') : MtW l E ML_creditPart hL_creditPart [.ref x, .int p0, .int p1, .int p2, .ref w] I J P (some (.int 2)) I' J' P' := by
  refine MtW.of hE ML_creditPart_ok (Nat.le_of_ble_eq_true rfl) (fun pg e s m args below meth c C htab hret hT => zt_seg (M := ML_creditPart) C ?_)
  show Gp E.2.2.1 E.2.2.2.1 true ML_creditPart _ 0 [some (.ref x), some (.int p0), some (.int p1), some (.int p2), some (.ref w), none] [] I J P
  simp only [g_L_creditPart_0, g_L_creditPart_2, g_L_creditPart_3, g_L_creditPart_4, g_L_creditPart_5, g_L_creditPart_6, true_and, and_true, rf_s, not_true_eq_false, not_false_eq_true, true_implies, false_implies, kl_i, kl_n, kl_l, kl_r, Option.toList, List.cons_append, List.nil_append, if_true, if_false, u2s, lt00, lt01, lt02, lt03, le10, le20, le30, ne10, ne20, ne30, eq00]
  refine gs_L_creditPart_7 ?_
  intro H locs ls hW hL
  refine sg_callC (M := MX8_creditPart) (As := [.int p0, .int p1, .int p2]) (b := x) (d := d) C hT hL htab (pre := [(0, 11, 14, 25)]) (suf := []) (a0 := 0) (b0 := 11) (hpc := 18) (ct := 13) rfl (List.forall_mem_cons.mpr ⟨⟨by decide, 0, ctl_0, List.mem_of_getElem? (i := 1) rfl⟩, fun _ h => absurd h List.not_mem_nil⟩) (by decide) ctl_1 (by decide) (by decide) ⟨by show _ ≤ 18; omega, by show _ ≤ 1300; omega, Nat.le_refl _, Nat.le_refl _⟩ dL_creditPart_7 rfl rfl rfl hSx (by rw [hSx]; decide) (Nat.le_of_ble_eq_true rfl) h hW (fun H1 locs1 q hW1 => seg_ok (M := ML_creditPart) C ?_ hW1 hL)
  simp only [g_L_creditPart_18, g_L_creditPart_20, true_and, and_true, rf_s, not_true_eq_false, not_false_eq_true, true_implies, false_implies, kl_i, kl_n, kl_l, kl_r, Option.toList, List.cons_append, List.nil_append, if_true, if_false, u2s, lt00, lt01, lt02, lt03, le10, le20, le30, ne10, ne20, ne30, eq00]
  refine gs_L_creditPart_21 ?_
  intro H2 locs2 ls2 hW2 hL2
  exact sg_endW (M := ML_creditPart) C hret hW2 ⟨Nat.le_refl _, Nat.le_refl _⟩ dL_creditPart_21
theorem LW_carried_ok (hE : tx_ok E) (hSx : E.2.2.1 x = 8) (hSo : E.2.2.1 w = 11) (hNo : E.2.2.2.1 w = 1) {p0 p1 : Int32} (hd : d ≤ 11) {v : Int64} (h : CWp E.2.2.1 E.2.2.2.1 d MX8_carried [.ref x, .int p0, .int p1] I J P (Qe (some (.long v)) I' J' P')) : MtW l E ML_carried hL_carried [.ref x, .int p0, .int p1, .ref w] I J P (some (.int 0)) I' (u2 J' w 0 v) P' := by
  refine MtW.of hE ML_carried_ok (Nat.le_of_ble_eq_true rfl) (fun pg e s m args below meth c C htab hret hT => zt_seg (M := ML_carried) C ?_)
  show Gp E.2.2.1 E.2.2.2.1 true ML_carried _ 0 [some (.ref x), some (.int p0), some (.int p1), some (.ref w), none] [] I J P
  simp only [g_L_carried_0, g_L_carried_1, g_L_carried_2, g_L_carried_3, g_L_carried_4, true_and, and_true, rf_s, not_true_eq_false, not_false_eq_true, true_implies, false_implies, kl_i, kl_n, kl_l, kl_r, Option.toList, List.cons_append, List.nil_append, if_true, if_false, u2s, lt00, lt01, lt02, lt03, le10, le20, le30, ne10, ne20, ne30, eq00]
  refine gs_L_carried_5 ?_
  intro H locs ls hW hL
  refine sg_cE (M := MX8_carried) (As := [.int p0, .int p1]) (b := x) (pc2 := 8) rfl (some (.long v)) C hL (d := d) ⟨by show _ ≤ 18; omega, by show _ ≤ 1300; omega⟩ ⟨Nat.zero_le _, Nat.zero_le _⟩ dL_carried_5 rfl rfl rfl hSx (by rw [hSx]; decide) (Nat.le_of_ble_eq_true rfl) rfl h hW (zt_seg (M := ML_carried) C ?_)
  simp only [g_L_carried_8, g_L_carried_9, g_L_carried_12, g_L_carried_14, g_L_carried_16, hSo, hNo, vi01, true_and, true_and, and_true, rf_s, not_true_eq_false, not_false_eq_true, true_implies, false_implies, kl_i, kl_n, kl_l, kl_r, Option.toList, List.cons_append, List.nil_append, if_true, if_false, u2s, lt00, lt01, lt02, lt03, le10, le20, le30, ne10, ne20, ne30, eq00]
  refine gs_L_carried_17 ?_
  intro H1 locs1 ls1 hW1 hL1
  exact sg_endW (M := ML_carried) C hret hW1 ⟨Nat.zero_le _, Nat.zero_le _⟩ dL_carried_17
theorem LW_carried_x1 (hE : tx_ok E) (hSx : E.2.2.1 x = 8) (hSo : E.2.2.1 w = 11) (hNo : E.2.2.2.1 w = 1) {p0 p1 : Int32} (hd : d ≤ 11) (h : MtX l E d MX8_carried [.ref x, .int p0, .int p1] I J P 0 I' J' P') : MtW l E ML_carried hL_carried [.ref x, .int p0, .int p1, .ref w] I J P (some (.int 1)) I' J' P' := by
  refine MtW.of hE ML_carried_ok (Nat.le_of_ble_eq_true rfl) (fun pg e s m args below meth c C htab hret hT => zt_seg (M := ML_carried) C ?_)
  show Gp E.2.2.1 E.2.2.2.1 true ML_carried _ 0 [some (.ref x), some (.int p0), some (.int p1), some (.ref w), none] [] I J P
  simp only [g_L_carried_0, g_L_carried_1, g_L_carried_2, g_L_carried_3, g_L_carried_4, true_and, and_true, rf_s, not_true_eq_false, not_false_eq_true, true_implies, false_implies, kl_i, kl_n, kl_l, kl_r, Option.toList, List.cons_append, List.nil_append, if_true, if_false, u2s, lt00, lt01, lt02, lt03, le10, le20, le30, ne10, ne20, ne30, eq00]
  refine gs_L_carried_5 ?_
  intro H locs ls hW hL
  refine sg_callC (M := MX8_carried) (As := [.int p0, .int p1]) (b := x) (d := d) C hT hL htab (pre := []) (suf := []) (a0 := 0) (b0 := 9) (hpc := 12) (ct := 25) rfl (fun _ h => absurd h List.not_mem_nil) (by decide) ctl_0 (by decide) (by decide) ⟨by show _ ≤ 18; omega, by show _ ≤ 1300; omega, Nat.le_refl _, Nat.le_refl _⟩ dL_carried_5 rfl rfl rfl hSx (by rw [hSx]; decide) (Nat.le_of_ble_eq_true rfl) h hW (fun H1 locs1 q hW1 => seg_ok (M := ML_carried) C ?_ hW1 hL)
  simp only [g_L_carried_12, g_L_carried_14, true_and, and_true, rf_s, not_true_eq_false, not_false_eq_true, true_implies, false_implies, kl_i, kl_n, kl_l, kl_r, Option.toList, List.cons_append, List.nil_append, if_true, if_false, u2s, lt00, lt01, lt02, lt03, le10, le20, le30, ne10, ne20, ne30, eq00]
  refine gs_L_carried_15 ?_
  intro H2 locs2 ls2 hW2 hL2
  exact sg_endW (M := ML_carried) C hret hW2 ⟨Nat.le_refl _, Nat.le_refl _⟩ dL_carried_15
theorem LW_jointTax_ok (hE : tx_ok E) (hSx : E.2.2.1 x = 8) (hSo : E.2.2.1 w = 11) (hNo : E.2.2.2.1 w = 1) {p0 : Int32} (hd : d ≤ 11) {v : Int64} (h : CWp E.2.2.1 E.2.2.2.1 d MX8_jointTax [.ref x, .int p0] I J P (Qe (some (.long v)) I' J' P')) : MtW l E ML_jointTax hL_jointTax [.ref x, .int p0, .ref w] I J P (some (.int 0)) I' (u2 J' w 0 v) P' := by
  refine MtW.of hE ML_jointTax_ok (Nat.le_of_ble_eq_true rfl) (fun pg e s m args below meth c C htab hret hT => zt_seg (M := ML_jointTax) C ?_)
  show Gp E.2.2.1 E.2.2.2.1 true ML_jointTax _ 0 [some (.ref x), some (.int p0), some (.ref w), none] [] I J P
  simp only [g_L_jointTax_0, g_L_jointTax_1, g_L_jointTax_2, g_L_jointTax_3, true_and, and_true, rf_s, not_true_eq_false, not_false_eq_true, true_implies, false_implies, kl_i, kl_n, kl_l, kl_r, Option.toList, List.cons_append, List.nil_append, if_true, if_false, u2s, lt00, lt01, lt02, lt03, le10, le20, le30, ne10, ne20, ne30, eq00]
  refine gs_L_jointTax_4 ?_
  intro H locs ls hW hL
  refine sg_cE (M := MX8_jointTax) (As := [.int p0]) (b := x) (pc2 := 7) rfl (some (.long v)) C hL (d := d) ⟨by show _ ≤ 18; omega, by show _ ≤ 1300; omega⟩ ⟨Nat.zero_le _, Nat.zero_le _⟩ dL_jointTax_4 rfl rfl rfl hSx (by rw [hSx]; decide) (Nat.le_of_ble_eq_true rfl) rfl h hW (zt_seg (M := ML_jointTax) C ?_)
  simp only [g_L_jointTax_7, g_L_jointTax_8, g_L_jointTax_11, g_L_jointTax_12, g_L_jointTax_14, g_L_jointTax_15, g_L_jointTax_17, hSo, hNo, vi01, true_and, true_and, and_true, rf_s, not_true_eq_false, not_false_eq_true, true_implies, false_implies, kl_i, kl_n, kl_l, kl_r, Option.toList, List.cons_append, List.nil_append, if_true, if_false, u2s, lt00, lt01, lt02, lt03, le10, le20, le30, ne10, ne20, ne30, eq00]
  refine gs_L_jointTax_18 ?_
  intro H1 locs1 ls1 hW1 hL1
  exact sg_endW (M := ML_jointTax) C hret hW1 ⟨Nat.zero_le _, Nat.zero_le _⟩ dL_jointTax_18
theorem LW_jointTax_x1 (hE : tx_ok E) (hSx : E.2.2.1 x = 8) (hSo : E.2.2.1 w = 11) (hNo : E.2.2.2.1 w = 1) {p0 : Int32} (hd : d ≤ 11) (h : MtX l E d MX8_jointTax [.ref x, .int p0] I J P 0 I' J' P') : MtW l E ML_jointTax hL_jointTax [.ref x, .int p0, .ref w] I J P (some (.int 1)) I' J' P' := by
  refine MtW.of hE ML_jointTax_ok (Nat.le_of_ble_eq_true rfl) (fun pg e s m args below meth c C htab hret hT => zt_seg (M := ML_jointTax) C ?_)
  show Gp E.2.2.1 E.2.2.2.1 true ML_jointTax _ 0 [some (.ref x), some (.int p0), some (.ref w), none] [] I J P
  simp only [g_L_jointTax_0, g_L_jointTax_1, g_L_jointTax_2, g_L_jointTax_3, true_and, and_true, rf_s, not_true_eq_false, not_false_eq_true, true_implies, false_implies, kl_i, kl_n, kl_l, kl_r, Option.toList, List.cons_append, List.nil_append, if_true, if_false, u2s, lt00, lt01, lt02, lt03, le10, le20, le30, ne10, ne20, ne30, eq00]
  refine gs_L_jointTax_4 ?_
  intro H locs ls hW hL
  refine sg_callC (M := MX8_jointTax) (As := [.int p0]) (b := x) (d := d) C hT hL htab (pre := []) (suf := [(0, 8, 14, 56)]) (a0 := 0) (b0 := 8) (hpc := 11) (ct := 25) rfl (fun _ h => absurd h List.not_mem_nil) (by decide) ctl_0 (by decide) (by decide) ⟨by show _ ≤ 18; omega, by show _ ≤ 1300; omega, Nat.le_refl _, Nat.le_refl _⟩ dL_jointTax_4 rfl rfl rfl hSx (by rw [hSx]; decide) (Nat.le_of_ble_eq_true rfl) h hW (fun H1 locs1 q hW1 => seg_ok (M := ML_jointTax) C ?_ hW1 hL)
  simp only [g_L_jointTax_11, g_L_jointTax_12, true_and, and_true, rf_s, not_true_eq_false, not_false_eq_true, true_implies, false_implies, kl_i, kl_n, kl_l, kl_r, Option.toList, List.cons_append, List.nil_append, if_true, if_false, u2s, lt00, lt01, lt02, lt03, le10, le20, le30, ne10, ne20, ne30, eq00]
  refine gs_L_jointTax_13 ?_
  intro H2 locs2 ls2 hW2 hL2
  exact sg_endW (M := ML_jointTax) C hret hW2 ⟨Nat.le_refl _, Nat.le_refl _⟩ dL_jointTax_13
theorem LW_jointTax_x2 (hE : tx_ok E) (hSx : E.2.2.1 x = 8) (hSo : E.2.2.1 w = 11) (hNo : E.2.2.2.1 w = 1) {p0 : Int32} (hd : d ≤ 11) (h : MtX l E d MX8_jointTax [.ref x, .int p0] I J P 3 I' J' P') : MtW l E ML_jointTax hL_jointTax [.ref x, .int p0, .ref w] I J P (some (.int 2)) I' J' P' := by
  refine MtW.of hE ML_jointTax_ok (Nat.le_of_ble_eq_true rfl) (fun pg e s m args below meth c C htab hret hT => zt_seg (M := ML_jointTax) C ?_)
  show Gp E.2.2.1 E.2.2.2.1 true ML_jointTax _ 0 [some (.ref x), some (.int p0), some (.ref w), none] [] I J P
  simp only [g_L_jointTax_0, g_L_jointTax_1, g_L_jointTax_2, g_L_jointTax_3, true_and, and_true, rf_s, not_true_eq_false, not_false_eq_true, true_implies, false_implies, kl_i, kl_n, kl_l, kl_r, Option.toList, List.cons_append, List.nil_append, if_true, if_false, u2s, lt00, lt01, lt02, lt03, le10, le20, le30, ne10, ne20, ne30, eq00]
  refine gs_L_jointTax_4 ?_
  intro H locs ls hW hL
  refine sg_callC (M := MX8_jointTax) (As := [.int p0]) (b := x) (d := d) C hT hL htab (pre := [(0, 8, 11, 25)]) (suf := []) (a0 := 0) (b0 := 8) (hpc := 14) (ct := 56) rfl (List.forall_mem_cons.mpr ⟨⟨by decide, 0, ctl_0, List.mem_of_getElem? (i := 3) rfl⟩, fun _ h => absurd h List.not_mem_nil⟩) (by decide) ctl_3 (by decide) (by decide) ⟨by show _ ≤ 18; omega, by show _ ≤ 1300; omega, Nat.le_refl _, Nat.le_refl _⟩ dL_jointTax_4 rfl rfl rfl hSx (by rw [hSx]; decide) (Nat.le_of_ble_eq_true rfl) h hW (fun H1 locs1 q hW1 => seg_ok (M := ML_jointTax) C ?_ hW1 hL)
  simp only [g_L_jointTax_14, g_L_jointTax_15, true_and, and_true, rf_s, not_true_eq_false, not_false_eq_true, true_implies, false_implies, kl_i, kl_n, kl_l, kl_r, Option.toList, List.cons_append, List.nil_append, if_true, if_false, u2s, lt00, lt01, lt02, lt03, le10, le20, le30, ne10, ne20, ne30, eq00]
  refine gs_L_jointTax_16 ?_
  intro H2 locs2 ls2 hW2 hL2
  exact sg_endW (M := ML_jointTax) C hret hW2 ⟨Nat.le_refl _, Nat.le_refl _⟩ dL_jointTax_16
theorem LW_separateTax_ok (hE : tx_ok E) (hSx : E.2.2.1 x = 8) (hSo : E.2.2.1 w = 11) (hNo : E.2.2.2.1 w = 1) {p0 : Int32} (hd : d ≤ 11) {v : Int64} (h : CWp E.2.2.1 E.2.2.2.1 d MX8_separateTax [.ref x, .int p0] I J P (Qe (some (.long v)) I' J' P')) : MtW l E ML_separateTax hL_separateTax [.ref x, .int p0, .ref w] I J P (some (.int 0)) I' (u2 J' w 0 v) P' := by
  refine MtW.of hE ML_separateTax_ok (Nat.le_of_ble_eq_true rfl) (fun pg e s m args below meth c C htab hret hT => zt_seg (M := ML_separateTax) C ?_)
  show Gp E.2.2.1 E.2.2.2.1 true ML_separateTax _ 0 [some (.ref x), some (.int p0), some (.ref w), none] [] I J P
  simp only [g_L_separateTax_0, g_L_separateTax_1, g_L_separateTax_2, g_L_separateTax_3, true_and, and_true, rf_s, not_true_eq_false, not_false_eq_true, true_implies, false_implies, kl_i, kl_n, kl_l, kl_r, Option.toList, List.cons_append, List.nil_append, if_true, if_false, u2s, lt00, lt01, lt02, lt03, le10, le20, le30, ne10, ne20, ne30, eq00]
  refine gs_L_separateTax_4 ?_
  intro H locs ls hW hL
  refine sg_cE (M := MX8_separateTax) (As := [.int p0]) (b := x) (pc2 := 7) rfl (some (.long v)) C hL (d := d) ⟨by show _ ≤ 18; omega, by show _ ≤ 1300; omega⟩ ⟨Nat.zero_le _, Nat.zero_le _⟩ dL_separateTax_4 rfl rfl rfl hSx (by rw [hSx]; decide) (Nat.le_of_ble_eq_true rfl) rfl h hW (zt_seg (M := ML_separateTax) C ?_)
  simp only [g_L_separateTax_7, g_L_separateTax_8, g_L_separateTax_11, g_L_separateTax_12, g_L_separateTax_14, g_L_separateTax_15, g_L_separateTax_17, hSo, hNo, vi01, true_and, true_and, and_true, rf_s, not_true_eq_false, not_false_eq_true, true_implies, false_implies, kl_i, kl_n, kl_l, kl_r, Option.toList, List.cons_append, List.nil_append, if_true, if_false, u2s, lt00, lt01, lt02, lt03, le10, le20, le30, ne10, ne20, ne30, eq00]
  refine gs_L_separateTax_18 ?_
  intro H1 locs1 ls1 hW1 hL1
  exact sg_endW (M := ML_separateTax) C hret hW1 ⟨Nat.zero_le _, Nat.zero_le _⟩ dL_separateTax_18
theorem LW_separateTax_x1 (hE : tx_ok E) (hSx : E.2.2.1 x = 8) (hSo : E.2.2.1 w = 11) (hNo : E.2.2.2.1 w = 1) {p0 : Int32} (hd : d ≤ 11) (h : MtX l E d MX8_separateTax [.ref x, .int p0] I J P 0 I' J' P') : MtW l E ML_separateTax hL_separateTax [.ref x, .int p0, .ref w] I J P (some (.int 1)) I' J' P' := by
  refine MtW.of hE ML_separateTax_ok (Nat.le_of_ble_eq_true rfl) (fun pg e s m args below meth c C htab hret hT => zt_seg (M := ML_separateTax) C ?_)
  show Gp E.2.2.1 E.2.2.2.1 true ML_separateTax _ 0 [some (.ref x), some (.int p0), some (.ref w), none] [] I J P
  simp only [g_L_separateTax_0, g_L_separateTax_1, g_L_separateTax_2, g_L_separateTax_3, true_and, and_true, rf_s, not_true_eq_false, not_false_eq_true, true_implies, false_implies, kl_i, kl_n, kl_l, kl_r, Option.toList, List.cons_append, List.nil_append, if_true, if_false, u2s, lt00, lt01, lt02, lt03, le10, le20, le30, ne10, ne20, ne30, eq00]
  refine gs_L_separateTax_4 ?_
  intro H locs ls hW hL
  refine sg_callC (M := MX8_separateTax) (As := [.int p0]) (b := x) (d := d) C hT hL htab (pre := []) (suf := [(0, 8, 14, 56)]) (a0 := 0) (b0 := 8) (hpc := 11) (ct := 25) rfl (fun _ h => absurd h List.not_mem_nil) (by decide) ctl_0 (by decide) (by decide) ⟨by show _ ≤ 18; omega, by show _ ≤ 1300; omega, Nat.le_refl _, Nat.le_refl _⟩ dL_separateTax_4 rfl rfl rfl hSx (by rw [hSx]; decide) (Nat.le_of_ble_eq_true rfl) h hW (fun H1 locs1 q hW1 => seg_ok (M := ML_separateTax) C ?_ hW1 hL)
  simp only [g_L_separateTax_11, g_L_separateTax_12, true_and, and_true, rf_s, not_true_eq_false, not_false_eq_true, true_implies, false_implies, kl_i, kl_n, kl_l, kl_r, Option.toList, List.cons_append, List.nil_append, if_true, if_false, u2s, lt00, lt01, lt02, lt03, le10, le20, le30, ne10, ne20, ne30, eq00]
  refine gs_L_separateTax_13 ?_
  intro H2 locs2 ls2 hW2 hL2
  exact sg_endW (M := ML_separateTax) C hret hW2 ⟨Nat.le_refl _, Nat.le_refl _⟩ dL_separateTax_13
theorem LW_separateTax_x2 (hE : tx_ok E) (hSx : E.2.2.1 x = 8) (hSo : E.2.2.1 w = 11) (hNo : E.2.2.2.1 w = 1) {p0 : Int32} (hd : d ≤ 11) (h : MtX l E d MX8_separateTax [.ref x, .int p0] I J P 3 I' J' P') : MtW l E ML_separateTax hL_separateTax [.ref x, .int p0, .ref w] I J P (some (.int 2)) I' J' P' := by
  refine MtW.of hE ML_separateTax_ok (Nat.le_of_ble_eq_true rfl) (fun pg e s m args below meth c C htab hret hT => zt_seg (M := ML_separateTax) C ?_)
  show Gp E.2.2.1 E.2.2.2.1 true ML_separateTax _ 0 [some (.ref x), some (.int p0), some (.ref w), none] [] I J P
  simp only [g_L_separateTax_0, g_L_separateTax_1, g_L_separateTax_2, g_L_separateTax_3, true_and, and_true, rf_s, not_true_eq_false, not_false_eq_true, true_implies, false_implies, kl_i, kl_n, kl_l, kl_r, Option.toList, List.cons_append, List.nil_append, if_true, if_false, u2s, lt00, lt01, lt02, lt03, le10, le20, le30, ne10, ne20, ne30, eq00]
  refine gs_L_separateTax_4 ?_
  intro H locs ls hW hL
  refine sg_callC (M := MX8_separateTax) (As := [.int p0]) (b := x) (d := d) C hT hL htab (pre := [(0, 8, 11, 25)]) (suf := []) (a0 := 0) (b0 := 8) (hpc := 14) (ct := 56) rfl (List.forall_mem_cons.mpr ⟨⟨by decide, 0, ctl_0, List.mem_of_getElem? (i := 3) rfl⟩, fun _ h => absurd h List.not_mem_nil⟩) (by decide) ctl_3 (by decide) (by decide) ⟨by show _ ≤ 18; omega, by show _ ≤ 1300; omega, Nat.le_refl _, Nat.le_refl _⟩ dL_separateTax_4 rfl rfl rfl hSx (by rw [hSx]; decide) (Nat.le_of_ble_eq_true rfl) h hW (fun H1 locs1 q hW1 => seg_ok (M := ML_separateTax) C ?_ hW1 hL)
  simp only [g_L_separateTax_14, g_L_separateTax_15, true_and, and_true, rf_s, not_true_eq_false, not_false_eq_true, true_implies, false_implies, kl_i, kl_n, kl_l, kl_r, Option.toList, List.cons_append, List.nil_append, if_true, if_false, u2s, lt00, lt01, lt02, lt03, le10, le20, le30, ne10, ne20, ne30, eq00]
  refine gs_L_separateTax_16 ?_
  intro H2 locs2 ls2 hW2 hL2
  exact sg_endW (M := ML_separateTax) C hret hW2 ⟨Nat.le_refl _, Nat.le_refl _⟩ dL_separateTax_16
theorem LW_division_ok (hE : tx_ok E) (hSx : E.2.2.1 x = 8) (hSo : E.2.2.1 w = 11) (hNo : E.2.2.2.1 w = 1) {p0 : Int32} (hd : d ≤ 11) {v : Int32} (h : CWp E.2.2.1 E.2.2.2.1 d MX8_division [.ref x, .int p0] I J P (Qe (some (.int v)) I' J' P')) : MtW l E ML_division hL_division [.ref x, .int p0, .ref w] I J P (some (.int 0)) I' (u2 J' w 0 v.toInt64) P' := by
  refine MtW.of hE ML_division_ok (Nat.le_of_ble_eq_true rfl) (fun pg e s m args below meth c C htab hret hT => zt_seg (M := ML_division) C ?_)
  show Gp E.2.2.1 E.2.2.2.1 true ML_division _ 0 [some (.ref x), some (.int p0), some (.ref w), none] [] I J P
  simp only [g_L_division_0, g_L_division_1, g_L_division_2, g_L_division_3, true_and, and_true, rf_s, not_true_eq_false, not_false_eq_true, true_implies, false_implies, kl_i, kl_n, kl_l, kl_r, Option.toList, List.cons_append, List.nil_append, if_true, if_false, u2s, lt00, lt01, lt02, lt03, le10, le20, le30, ne10, ne20, ne30, eq00]
  refine gs_L_division_4 ?_
  intro H locs ls hW hL
  refine sg_cE (M := MX8_division) (As := [.int p0]) (b := x) (pc2 := 7) rfl (some (.int v)) C hL (d := d) ⟨by show _ ≤ 18; omega, by show _ ≤ 1300; omega⟩ ⟨Nat.zero_le _, Nat.zero_le _⟩ dL_division_4 rfl rfl rfl hSx (by rw [hSx]; decide) (Nat.le_of_ble_eq_true rfl) rfl h hW (zt_seg (M := ML_division) C ?_)
  simp only [g_L_division_7, g_L_division_8, g_L_division_9, g_L_division_12, g_L_division_13, g_L_division_15, g_L_division_16, g_L_division_18, hSo, hNo, vi01, true_and, true_and, and_true, rf_s, not_true_eq_false, not_false_eq_true, true_implies, false_implies, kl_i, kl_n, kl_l, kl_r, Option.toList, List.cons_append, List.nil_append, if_true, if_false, u2s, lt00, lt01, lt02, lt03, le10, le20, le30, ne10, ne20, ne30, eq00]
  refine gs_L_division_19 ?_
  intro H1 locs1 ls1 hW1 hL1
  exact sg_endW (M := ML_division) C hret hW1 ⟨Nat.zero_le _, Nat.zero_le _⟩ dL_division_19
theorem LW_division_x1 (hE : tx_ok E) (hSx : E.2.2.1 x = 8) (hSo : E.2.2.1 w = 11) (hNo : E.2.2.2.1 w = 1) {p0 : Int32} (hd : d ≤ 11) (h : MtX l E d MX8_division [.ref x, .int p0] I J P 0 I' J' P') : MtW l E ML_division hL_division [.ref x, .int p0, .ref w] I J P (some (.int 1)) I' J' P' := by
  refine MtW.of hE ML_division_ok (Nat.le_of_ble_eq_true rfl) (fun pg e s m args below meth c C htab hret hT => zt_seg (M := ML_division) C ?_)
  show Gp E.2.2.1 E.2.2.2.1 true ML_division _ 0 [some (.ref x), some (.int p0), some (.ref w), none] [] I J P
  simp only [g_L_division_0, g_L_division_1, g_L_division_2, g_L_division_3, true_and, and_true, rf_s, not_true_eq_false, not_false_eq_true, true_implies, false_implies, kl_i, kl_n, kl_l, kl_r, Option.toList, List.cons_append, List.nil_append, if_true, if_false, u2s, lt00, lt01, lt02, lt03, le10, le20, le30, ne10, ne20, ne30, eq00]
  refine gs_L_division_4 ?_
  intro H locs ls hW hL
  refine sg_callC (M := MX8_division) (As := [.int p0]) (b := x) (d := d) C hT hL htab (pre := []) (suf := [(0, 9, 15, 56)]) (a0 := 0) (b0 := 9) (hpc := 12) (ct := 25) rfl (fun _ h => absurd h List.not_mem_nil) (by decide) ctl_0 (by decide) (by decide) ⟨by show _ ≤ 18; omega, by show _ ≤ 1300; omega, Nat.le_refl _, Nat.le_refl _⟩ dL_division_4 rfl rfl rfl hSx (by rw [hSx]; decide) (Nat.le_of_ble_eq_true rfl) h hW (fun H1 locs1 q hW1 => seg_ok (M := ML_division) C ?_ hW1 hL)
  simp only [g_L_division_12, g_L_division_13, true_and, and_true, rf_s, not_true_eq_false, not_false_eq_true, true_implies, false_implies, kl_i, kl_n, kl_l, kl_r, Option.toList, List.cons_append, List.nil_append, if_true, if_false, u2s, lt00, lt01, lt02, lt03, le10, le20, le30, ne10, ne20, ne30, eq00]
  refine gs_L_division_14 ?_
  intro H2 locs2 ls2 hW2 hL2
  exact sg_endW (M := ML_division) C hret hW2 ⟨Nat.le_refl _, Nat.le_refl _⟩ dL_division_14
theorem LW_division_x2 (hE : tx_ok E) (hSx : E.2.2.1 x = 8) (hSo : E.2.2.1 w = 11) (hNo : E.2.2.2.1 w = 1) {p0 : Int32} (hd : d ≤ 11) (h : MtX l E d MX8_division [.ref x, .int p0] I J P 3 I' J' P') : MtW l E ML_division hL_division [.ref x, .int p0, .ref w] I J P (some (.int 2)) I' J' P' := by
  refine MtW.of hE ML_division_ok (Nat.le_of_ble_eq_true rfl) (fun pg e s m args below meth c C htab hret hT => zt_seg (M := ML_division) C ?_)
  show Gp E.2.2.1 E.2.2.2.1 true ML_division _ 0 [some (.ref x), some (.int p0), some (.ref w), none] [] I J P
  simp only [g_L_division_0, g_L_division_1, g_L_division_2, g_L_division_3, true_and, and_true, rf_s, not_true_eq_false, not_false_eq_true, true_implies, false_implies, kl_i, kl_n, kl_l, kl_r, Option.toList, List.cons_append, List.nil_append, if_true, if_false, u2s, lt00, lt01, lt02, lt03, le10, le20, le30, ne10, ne20, ne30, eq00]
  refine gs_L_division_4 ?_
  intro H locs ls hW hL
  refine sg_callC (M := MX8_division) (As := [.int p0]) (b := x) (d := d) C hT hL htab (pre := [(0, 9, 12, 25)]) (suf := []) (a0 := 0) (b0 := 9) (hpc := 15) (ct := 56) rfl (List.forall_mem_cons.mpr ⟨⟨by decide, 0, ctl_0, List.mem_of_getElem? (i := 3) rfl⟩, fun _ h => absurd h List.not_mem_nil⟩) (by decide) ctl_3 (by decide) (by decide) ⟨by show _ ≤ 18; omega, by show _ ≤ 1300; omega, Nat.le_refl _, Nat.le_refl _⟩ dL_division_4 rfl rfl rfl hSx (by rw [hSx]; decide) (Nat.le_of_ble_eq_true rfl) h hW (fun H1 locs1 q hW1 => seg_ok (M := ML_division) C ?_ hW1 hL)
  simp only [g_L_division_15, g_L_division_16, true_and, and_true, rf_s, not_true_eq_false, not_false_eq_true, true_implies, false_implies, kl_i, kl_n, kl_l, kl_r, Option.toList, List.cons_append, List.nil_append, if_true, if_false, u2s, lt00, lt01, lt02, lt03, le10, le20, le30, ne10, ne20, ne30, eq00]
  refine gs_L_division_17 ?_
  intro H2 locs2 ls2 hW2 hL2
  exact sg_endW (M := ML_division) C hret hW2 ⟨Nat.le_refl _, Nat.le_refl _⟩ dL_division_17
theorem LW_choosesJoint_ok1 (hE : tx_ok E) (hSx : E.2.2.1 x = 8) (hSo : E.2.2.1 w = 11) (hNo : E.2.2.2.1 w = 1) {p0 : Int32} (hd : d ≤ 11) (h : CWp E.2.2.1 E.2.2.2.1 d MX8_choosesJoint [.ref x, .int p0] I J P (Qe (some (.int 1)) I' J' P')) : MtW l E ML_choosesJoint hL_choosesJoint [.ref x, .int p0, .ref w] I J P (some (.int 0)) I' (u2 J' w 0 1) P' := by
  refine MtW.of hE ML_choosesJoint_ok (Nat.le_of_ble_eq_true rfl) (fun pg e s m args below meth c C htab hret hT => zt_seg (M := ML_choosesJoint) C ?_)
  show Gp E.2.2.1 E.2.2.2.1 true ML_choosesJoint _ 0 [some (.ref x), some (.int p0), some (.ref w), none] [] I J P
  simp only [g_L_choosesJoint_0, g_L_choosesJoint_1, g_L_choosesJoint_2, g_L_choosesJoint_3, true_and, and_true, rf_s, not_true_eq_false, not_false_eq_true, true_implies, false_implies, kl_i, kl_n, kl_l, kl_r, Option.toList, List.cons_append, List.nil_append, if_true, if_false, u2s, lt00, lt01, lt02, lt03, le10, le20, le30, ne10, ne20, ne30, eq00]
  refine gs_L_choosesJoint_4 ?_
  intro H locs ls hW hL
  refine sg_cE (M := MX8_choosesJoint) (As := [.int p0]) (b := x) (pc2 := 7) rfl (some (.int 1)) C hL (d := d) ⟨by show _ ≤ 18; omega, by show _ ≤ 1300; omega⟩ ⟨Nat.zero_le _, Nat.zero_le _⟩ dL_choosesJoint_4 rfl rfl rfl hSx (by rw [hSx]; decide) (Nat.le_of_ble_eq_true rfl) rfl h hW (zt_seg (M := ML_choosesJoint) C ?_)
  simp only [g_L_choosesJoint_7, g_L_choosesJoint_10, g_L_choosesJoint_11, g_L_choosesJoint_14, g_L_choosesJoint_15, g_L_choosesJoint_16, g_L_choosesJoint_19, g_L_choosesJoint_20, g_L_choosesJoint_22, g_L_choosesJoint_23, g_L_choosesJoint_25, hSo, hNo, vi01, true_and, true_and, and_true, rf_s, not_true_eq_false, not_false_eq_true, true_implies, false_implies, kl_i, kl_n, kl_l, kl_r, Option.toList, List.cons_append, List.nil_append, if_true, if_false, u2s, lt00, lt01, lt02, lt03, le10, le20, le30, ne10, ne20, ne30, eq00]
  refine gs_L_choosesJoint_26 ?_
  intro H1 locs1 ls1 hW1 hL1
  exact sg_endW (M := ML_choosesJoint) C hret hW1 ⟨Nat.zero_le _, Nat.zero_le _⟩ dL_choosesJoint_26
theorem LW_choosesJoint_ok0 (hE : tx_ok E) (hSx : E.2.2.1 x = 8) (hSo : E.2.2.1 w = 11) (hNo : E.2.2.2.1 w = 1) {p0 : Int32} (hd : d ≤ 11) (h : CWp E.2.2.1 E.2.2.2.1 d MX8_choosesJoint [.ref x, .int p0] I J P (Qe (some (.int 0)) I' J' P')) : MtW l E ML_choosesJoint hL_choosesJoint [.ref x, .int p0, .ref w] I J P (some (.int 0)) I' (u2 J' w 0 0) P' := by
  refine MtW.of hE ML_choosesJoint_ok (Nat.le_of_ble_eq_true rfl) (fun pg e s m args below meth c C htab hret hT => zt_seg (M := ML_choosesJoint) C ?_)
  show Gp E.2.2.1 E.2.2.2.1 true ML_choosesJoint _ 0 [some (.ref x), some (.int p0), some (.ref w), none] [] I J P
  simp only [g_L_choosesJoint_0, g_L_choosesJoint_1, g_L_choosesJoint_2, g_L_choosesJoint_3, true_and, and_true, rf_s, not_true_eq_false, not_false_eq_true, true_implies, false_implies, kl_i, kl_n, kl_l, kl_r, Option.toList, List.cons_append, List.nil_append, if_true, if_false, u2s, lt00, lt01, lt02, lt03, le10, le20, le30, ne10, ne20, ne30, eq00]
  refine gs_L_choosesJoint_4 ?_
  intro H locs ls hW hL
  refine sg_cE (M := MX8_choosesJoint) (As := [.int p0]) (b := x) (pc2 := 7) rfl (some (.int 0)) C hL (d := d) ⟨by show _ ≤ 18; omega, by show _ ≤ 1300; omega⟩ ⟨Nat.zero_le _, Nat.zero_le _⟩ dL_choosesJoint_4 rfl rfl rfl hSx (by rw [hSx]; decide) (Nat.le_of_ble_eq_true rfl) rfl h hW (zt_seg (M := ML_choosesJoint) C ?_)
  simp only [g_L_choosesJoint_7, g_L_choosesJoint_10, g_L_choosesJoint_11, g_L_choosesJoint_14, g_L_choosesJoint_15, g_L_choosesJoint_16, g_L_choosesJoint_19, g_L_choosesJoint_20, g_L_choosesJoint_22, g_L_choosesJoint_23, g_L_choosesJoint_25, hSo, hNo, vi01, true_and, true_and, and_true, rf_s, not_true_eq_false, not_false_eq_true, true_implies, false_implies, kl_i, kl_n, kl_l, kl_r, Option.toList, List.cons_append, List.nil_append, if_true, if_false, u2s, lt00, lt01, lt02, lt03, le10, le20, le30, ne10, ne20, ne30, eq00]
  refine gs_L_choosesJoint_26 ?_
  intro H1 locs1 ls1 hW1 hL1
  exact sg_endW (M := ML_choosesJoint) C hret hW1 ⟨Nat.zero_le _, Nat.zero_le _⟩ dL_choosesJoint_26
theorem LW_choosesJoint_x1 (hE : tx_ok E) (hSx : E.2.2.1 x = 8) (hSo : E.2.2.1 w = 11) (hNo : E.2.2.2.1 w = 1) {p0 : Int32} (hd : d ≤ 11) (h : MtX l E d MX8_choosesJoint [.ref x, .int p0] I J P 0 I' J' P') : MtW l E ML_choosesJoint hL_choosesJoint [.ref x, .int p0, .ref w] I J P (some (.int 1)) I' J' P' := by
  refine MtW.of hE ML_choosesJoint_ok (Nat.le_of_ble_eq_true rfl) (fun pg e s m args below meth c C htab hret hT => zt_seg (M := ML_choosesJoint) C ?_)
  show Gp E.2.2.1 E.2.2.2.1 true ML_choosesJoint _ 0 [some (.ref x), some (.int p0), some (.ref w), none] [] I J P
  simp only [g_L_choosesJoint_0, g_L_choosesJoint_1, g_L_choosesJoint_2, g_L_choosesJoint_3, true_and, and_true, rf_s, not_true_eq_false, not_false_eq_true, true_implies, false_implies, kl_i, kl_n, kl_l, kl_r, Option.toList, List.cons_append, List.nil_append, if_true, if_false, u2s, lt00, lt01, lt02, lt03, le10, le20, le30, ne10, ne20, ne30, eq00]
  refine gs_L_choosesJoint_4 ?_
  intro H locs ls hW hL
  refine sg_callC (M := MX8_choosesJoint) (As := [.int p0]) (b := x) (d := d) C hT hL htab (pre := []) (suf := [(0, 16, 22, 56)]) (a0 := 0) (b0 := 16) (hpc := 19) (ct := 25) rfl (fun _ h => absurd h List.not_mem_nil) (by decide) ctl_0 (by decide) (by decide) ⟨by show _ ≤ 18; omega, by show _ ≤ 1300; omega, Nat.le_refl _, Nat.le_refl _⟩ dL_choosesJoint_4 rfl rfl rfl hSx (by rw [hSx]; decide) (Nat.le_of_ble_eq_true rfl) h hW (fun H1 locs1 q hW1 => seg_ok (M := ML_choosesJoint) C ?_ hW1 hL)
  simp only [g_L_choosesJoint_19, g_L_choosesJoint_20, true_and, and_true, rf_s, not_true_eq_false, not_false_eq_true, true_implies, false_implies, kl_i, kl_n, kl_l, kl_r, Option.toList, List.cons_append, List.nil_append, if_true, if_false, u2s, lt00, lt01, lt02, lt03, le10, le20, le30, ne10, ne20, ne30, eq00]
  refine gs_L_choosesJoint_21 ?_
  intro H2 locs2 ls2 hW2 hL2
  exact sg_endW (M := ML_choosesJoint) C hret hW2 ⟨Nat.le_refl _, Nat.le_refl _⟩ dL_choosesJoint_21
theorem LW_choosesJoint_x2 (hE : tx_ok E) (hSx : E.2.2.1 x = 8) (hSo : E.2.2.1 w = 11) (hNo : E.2.2.2.1 w = 1) {p0 : Int32} (hd : d ≤ 11) (h : MtX l E d MX8_choosesJoint [.ref x, .int p0] I J P 3 I' J' P') : MtW l E ML_choosesJoint hL_choosesJoint [.ref x, .int p0, .ref w] I J P (some (.int 2)) I' J' P' := by
  refine MtW.of hE ML_choosesJoint_ok (Nat.le_of_ble_eq_true rfl) (fun pg e s m args below meth c C htab hret hT => zt_seg (M := ML_choosesJoint) C ?_)
  show Gp E.2.2.1 E.2.2.2.1 true ML_choosesJoint _ 0 [some (.ref x), some (.int p0), some (.ref w), none] [] I J P
  simp only [g_L_choosesJoint_0, g_L_choosesJoint_1, g_L_choosesJoint_2, g_L_choosesJoint_3, true_and, and_true, rf_s, not_true_eq_false, not_false_eq_true, true_implies, false_implies, kl_i, kl_n, kl_l, kl_r, Option.toList, List.cons_append, List.nil_append, if_true, if_false, u2s, lt00, lt01, lt02, lt03, le10, le20, le30, ne10, ne20, ne30, eq00]
  refine gs_L_choosesJoint_4 ?_
  intro H locs ls hW hL
  refine sg_callC (M := MX8_choosesJoint) (As := [.int p0]) (b := x) (d := d) C hT hL htab (pre := [(0, 16, 19, 25)]) (suf := []) (a0 := 0) (b0 := 16) (hpc := 22) (ct := 56) rfl (List.forall_mem_cons.mpr ⟨⟨by decide, 0, ctl_0, List.mem_of_getElem? (i := 3) rfl⟩, fun _ h => absurd h List.not_mem_nil⟩) (by decide) ctl_3 (by decide) (by decide) ⟨by show _ ≤ 18; omega, by show _ ≤ 1300; omega, Nat.le_refl _, Nat.le_refl _⟩ dL_choosesJoint_4 rfl rfl rfl hSx (by rw [hSx]; decide) (Nat.le_of_ble_eq_true rfl) h hW (fun H1 locs1 q hW1 => seg_ok (M := ML_choosesJoint) C ?_ hW1 hL)
  simp only [g_L_choosesJoint_22, g_L_choosesJoint_23, true_and, and_true, rf_s, not_true_eq_false, not_false_eq_true, true_implies, false_implies, kl_i, kl_n, kl_l, kl_r, Option.toList, List.cons_append, List.nil_append, if_true, if_false, u2s, lt00, lt01, lt02, lt03, le10, le20, le30, ne10, ne20, ne30, eq00]
  refine gs_L_choosesJoint_24 ?_
  intro H2 locs2 ls2 hW2 hL2
  exact sg_endW (M := ML_choosesJoint) C hret hW2 ⟨Nat.le_refl _, Nat.le_refl _⟩ dL_choosesJoint_24
theorem LW_householdTax_ok (hE : tx_ok E) (hSx : E.2.2.1 x = 8) (hSo : E.2.2.1 w = 11) (hNo : E.2.2.2.1 w = 1) {p0 : Int32} (hd : d ≤ 11) {v : Int64} (h : CWp E.2.2.1 E.2.2.2.1 d MX8_householdTax [.ref x, .int p0] I J P (Qe (some (.long v)) I' J' P')) : MtW l E ML_householdTax hL_householdTax [.ref x, .int p0, .ref w] I J P (some (.int 0)) I' (u2 J' w 0 v) P' := by
  refine MtW.of hE ML_householdTax_ok (Nat.le_of_ble_eq_true rfl) (fun pg e s m args below meth c C htab hret hT => zt_seg (M := ML_householdTax) C ?_)
  show Gp E.2.2.1 E.2.2.2.1 true ML_householdTax _ 0 [some (.ref x), some (.int p0), some (.ref w), none] [] I J P
  simp only [g_L_householdTax_0, g_L_householdTax_1, g_L_householdTax_2, g_L_householdTax_3, true_and, and_true, rf_s, not_true_eq_false, not_false_eq_true, true_implies, false_implies, kl_i, kl_n, kl_l, kl_r, Option.toList, List.cons_append, List.nil_append, if_true, if_false, u2s, lt00, lt01, lt02, lt03, le10, le20, le30, ne10, ne20, ne30, eq00]
  refine gs_L_householdTax_4 ?_
  intro H locs ls hW hL
  refine sg_cE (M := MX8_householdTax) (As := [.int p0]) (b := x) (pc2 := 7) rfl (some (.long v)) C hL (d := d) ⟨by show _ ≤ 18; omega, by show _ ≤ 1300; omega⟩ ⟨Nat.zero_le _, Nat.zero_le _⟩ dL_householdTax_4 rfl rfl rfl hSx (by rw [hSx]; decide) (Nat.le_of_ble_eq_true rfl) rfl h hW (zt_seg (M := ML_householdTax) C ?_)
  simp only [g_L_householdTax_7, g_L_householdTax_8, g_L_householdTax_11, g_L_householdTax_12, g_L_householdTax_14, hSo, hNo, vi01, true_and, true_and, and_true, rf_s, not_true_eq_false, not_false_eq_true, true_implies, false_implies, kl_i, kl_n, kl_l, kl_r, Option.toList, List.cons_append, List.nil_append, if_true, if_false, u2s, lt00, lt01, lt02, lt03, le10, le20, le30, ne10, ne20, ne30, eq00]
  refine gs_L_householdTax_15 ?_
  intro H1 locs1 ls1 hW1 hL1
  exact sg_endW (M := ML_householdTax) C hret hW1 ⟨Nat.zero_le _, Nat.zero_le _⟩ dL_householdTax_15
theorem LW_householdTax_x1 (hE : tx_ok E) (hSx : E.2.2.1 x = 8) (hSo : E.2.2.1 w = 11) (hNo : E.2.2.2.1 w = 1) {p0 : Int32} (hd : d ≤ 11) (h : MtX l E d MX8_householdTax [.ref x, .int p0] I J P 0 I' J' P') : MtW l E ML_householdTax hL_householdTax [.ref x, .int p0, .ref w] I J P (some (.int 1)) I' J' P' := by
  refine MtW.of hE ML_householdTax_ok (Nat.le_of_ble_eq_true rfl) (fun pg e s m args below meth c C htab hret hT => zt_seg (M := ML_householdTax) C ?_)
  show Gp E.2.2.1 E.2.2.2.1 true ML_householdTax _ 0 [some (.ref x), some (.int p0), some (.ref w), none] [] I J P
  simp only [g_L_householdTax_0, g_L_householdTax_1, g_L_householdTax_2, g_L_householdTax_3, true_and, and_true, rf_s, not_true_eq_false, not_false_eq_true, true_implies, false_implies, kl_i, kl_n, kl_l, kl_r, Option.toList, List.cons_append, List.nil_append, if_true, if_false, u2s, lt00, lt01, lt02, lt03, le10, le20, le30, ne10, ne20, ne30, eq00]
  refine gs_L_householdTax_4 ?_
  intro H locs ls hW hL
  refine sg_callC (M := MX8_householdTax) (As := [.int p0]) (b := x) (d := d) C hT hL htab (pre := []) (suf := []) (a0 := 0) (b0 := 8) (hpc := 11) (ct := 25) rfl (fun _ h => absurd h List.not_mem_nil) (by decide) ctl_0 (by decide) (by decide) ⟨by show _ ≤ 18; omega, by show _ ≤ 1300; omega, Nat.le_refl _, Nat.le_refl _⟩ dL_householdTax_4 rfl rfl rfl hSx (by rw [hSx]; decide) (Nat.le_of_ble_eq_true rfl) h hW (fun H1 locs1 q hW1 => seg_ok (M := ML_householdTax) C ?_ hW1 hL)
  simp only [g_L_householdTax_11, g_L_householdTax_12, true_and, and_true, rf_s, not_true_eq_false, not_false_eq_true, true_implies, false_implies, kl_i, kl_n, kl_l, kl_r, Option.toList, List.cons_append, List.nil_append, if_true, if_false, u2s, lt00, lt01, lt02, lt03, le10, le20, le30, ne10, ne20, ne30, eq00]
  refine gs_L_householdTax_13 ?_
  intro H2 locs2 ls2 hW2 hL2
  exact sg_endW (M := ML_householdTax) C hret hW2 ⟨Nat.le_refl _, Nat.le_refl _⟩ dL_householdTax_13
theorem LW_curve_ok (hE : tx_ok E) (hSx : E.2.2.1 x = 8) (hSo : E.2.2.1 w = 11) (hNo : E.2.2.2.1 w = 1) {p0 p1 : Int32} (hd : d ≤ 11) {v : Int64} (h : CWp E.2.2.1 E.2.2.2.1 d MX8_curve [.ref x, .int p0, .int p1] I J P (Qe (some (.long v)) I' J' P')) : MtW l E ML_curve hL_curve [.ref x, .int p0, .int p1, .ref w] I J P (some (.int 0)) I' (u2 J' w 0 v) P' := by
  refine MtW.of hE ML_curve_ok (Nat.le_of_ble_eq_true rfl) (fun pg e s m args below meth c C htab hret hT => zt_seg (M := ML_curve) C ?_)
  show Gp E.2.2.1 E.2.2.2.1 true ML_curve _ 0 [some (.ref x), some (.int p0), some (.int p1), some (.ref w), none] [] I J P
  simp only [g_L_curve_0, g_L_curve_1, g_L_curve_2, g_L_curve_3, g_L_curve_4, true_and, and_true, rf_s, not_true_eq_false, not_false_eq_true, true_implies, false_implies, kl_i, kl_n, kl_l, kl_r, Option.toList, List.cons_append, List.nil_append, if_true, if_false, u2s, lt00, lt01, lt02, lt03, le10, le20, le30, ne10, ne20, ne30, eq00]
  refine gs_L_curve_5 ?_
  intro H locs ls hW hL
  refine sg_cE (M := MX8_curve) (As := [.int p0, .int p1]) (b := x) (pc2 := 8) rfl (some (.long v)) C hL (d := d) ⟨by show _ ≤ 18; omega, by show _ ≤ 1300; omega⟩ ⟨Nat.zero_le _, Nat.zero_le _⟩ dL_curve_5 rfl rfl rfl hSx (by rw [hSx]; decide) (Nat.le_of_ble_eq_true rfl) rfl h hW (zt_seg (M := ML_curve) C ?_)
  simp only [g_L_curve_8, g_L_curve_9, g_L_curve_12, g_L_curve_14, g_L_curve_16, g_L_curve_18, g_L_curve_20, hSo, hNo, vi01, true_and, true_and, and_true, rf_s, not_true_eq_false, not_false_eq_true, true_implies, false_implies, kl_i, kl_n, kl_l, kl_r, Option.toList, List.cons_append, List.nil_append, if_true, if_false, u2s, lt00, lt01, lt02, lt03, le10, le20, le30, ne10, ne20, ne30, eq00]
  refine gs_L_curve_21 ?_
  intro H1 locs1 ls1 hW1 hL1
  exact sg_endW (M := ML_curve) C hret hW1 ⟨Nat.zero_le _, Nat.zero_le _⟩ dL_curve_21
theorem LW_curve_x1 (hE : tx_ok E) (hSx : E.2.2.1 x = 8) (hSo : E.2.2.1 w = 11) (hNo : E.2.2.2.1 w = 1) {p0 p1 : Int32} (hd : d ≤ 11) (h : MtX l E d MX8_curve [.ref x, .int p0, .int p1] I J P 0 I' J' P') : MtW l E ML_curve hL_curve [.ref x, .int p0, .int p1, .ref w] I J P (some (.int 1)) I' J' P' := by
  refine MtW.of hE ML_curve_ok (Nat.le_of_ble_eq_true rfl) (fun pg e s m args below meth c C htab hret hT => zt_seg (M := ML_curve) C ?_)
  show Gp E.2.2.1 E.2.2.2.1 true ML_curve _ 0 [some (.ref x), some (.int p0), some (.int p1), some (.ref w), none] [] I J P
  simp only [g_L_curve_0, g_L_curve_1, g_L_curve_2, g_L_curve_3, g_L_curve_4, true_and, and_true, rf_s, not_true_eq_false, not_false_eq_true, true_implies, false_implies, kl_i, kl_n, kl_l, kl_r, Option.toList, List.cons_append, List.nil_append, if_true, if_false, u2s, lt00, lt01, lt02, lt03, le10, le20, le30, ne10, ne20, ne30, eq00]
  refine gs_L_curve_5 ?_
  intro H locs ls hW hL
  refine sg_callC (M := MX8_curve) (As := [.int p0, .int p1]) (b := x) (d := d) C hT hL htab (pre := []) (suf := [(0, 9, 16, 13)]) (a0 := 0) (b0 := 9) (hpc := 12) (ct := 25) rfl (fun _ h => absurd h List.not_mem_nil) (by decide) ctl_0 (by decide) (by decide) ⟨by show _ ≤ 18; omega, by show _ ≤ 1300; omega, Nat.le_refl _, Nat.le_refl _⟩ dL_curve_5 rfl rfl rfl hSx (by rw [hSx]; decide) (Nat.le_of_ble_eq_true rfl) h hW (fun H1 locs1 q hW1 => seg_ok (M := ML_curve) C ?_ hW1 hL)
  simp only [g_L_curve_12, g_L_curve_14, true_and, and_true, rf_s, not_true_eq_false, not_false_eq_true, true_implies, false_implies, kl_i, kl_n, kl_l, kl_r, Option.toList, List.cons_append, List.nil_append, if_true, if_false, u2s, lt00, lt01, lt02, lt03, le10, le20, le30, ne10, ne20, ne30, eq00]
  refine gs_L_curve_15 ?_
  intro H2 locs2 ls2 hW2 hL2
  exact sg_endW (M := ML_curve) C hret hW2 ⟨Nat.le_refl _, Nat.le_refl _⟩ dL_curve_15
theorem LW_curve_x2 (hE : tx_ok E) (hSx : E.2.2.1 x = 8) (hSo : E.2.2.1 w = 11) (hNo : E.2.2.2.1 w = 1) {p0 p1 : Int32} (hd : d ≤ 11) (h : MtX l E d MX8_curve [.ref x, .int p0, .int p1] I J P 1 I' J' P') : MtW l E ML_curve hL_curve [.ref x, .int p0, .int p1, .ref w] I J P (some (.int 2)) I' J' P' := by
  refine MtW.of hE ML_curve_ok (Nat.le_of_ble_eq_true rfl) (fun pg e s m args below meth c C htab hret hT => zt_seg (M := ML_curve) C ?_)
  show Gp E.2.2.1 E.2.2.2.1 true ML_curve _ 0 [some (.ref x), some (.int p0), some (.int p1), some (.ref w), none] [] I J P
  simp only [g_L_curve_0, g_L_curve_1, g_L_curve_2, g_L_curve_3, g_L_curve_4, true_and, and_true, rf_s, not_true_eq_false, not_false_eq_true, true_implies, false_implies, kl_i, kl_n, kl_l, kl_r, Option.toList, List.cons_append, List.nil_append, if_true, if_false, u2s, lt00, lt01, lt02, lt03, le10, le20, le30, ne10, ne20, ne30, eq00]
  refine gs_L_curve_5 ?_
  intro H locs ls hW hL
  refine sg_callC (M := MX8_curve) (As := [.int p0, .int p1]) (b := x) (d := d) C hT hL htab (pre := [(0, 9, 12, 25)]) (suf := []) (a0 := 0) (b0 := 9) (hpc := 16) (ct := 13) rfl (List.forall_mem_cons.mpr ⟨⟨by decide, 0, ctl_0, List.mem_of_getElem? (i := 1) rfl⟩, fun _ h => absurd h List.not_mem_nil⟩) (by decide) ctl_1 (by decide) (by decide) ⟨by show _ ≤ 18; omega, by show _ ≤ 1300; omega, Nat.le_refl _, Nat.le_refl _⟩ dL_curve_5 rfl rfl rfl hSx (by rw [hSx]; decide) (Nat.le_of_ble_eq_true rfl) h hW (fun H1 locs1 q hW1 => seg_ok (M := ML_curve) C ?_ hW1 hL)
  simp only [g_L_curve_16, g_L_curve_18, true_and, and_true, rf_s, not_true_eq_false, not_false_eq_true, true_implies, false_implies, kl_i, kl_n, kl_l, kl_r, Option.toList, List.cons_append, List.nil_append, if_true, if_false, u2s, lt00, lt01, lt02, lt03, le10, le20, le30, ne10, ne20, ne30, eq00]
  refine gs_L_curve_19 ?_
  intro H2 locs2 ls2 hW2 hL2
  exact sg_endW (M := ML_curve) C hret hW2 ⟨Nat.le_refl _, Nat.le_refl _⟩ dL_curve_19
theorem LW_marginalRate_ok (hE : tx_ok E) (hSx : E.2.2.1 x = 8) (hSo : E.2.2.1 w = 11) (hNo : E.2.2.2.1 w = 1) {p0 p1 : Int32} (hd : d ≤ 11) {v : Int64} (h : CWp E.2.2.1 E.2.2.2.1 d MX8_marginalRate [.ref x, .int p0, .int p1] I J P (Qe (some (.long v)) I' J' P')) : MtW l E ML_marginalRate hL_marginalRate [.ref x, .int p0, .int p1, .ref w] I J P (some (.int 0)) I' (u2 J' w 0 v) P' := by
  refine MtW.of hE ML_marginalRate_ok (Nat.le_of_ble_eq_true rfl) (fun pg e s m args below meth c C htab hret hT => zt_seg (M := ML_marginalRate) C ?_)
  show Gp E.2.2.1 E.2.2.2.1 true ML_marginalRate _ 0 [some (.ref x), some (.int p0), some (.int p1), some (.ref w), none] [] I J P
  simp only [g_L_marginalRate_0, g_L_marginalRate_1, g_L_marginalRate_2, g_L_marginalRate_3, g_L_marginalRate_4, true_and, and_true, rf_s, not_true_eq_false, not_false_eq_true, true_implies, false_implies, kl_i, kl_n, kl_l, kl_r, Option.toList, List.cons_append, List.nil_append, if_true, if_false, u2s, lt00, lt01, lt02, lt03, le10, le20, le30, ne10, ne20, ne30, eq00]
  refine gs_L_marginalRate_5 ?_
  intro H locs ls hW hL
  refine sg_cE (M := MX8_marginalRate) (As := [.int p0, .int p1]) (b := x) (pc2 := 8) rfl (some (.long v)) C hL (d := d) ⟨by show _ ≤ 18; omega, by show _ ≤ 1300; omega⟩ ⟨Nat.zero_le _, Nat.zero_le _⟩ dL_marginalRate_5 rfl rfl rfl hSx (by rw [hSx]; decide) (Nat.le_of_ble_eq_true rfl) rfl h hW (zt_seg (M := ML_marginalRate) C ?_)
  simp only [g_L_marginalRate_8, g_L_marginalRate_9, g_L_marginalRate_12, g_L_marginalRate_14, g_L_marginalRate_16, g_L_marginalRate_18, g_L_marginalRate_20, hSo, hNo, vi01, true_and, true_and, and_true, rf_s, not_true_eq_false, not_false_eq_true, true_implies, false_implies, kl_i, kl_n, kl_l, kl_r, Option.toList, List.cons_append, List.nil_append, if_true, if_false, u2s, lt00, lt01, lt02, lt03, le10, le20, le30, ne10, ne20, ne30, eq00]
  refine gs_L_marginalRate_21 ?_
  intro H1 locs1 ls1 hW1 hL1
  exact sg_endW (M := ML_marginalRate) C hret hW1 ⟨Nat.zero_le _, Nat.zero_le _⟩ dL_marginalRate_21
theorem LW_marginalRate_x1 (hE : tx_ok E) (hSx : E.2.2.1 x = 8) (hSo : E.2.2.1 w = 11) (hNo : E.2.2.2.1 w = 1) {p0 p1 : Int32} (hd : d ≤ 11) (h : MtX l E d MX8_marginalRate [.ref x, .int p0, .int p1] I J P 0 I' J' P') : MtW l E ML_marginalRate hL_marginalRate [.ref x, .int p0, .int p1, .ref w] I J P (some (.int 1)) I' J' P' := by
  refine MtW.of hE ML_marginalRate_ok (Nat.le_of_ble_eq_true rfl) (fun pg e s m args below meth c C htab hret hT => zt_seg (M := ML_marginalRate) C ?_)
  show Gp E.2.2.1 E.2.2.2.1 true ML_marginalRate _ 0 [some (.ref x), some (.int p0), some (.int p1), some (.ref w), none] [] I J P
  simp only [g_L_marginalRate_0, g_L_marginalRate_1, g_L_marginalRate_2, g_L_marginalRate_3, g_L_marginalRate_4, true_and, and_true, rf_s, not_true_eq_false, not_false_eq_true, true_implies, false_implies, kl_i, kl_n, kl_l, kl_r, Option.toList, List.cons_append, List.nil_append, if_true, if_false, u2s, lt00, lt01, lt02, lt03, le10, le20, le30, ne10, ne20, ne30, eq00]
  refine gs_L_marginalRate_5 ?_
  intro H locs ls hW hL
  refine sg_callC (M := MX8_marginalRate) (As := [.int p0, .int p1]) (b := x) (d := d) C hT hL htab (pre := []) (suf := [(0, 9, 16, 13)]) (a0 := 0) (b0 := 9) (hpc := 12) (ct := 25) rfl (fun _ h => absurd h List.not_mem_nil) (by decide) ctl_0 (by decide) (by decide) ⟨by show _ ≤ 18; omega, by show _ ≤ 1300; omega, Nat.le_refl _, Nat.le_refl _⟩ dL_marginalRate_5 rfl rfl rfl hSx (by rw [hSx]; decide) (Nat.le_of_ble_eq_true rfl) h hW (fun H1 locs1 q hW1 => seg_ok (M := ML_marginalRate) C ?_ hW1 hL)
  simp only [g_L_marginalRate_12, g_L_marginalRate_14, true_and, and_true, rf_s, not_true_eq_false, not_false_eq_true, true_implies, false_implies, kl_i, kl_n, kl_l, kl_r, Option.toList, List.cons_append, List.nil_append, if_true, if_false, u2s, lt00, lt01, lt02, lt03, le10, le20, le30, ne10, ne20, ne30, eq00]
  refine gs_L_marginalRate_15 ?_
  intro H2 locs2 ls2 hW2 hL2
  exact sg_endW (M := ML_marginalRate) C hret hW2 ⟨Nat.le_refl _, Nat.le_refl _⟩ dL_marginalRate_15
theorem LW_marginalRate_x2 (hE : tx_ok E) (hSx : E.2.2.1 x = 8) (hSo : E.2.2.1 w = 11) (hNo : E.2.2.2.1 w = 1) {p0 p1 : Int32} (hd : d ≤ 11) (h : MtX l E d MX8_marginalRate [.ref x, .int p0, .int p1] I J P 1 I' J' P') : MtW l E ML_marginalRate hL_marginalRate [.ref x, .int p0, .int p1, .ref w] I J P (some (.int 2)) I' J' P' := by
  refine MtW.of hE ML_marginalRate_ok (Nat.le_of_ble_eq_true rfl) (fun pg e s m args below meth c C htab hret hT => zt_seg (M := ML_marginalRate) C ?_)
  show Gp E.2.2.1 E.2.2.2.1 true ML_marginalRate _ 0 [some (.ref x), some (.int p0), some (.int p1), some (.ref w), none] [] I J P
  simp only [g_L_marginalRate_0, g_L_marginalRate_1, g_L_marginalRate_2, g_L_marginalRate_3, g_L_marginalRate_4, true_and, and_true, rf_s, not_true_eq_false, not_false_eq_true, true_implies, false_implies, kl_i, kl_n, kl_l, kl_r, Option.toList, List.cons_append, List.nil_append, if_true, if_false, u2s, lt00, lt01, lt02, lt03, le10, le20, le30, ne10, ne20, ne30, eq00]
  refine gs_L_marginalRate_5 ?_
  intro H locs ls hW hL
  refine sg_callC (M := MX8_marginalRate) (As := [.int p0, .int p1]) (b := x) (d := d) C hT hL htab (pre := [(0, 9, 12, 25)]) (suf := []) (a0 := 0) (b0 := 9) (hpc := 16) (ct := 13) rfl (List.forall_mem_cons.mpr ⟨⟨by decide, 0, ctl_0, List.mem_of_getElem? (i := 1) rfl⟩, fun _ h => absurd h List.not_mem_nil⟩) (by decide) ctl_1 (by decide) (by decide) ⟨by show _ ≤ 18; omega, by show _ ≤ 1300; omega, Nat.le_refl _, Nat.le_refl _⟩ dL_marginalRate_5 rfl rfl rfl hSx (by rw [hSx]; decide) (Nat.le_of_ble_eq_true rfl) h hW (fun H1 locs1 q hW1 => seg_ok (M := ML_marginalRate) C ?_ hW1 hL)
  simp only [g_L_marginalRate_16, g_L_marginalRate_18, true_and, and_true, rf_s, not_true_eq_false, not_false_eq_true, true_implies, false_implies, kl_i, kl_n, kl_l, kl_r, Option.toList, List.cons_append, List.nil_append, if_true, if_false, u2s, lt00, lt01, lt02, lt03, le10, le20, le30, ne10, ne20, ne30, eq00]
  refine gs_L_marginalRate_19 ?_
  intro H2 locs2 ls2 hW2 hL2
  exact sg_endW (M := ML_marginalRate) C hret hW2 ⟨Nat.le_refl _, Nat.le_refl _⟩ dL_marginalRate_19
theorem LW_kinks_ok (hE : tx_ok E) (hSx : E.2.2.1 x = 8) (hSo : E.2.2.1 w = 11) (hNo : E.2.2.2.1 w = 1) {p0 : Int32} (hd : d ≤ 11) {v : Int32} (h : CWp E.2.2.1 E.2.2.2.1 d MX8_kinks [.ref x, .int p0] I J P (Qe (some (.int v)) I' J' P')) : MtW l E ML_kinks hL_kinks [.ref x, .int p0, .ref w] I J P (some (.int 0)) I' (u2 J' w 0 v.toInt64) P' := by
  refine MtW.of hE ML_kinks_ok (Nat.le_of_ble_eq_true rfl) (fun pg e s m args below meth c C htab hret hT => zt_seg (M := ML_kinks) C ?_)
  show Gp E.2.2.1 E.2.2.2.1 true ML_kinks _ 0 [some (.ref x), some (.int p0), some (.ref w), none] [] I J P
  simp only [g_L_kinks_0, g_L_kinks_1, g_L_kinks_2, g_L_kinks_3, true_and, and_true, rf_s, not_true_eq_false, not_false_eq_true, true_implies, false_implies, kl_i, kl_n, kl_l, kl_r, Option.toList, List.cons_append, List.nil_append, if_true, if_false, u2s, lt00, lt01, lt02, lt03, le10, le20, le30, ne10, ne20, ne30, eq00]
  refine gs_L_kinks_4 ?_
  intro H locs ls hW hL
  refine sg_cE (M := MX8_kinks) (As := [.int p0]) (b := x) (pc2 := 7) rfl (some (.int v)) C hL (d := d) ⟨by show _ ≤ 18; omega, by show _ ≤ 1300; omega⟩ ⟨Nat.zero_le _, Nat.zero_le _⟩ dL_kinks_4 rfl rfl rfl hSx (by rw [hSx]; decide) (Nat.le_of_ble_eq_true rfl) rfl h hW (zt_seg (M := ML_kinks) C ?_)
  simp only [g_L_kinks_7, g_L_kinks_8, g_L_kinks_9, g_L_kinks_12, g_L_kinks_13, g_L_kinks_15, hSo, hNo, vi01, true_and, true_and, and_true, rf_s, not_true_eq_false, not_false_eq_true, true_implies, false_implies, kl_i, kl_n, kl_l, kl_r, Option.toList, List.cons_append, List.nil_append, if_true, if_false, u2s, lt00, lt01, lt02, lt03, le10, le20, le30, ne10, ne20, ne30, eq00]
  refine gs_L_kinks_16 ?_
  intro H1 locs1 ls1 hW1 hL1
  exact sg_endW (M := ML_kinks) C hret hW1 ⟨Nat.zero_le _, Nat.zero_le _⟩ dL_kinks_16
theorem LW_kinks_x1 (hE : tx_ok E) (hSx : E.2.2.1 x = 8) (hSo : E.2.2.1 w = 11) (hNo : E.2.2.2.1 w = 1) {p0 : Int32} (hd : d ≤ 11) (h : MtX l E d MX8_kinks [.ref x, .int p0] I J P 0 I' J' P') : MtW l E ML_kinks hL_kinks [.ref x, .int p0, .ref w] I J P (some (.int 1)) I' J' P' := by
  refine MtW.of hE ML_kinks_ok (Nat.le_of_ble_eq_true rfl) (fun pg e s m args below meth c C htab hret hT => zt_seg (M := ML_kinks) C ?_)
  show Gp E.2.2.1 E.2.2.2.1 true ML_kinks _ 0 [some (.ref x), some (.int p0), some (.ref w), none] [] I J P
  simp only [g_L_kinks_0, g_L_kinks_1, g_L_kinks_2, g_L_kinks_3, true_and, and_true, rf_s, not_true_eq_false, not_false_eq_true, true_implies, false_implies, kl_i, kl_n, kl_l, kl_r, Option.toList, List.cons_append, List.nil_append, if_true, if_false, u2s, lt00, lt01, lt02, lt03, le10, le20, le30, ne10, ne20, ne30, eq00]
  refine gs_L_kinks_4 ?_
  intro H locs ls hW hL
  refine sg_callC (M := MX8_kinks) (As := [.int p0]) (b := x) (d := d) C hT hL htab (pre := []) (suf := []) (a0 := 0) (b0 := 9) (hpc := 12) (ct := 25) rfl (fun _ h => absurd h List.not_mem_nil) (by decide) ctl_0 (by decide) (by decide) ⟨by show _ ≤ 18; omega, by show _ ≤ 1300; omega, Nat.le_refl _, Nat.le_refl _⟩ dL_kinks_4 rfl rfl rfl hSx (by rw [hSx]; decide) (Nat.le_of_ble_eq_true rfl) h hW (fun H1 locs1 q hW1 => seg_ok (M := ML_kinks) C ?_ hW1 hL)
  simp only [g_L_kinks_12, g_L_kinks_13, true_and, and_true, rf_s, not_true_eq_false, not_false_eq_true, true_implies, false_implies, kl_i, kl_n, kl_l, kl_r, Option.toList, List.cons_append, List.nil_append, if_true, if_false, u2s, lt00, lt01, lt02, lt03, le10, le20, le30, ne10, ne20, ne30, eq00]
  refine gs_L_kinks_14 ?_
  intro H2 locs2 ls2 hW2 hL2
  exact sg_endW (M := ML_kinks) C hret hW2 ⟨Nat.le_refl _, Nat.le_refl _⟩ dL_kinks_14
theorem LW_nextKink_ok (hE : tx_ok E) (hSx : E.2.2.1 x = 8) (hSo : E.2.2.1 w = 11) (hNo : E.2.2.2.1 w = 1) {p0 p1 : Int32} (hd : d ≤ 11) {v : Int32} (h : CWp E.2.2.1 E.2.2.2.1 d MX8_nextKink [.ref x, .int p0, .int p1] I J P (Qe (some (.int v)) I' J' P')) : MtW l E ML_nextKink hL_nextKink [.ref x, .int p0, .int p1, .ref w] I J P (some (.int 0)) I' (u2 J' w 0 v.toInt64) P' := by
  refine MtW.of hE ML_nextKink_ok (Nat.le_of_ble_eq_true rfl) (fun pg e s m args below meth c C htab hret hT => zt_seg (M := ML_nextKink) C ?_)
  show Gp E.2.2.1 E.2.2.2.1 true ML_nextKink _ 0 [some (.ref x), some (.int p0), some (.int p1), some (.ref w), none] [] I J P
  simp only [g_L_nextKink_0, g_L_nextKink_1, g_L_nextKink_2, g_L_nextKink_3, g_L_nextKink_4, true_and, and_true, rf_s, not_true_eq_false, not_false_eq_true, true_implies, false_implies, kl_i, kl_n, kl_l, kl_r, Option.toList, List.cons_append, List.nil_append, if_true, if_false, u2s, lt00, lt01, lt02, lt03, le10, le20, le30, ne10, ne20, ne30, eq00]
  refine gs_L_nextKink_5 ?_
  intro H locs ls hW hL
  refine sg_cE (M := MX8_nextKink) (As := [.int p0, .int p1]) (b := x) (pc2 := 8) rfl (some (.int v)) C hL (d := d) ⟨by show _ ≤ 18; omega, by show _ ≤ 1300; omega⟩ ⟨Nat.zero_le _, Nat.zero_le _⟩ dL_nextKink_5 rfl rfl rfl hSx (by rw [hSx]; decide) (Nat.le_of_ble_eq_true rfl) rfl h hW (zt_seg (M := ML_nextKink) C ?_)
  simp only [g_L_nextKink_8, g_L_nextKink_9, g_L_nextKink_10, g_L_nextKink_13, g_L_nextKink_15, g_L_nextKink_17, g_L_nextKink_19, g_L_nextKink_21, hSo, hNo, vi01, true_and, true_and, and_true, rf_s, not_true_eq_false, not_false_eq_true, true_implies, false_implies, kl_i, kl_n, kl_l, kl_r, Option.toList, List.cons_append, List.nil_append, if_true, if_false, u2s, lt00, lt01, lt02, lt03, le10, le20, le30, ne10, ne20, ne30, eq00]
  refine gs_L_nextKink_22 ?_
  intro H1 locs1 ls1 hW1 hL1
  exact sg_endW (M := ML_nextKink) C hret hW1 ⟨Nat.zero_le _, Nat.zero_le _⟩ dL_nextKink_22
theorem LW_nextKink_x1 (hE : tx_ok E) (hSx : E.2.2.1 x = 8) (hSo : E.2.2.1 w = 11) (hNo : E.2.2.2.1 w = 1) {p0 p1 : Int32} (hd : d ≤ 11) (h : MtX l E d MX8_nextKink [.ref x, .int p0, .int p1] I J P 0 I' J' P') : MtW l E ML_nextKink hL_nextKink [.ref x, .int p0, .int p1, .ref w] I J P (some (.int 1)) I' J' P' := by
  refine MtW.of hE ML_nextKink_ok (Nat.le_of_ble_eq_true rfl) (fun pg e s m args below meth c C htab hret hT => zt_seg (M := ML_nextKink) C ?_)
  show Gp E.2.2.1 E.2.2.2.1 true ML_nextKink _ 0 [some (.ref x), some (.int p0), some (.int p1), some (.ref w), none] [] I J P
  simp only [g_L_nextKink_0, g_L_nextKink_1, g_L_nextKink_2, g_L_nextKink_3, g_L_nextKink_4, true_and, and_true, rf_s, not_true_eq_false, not_false_eq_true, true_implies, false_implies, kl_i, kl_n, kl_l, kl_r, Option.toList, List.cons_append, List.nil_append, if_true, if_false, u2s, lt00, lt01, lt02, lt03, le10, le20, le30, ne10, ne20, ne30, eq00]
  refine gs_L_nextKink_5 ?_
  intro H locs ls hW hL
  refine sg_callC (M := MX8_nextKink) (As := [.int p0, .int p1]) (b := x) (d := d) C hT hL htab (pre := []) (suf := [(0, 10, 17, 56)]) (a0 := 0) (b0 := 10) (hpc := 13) (ct := 25) rfl (fun _ h => absurd h List.not_mem_nil) (by decide) ctl_0 (by decide) (by decide) ⟨by show _ ≤ 18; omega, by show _ ≤ 1300; omega, Nat.le_refl _, Nat.le_refl _⟩ dL_nextKink_5 rfl rfl rfl hSx (by rw [hSx]; decide) (Nat.le_of_ble_eq_true rfl) h hW (fun H1 locs1 q hW1 => seg_ok (M := ML_nextKink) C ?_ hW1 hL)
  simp only [g_L_nextKink_13, g_L_nextKink_15, true_and, and_true, rf_s, not_true_eq_false, not_false_eq_true, true_implies, false_implies, kl_i, kl_n, kl_l, kl_r, Option.toList, List.cons_append, List.nil_append, if_true, if_false, u2s, lt00, lt01, lt02, lt03, le10, le20, le30, ne10, ne20, ne30, eq00]
  refine gs_L_nextKink_16 ?_
  intro H2 locs2 ls2 hW2 hL2
  exact sg_endW (M := ML_nextKink) C hret hW2 ⟨Nat.le_refl _, Nat.le_refl _⟩ dL_nextKink_16
theorem LW_nextKink_x2 (hE : tx_ok E) (hSx : E.2.2.1 x = 8) (hSo : E.2.2.1 w = 11) (hNo : E.2.2.2.1 w = 1) {p0 p1 : Int32} (hd : d ≤ 11) (h : MtX l E d MX8_nextKink [.ref x, .int p0, .int p1] I J P 3 I' J' P') : MtW l E ML_nextKink hL_nextKink [.ref x, .int p0, .int p1, .ref w] I J P (some (.int 2)) I' J' P' := by
  refine MtW.of hE ML_nextKink_ok (Nat.le_of_ble_eq_true rfl) (fun pg e s m args below meth c C htab hret hT => zt_seg (M := ML_nextKink) C ?_)
  show Gp E.2.2.1 E.2.2.2.1 true ML_nextKink _ 0 [some (.ref x), some (.int p0), some (.int p1), some (.ref w), none] [] I J P
  simp only [g_L_nextKink_0, g_L_nextKink_1, g_L_nextKink_2, g_L_nextKink_3, g_L_nextKink_4, true_and, and_true, rf_s, not_true_eq_false, not_false_eq_true, true_implies, false_implies, kl_i, kl_n, kl_l, kl_r, Option.toList, List.cons_append, List.nil_append, if_true, if_false, u2s, lt00, lt01, lt02, lt03, le10, le20, le30, ne10, ne20, ne30, eq00]
  refine gs_L_nextKink_5 ?_
  intro H locs ls hW hL
  refine sg_callC (M := MX8_nextKink) (As := [.int p0, .int p1]) (b := x) (d := d) C hT hL htab (pre := [(0, 10, 13, 25)]) (suf := []) (a0 := 0) (b0 := 10) (hpc := 17) (ct := 56) rfl (List.forall_mem_cons.mpr ⟨⟨by decide, 0, ctl_0, List.mem_of_getElem? (i := 3) rfl⟩, fun _ h => absurd h List.not_mem_nil⟩) (by decide) ctl_3 (by decide) (by decide) ⟨by show _ ≤ 18; omega, by show _ ≤ 1300; omega, Nat.le_refl _, Nat.le_refl _⟩ dL_nextKink_5 rfl rfl rfl hSx (by rw [hSx]; decide) (Nat.le_of_ble_eq_true rfl) h hW (fun H1 locs1 q hW1 => seg_ok (M := ML_nextKink) C ?_ hW1 hL)
  simp only [g_L_nextKink_17, g_L_nextKink_19, true_and, and_true, rf_s, not_true_eq_false, not_false_eq_true, true_implies, false_implies, kl_i, kl_n, kl_l, kl_r, Option.toList, List.cons_append, List.nil_append, if_true, if_false, u2s, lt00, lt01, lt02, lt03, le10, le20, le30, ne10, ne20, ne30, eq00]
  refine gs_L_nextKink_20 ?_
  intro H2 locs2 ls2 hW2 hL2
  exact sg_endW (M := ML_nextKink) C hret hW2 ⟨Nat.le_refl _, Nat.le_refl _⟩ dL_nextKink_20
theorem LW_kinkCause_ok (hE : tx_ok E) (hSx : E.2.2.1 x = 8) (hSo : E.2.2.1 w = 11) (hNo : E.2.2.2.1 w = 1) {p0 p1 : Int32} (hd : d ≤ 11) {v : Int32} (h : CWp E.2.2.1 E.2.2.2.1 d MX8_kinkCause [.ref x, .int p0, .int p1] I J P (Qe (some (.int v)) I' J' P')) : MtW l E ML_kinkCause hL_kinkCause [.ref x, .int p0, .int p1, .ref w] I J P (some (.int 0)) I' (u2 J' w 0 v.toInt64) P' := by
  refine MtW.of hE ML_kinkCause_ok (Nat.le_of_ble_eq_true rfl) (fun pg e s m args below meth c C htab hret hT => zt_seg (M := ML_kinkCause) C ?_)
  show Gp E.2.2.1 E.2.2.2.1 true ML_kinkCause _ 0 [some (.ref x), some (.int p0), some (.int p1), some (.ref w), none] [] I J P
  simp only [g_L_kinkCause_0, g_L_kinkCause_1, g_L_kinkCause_2, g_L_kinkCause_3, g_L_kinkCause_4, true_and, and_true, rf_s, not_true_eq_false, not_false_eq_true, true_implies, false_implies, kl_i, kl_n, kl_l, kl_r, Option.toList, List.cons_append, List.nil_append, if_true, if_false, u2s, lt00, lt01, lt02, lt03, le10, le20, le30, ne10, ne20, ne30, eq00]
  refine gs_L_kinkCause_5 ?_
  intro H locs ls hW hL
  refine sg_cE (M := MX8_kinkCause) (As := [.int p0, .int p1]) (b := x) (pc2 := 8) rfl (some (.int v)) C hL (d := d) ⟨by show _ ≤ 18; omega, by show _ ≤ 1300; omega⟩ ⟨Nat.zero_le _, Nat.zero_le _⟩ dL_kinkCause_5 rfl rfl rfl hSx (by rw [hSx]; decide) (Nat.le_of_ble_eq_true rfl) rfl h hW (zt_seg (M := ML_kinkCause) C ?_)
  simp only [g_L_kinkCause_8, g_L_kinkCause_9, g_L_kinkCause_10, g_L_kinkCause_13, g_L_kinkCause_15, g_L_kinkCause_17, g_L_kinkCause_19, g_L_kinkCause_21, hSo, hNo, vi01, true_and, true_and, and_true, rf_s, not_true_eq_false, not_false_eq_true, true_implies, false_implies, kl_i, kl_n, kl_l, kl_r, Option.toList, List.cons_append, List.nil_append, if_true, if_false, u2s, lt00, lt01, lt02, lt03, le10, le20, le30, ne10, ne20, ne30, eq00]
  refine gs_L_kinkCause_22 ?_
  intro H1 locs1 ls1 hW1 hL1
  exact sg_endW (M := ML_kinkCause) C hret hW1 ⟨Nat.zero_le _, Nat.zero_le _⟩ dL_kinkCause_22
theorem LW_kinkCause_x1 (hE : tx_ok E) (hSx : E.2.2.1 x = 8) (hSo : E.2.2.1 w = 11) (hNo : E.2.2.2.1 w = 1) {p0 p1 : Int32} (hd : d ≤ 11) (h : MtX l E d MX8_kinkCause [.ref x, .int p0, .int p1] I J P 0 I' J' P') : MtW l E ML_kinkCause hL_kinkCause [.ref x, .int p0, .int p1, .ref w] I J P (some (.int 1)) I' J' P' := by
  refine MtW.of hE ML_kinkCause_ok (Nat.le_of_ble_eq_true rfl) (fun pg e s m args below meth c C htab hret hT => zt_seg (M := ML_kinkCause) C ?_)
  show Gp E.2.2.1 E.2.2.2.1 true ML_kinkCause _ 0 [some (.ref x), some (.int p0), some (.int p1), some (.ref w), none] [] I J P
  simp only [g_L_kinkCause_0, g_L_kinkCause_1, g_L_kinkCause_2, g_L_kinkCause_3, g_L_kinkCause_4, true_and, and_true, rf_s, not_true_eq_false, not_false_eq_true, true_implies, false_implies, kl_i, kl_n, kl_l, kl_r, Option.toList, List.cons_append, List.nil_append, if_true, if_false, u2s, lt00, lt01, lt02, lt03, le10, le20, le30, ne10, ne20, ne30, eq00]
  refine gs_L_kinkCause_5 ?_
  intro H locs ls hW hL
  refine sg_callC (M := MX8_kinkCause) (As := [.int p0, .int p1]) (b := x) (d := d) C hT hL htab (pre := []) (suf := [(0, 10, 17, 56)]) (a0 := 0) (b0 := 10) (hpc := 13) (ct := 25) rfl (fun _ h => absurd h List.not_mem_nil) (by decide) ctl_0 (by decide) (by decide) ⟨by show _ ≤ 18; omega, by show _ ≤ 1300; omega, Nat.le_refl _, Nat.le_refl _⟩ dL_kinkCause_5 rfl rfl rfl hSx (by rw [hSx]; decide) (Nat.le_of_ble_eq_true rfl) h hW (fun H1 locs1 q hW1 => seg_ok (M := ML_kinkCause) C ?_ hW1 hL)
  simp only [g_L_kinkCause_13, g_L_kinkCause_15, true_and, and_true, rf_s, not_true_eq_false, not_false_eq_true, true_implies, false_implies, kl_i, kl_n, kl_l, kl_r, Option.toList, List.cons_append, List.nil_append, if_true, if_false, u2s, lt00, lt01, lt02, lt03, le10, le20, le30, ne10, ne20, ne30, eq00]
  refine gs_L_kinkCause_16 ?_
  intro H2 locs2 ls2 hW2 hL2
  exact sg_endW (M := ML_kinkCause) C hret hW2 ⟨Nat.le_refl _, Nat.le_refl _⟩ dL_kinkCause_16
theorem LW_kinkCause_x2 (hE : tx_ok E) (hSx : E.2.2.1 x = 8) (hSo : E.2.2.1 w = 11) (hNo : E.2.2.2.1 w = 1) {p0 p1 : Int32} (hd : d ≤ 11) (h : MtX l E d MX8_kinkCause [.ref x, .int p0, .int p1] I J P 3 I' J' P') : MtW l E ML_kinkCause hL_kinkCause [.ref x, .int p0, .int p1, .ref w] I J P (some (.int 2)) I' J' P' := by
  refine MtW.of hE ML_kinkCause_ok (Nat.le_of_ble_eq_true rfl) (fun pg e s m args below meth c C htab hret hT => zt_seg (M := ML_kinkCause) C ?_)
  show Gp E.2.2.1 E.2.2.2.1 true ML_kinkCause _ 0 [some (.ref x), some (.int p0), some (.int p1), some (.ref w), none] [] I J P
  simp only [g_L_kinkCause_0, g_L_kinkCause_1, g_L_kinkCause_2, g_L_kinkCause_3, g_L_kinkCause_4, true_and, and_true, rf_s, not_true_eq_false, not_false_eq_true, true_implies, false_implies, kl_i, kl_n, kl_l, kl_r, Option.toList, List.cons_append, List.nil_append, if_true, if_false, u2s, lt00, lt01, lt02, lt03, le10, le20, le30, ne10, ne20, ne30, eq00]
  refine gs_L_kinkCause_5 ?_
  intro H locs ls hW hL
  refine sg_callC (M := MX8_kinkCause) (As := [.int p0, .int p1]) (b := x) (d := d) C hT hL htab (pre := [(0, 10, 13, 25)]) (suf := []) (a0 := 0) (b0 := 10) (hpc := 17) (ct := 56) rfl (List.forall_mem_cons.mpr ⟨⟨by decide, 0, ctl_0, List.mem_of_getElem? (i := 3) rfl⟩, fun _ h => absurd h List.not_mem_nil⟩) (by decide) ctl_3 (by decide) (by decide) ⟨by show _ ≤ 18; omega, by show _ ≤ 1300; omega, Nat.le_refl _, Nat.le_refl _⟩ dL_kinkCause_5 rfl rfl rfl hSx (by rw [hSx]; decide) (Nat.le_of_ble_eq_true rfl) h hW (fun H1 locs1 q hW1 => seg_ok (M := ML_kinkCause) C ?_ hW1 hL)
  simp only [g_L_kinkCause_17, g_L_kinkCause_19, true_and, and_true, rf_s, not_true_eq_false, not_false_eq_true, true_implies, false_implies, kl_i, kl_n, kl_l, kl_r, Option.toList, List.cons_append, List.nil_append, if_true, if_false, u2s, lt00, lt01, lt02, lt03, le10, le20, le30, ne10, ne20, ne30, eq00]
  refine gs_L_kinkCause_20 ?_
  intro H2 locs2 ls2 hW2 hL2
  exact sg_endW (M := ML_kinkCause) C hret hW2 ⟨Nat.le_refl _, Nat.le_refl _⟩ dL_kinkCause_20
theorem LW_steepest_ok (hE : tx_ok E) (hSx : E.2.2.1 x = 8) (hSo : E.2.2.1 w = 11) (hNo : E.2.2.2.1 w = 1) {p0 : Int32} (hd : d ≤ 11) {v : Int32} (h : CWp E.2.2.1 E.2.2.2.1 d MX8_steepest [.ref x, .int p0] I J P (Qe (some (.int v)) I' J' P')) : MtW l E ML_steepest hL_steepest [.ref x, .int p0, .ref w] I J P (some (.int 0)) I' (u2 J' w 0 v.toInt64) P' := by
  refine MtW.of hE ML_steepest_ok (Nat.le_of_ble_eq_true rfl) (fun pg e s m args below meth c C htab hret hT => zt_seg (M := ML_steepest) C ?_)
  show Gp E.2.2.1 E.2.2.2.1 true ML_steepest _ 0 [some (.ref x), some (.int p0), some (.ref w), none] [] I J P
  simp only [g_L_steepest_0, g_L_steepest_1, g_L_steepest_2, g_L_steepest_3, true_and, and_true, rf_s, not_true_eq_false, not_false_eq_true, true_implies, false_implies, kl_i, kl_n, kl_l, kl_r, Option.toList, List.cons_append, List.nil_append, if_true, if_false, u2s, lt00, lt01, lt02, lt03, le10, le20, le30, ne10, ne20, ne30, eq00]
  refine gs_L_steepest_4 ?_
  intro H locs ls hW hL
  refine sg_cE (M := MX8_steepest) (As := [.int p0]) (b := x) (pc2 := 7) rfl (some (.int v)) C hL (d := d) ⟨by show _ ≤ 18; omega, by show _ ≤ 1300; omega⟩ ⟨Nat.zero_le _, Nat.zero_le _⟩ dL_steepest_4 rfl rfl rfl hSx (by rw [hSx]; decide) (Nat.le_of_ble_eq_true rfl) rfl h hW (zt_seg (M := ML_steepest) C ?_)
  simp only [g_L_steepest_7, g_L_steepest_8, g_L_steepest_9, g_L_steepest_12, g_L_steepest_13, g_L_steepest_15, hSo, hNo, vi01, true_and, true_and, and_true, rf_s, not_true_eq_false, not_false_eq_true, true_implies, false_implies, kl_i, kl_n, kl_l, kl_r, Option.toList, List.cons_append, List.nil_append, if_true, if_false, u2s, lt00, lt01, lt02, lt03, le10, le20, le30, ne10, ne20, ne30, eq00]
  refine gs_L_steepest_16 ?_
  intro H1 locs1 ls1 hW1 hL1
  exact sg_endW (M := ML_steepest) C hret hW1 ⟨Nat.zero_le _, Nat.zero_le _⟩ dL_steepest_16
theorem LW_steepest_x1 (hE : tx_ok E) (hSx : E.2.2.1 x = 8) (hSo : E.2.2.1 w = 11) (hNo : E.2.2.2.1 w = 1) {p0 : Int32} (hd : d ≤ 11) (h : MtX l E d MX8_steepest [.ref x, .int p0] I J P 0 I' J' P') : MtW l E ML_steepest hL_steepest [.ref x, .int p0, .ref w] I J P (some (.int 1)) I' J' P' := by
  refine MtW.of hE ML_steepest_ok (Nat.le_of_ble_eq_true rfl) (fun pg e s m args below meth c C htab hret hT => zt_seg (M := ML_steepest) C ?_)
  show Gp E.2.2.1 E.2.2.2.1 true ML_steepest _ 0 [some (.ref x), some (.int p0), some (.ref w), none] [] I J P
  simp only [g_L_steepest_0, g_L_steepest_1, g_L_steepest_2, g_L_steepest_3, true_and, and_true, rf_s, not_true_eq_false, not_false_eq_true, true_implies, false_implies, kl_i, kl_n, kl_l, kl_r, Option.toList, List.cons_append, List.nil_append, if_true, if_false, u2s, lt00, lt01, lt02, lt03, le10, le20, le30, ne10, ne20, ne30, eq00]
  refine gs_L_steepest_4 ?_
  intro H locs ls hW hL
  refine sg_callC (M := MX8_steepest) (As := [.int p0]) (b := x) (d := d) C hT hL htab (pre := []) (suf := []) (a0 := 0) (b0 := 9) (hpc := 12) (ct := 25) rfl (fun _ h => absurd h List.not_mem_nil) (by decide) ctl_0 (by decide) (by decide) ⟨by show _ ≤ 18; omega, by show _ ≤ 1300; omega, Nat.le_refl _, Nat.le_refl _⟩ dL_steepest_4 rfl rfl rfl hSx (by rw [hSx]; decide) (Nat.le_of_ble_eq_true rfl) h hW (fun H1 locs1 q hW1 => seg_ok (M := ML_steepest) C ?_ hW1 hL)
  simp only [g_L_steepest_12, g_L_steepest_13, true_and, and_true, rf_s, not_true_eq_false, not_false_eq_true, true_implies, false_implies, kl_i, kl_n, kl_l, kl_r, Option.toList, List.cons_append, List.nil_append, if_true, if_false, u2s, lt00, lt01, lt02, lt03, le10, le20, le30, ne10, ne20, ne30, eq00]
  refine gs_L_steepest_14 ?_
  intro H2 locs2 ls2 hW2 hL2
  exact sg_endW (M := ML_steepest) C hret hW2 ⟨Nat.le_refl _, Nat.le_refl _⟩ dL_steepest_14
theorem LW_undo_ok (hE : tx_ok E) (hSx : E.2.2.1 x = 8) (hSo : E.2.2.1 w = 11) (hNo : E.2.2.2.1 w = 1) (hd : d ≤ 11) {v : Int32} (h : CWp E.2.2.1 E.2.2.2.1 d MX8_undo [.ref x] I J P (Qe (some (.int v)) I' J' P')) : MtW l E ML_undo hL_undo [.ref x, .ref w] I J P (some (.int 0)) I' (u2 J' w 0 v.toInt64) P' := by
  refine MtW.of hE ML_undo_ok (Nat.le_of_ble_eq_true rfl) (fun pg e s m args below meth c C htab hret hT => zt_seg (M := ML_undo) C ?_)
  show Gp E.2.2.1 E.2.2.2.1 true ML_undo _ 0 [some (.ref x), some (.ref w), none] [] I J P
  simp only [g_L_undo_0, g_L_undo_1, g_L_undo_2, true_and, and_true, rf_s, not_true_eq_false, not_false_eq_true, true_implies, false_implies, kl_i, kl_n, kl_l, kl_r, Option.toList, List.cons_append, List.nil_append, if_true, if_false, u2s, lt00, lt01, lt02, lt03, le10, le20, le30, ne10, ne20, ne30, eq00]
  refine gs_L_undo_3 ?_
  intro H locs ls hW hL
  refine sg_cE (M := MX8_undo) (As := []) (b := x) (pc2 := 6) rfl (some (.int v)) C hL (d := d) ⟨by show _ ≤ 18; omega, by show _ ≤ 1300; omega⟩ ⟨Nat.zero_le _, Nat.zero_le _⟩ dL_undo_3 rfl rfl rfl hSx (by rw [hSx]; decide) (Nat.le_of_ble_eq_true rfl) rfl h hW (zt_seg (M := ML_undo) C ?_)
  simp only [g_L_undo_6, g_L_undo_7, g_L_undo_8, g_L_undo_11, g_L_undo_12, g_L_undo_14, hSo, hNo, vi01, true_and, true_and, and_true, rf_s, not_true_eq_false, not_false_eq_true, true_implies, false_implies, kl_i, kl_n, kl_l, kl_r, Option.toList, List.cons_append, List.nil_append, if_true, if_false, u2s, lt00, lt01, lt02, lt03, le10, le20, le30, ne10, ne20, ne30, eq00]
  refine gs_L_undo_15 ?_
  intro H1 locs1 ls1 hW1 hL1
  exact sg_endW (M := ML_undo) C hret hW1 ⟨Nat.zero_le _, Nat.zero_le _⟩ dL_undo_15
theorem LW_undo_x1 (hE : tx_ok E) (hSx : E.2.2.1 x = 8) (hSo : E.2.2.1 w = 11) (hNo : E.2.2.2.1 w = 1) (hd : d ≤ 11) (h : MtX l E d MX8_undo [.ref x] I J P 2 I' J' P') : MtW l E ML_undo hL_undo [.ref x, .ref w] I J P (some (.int 1)) I' J' P' := by
  refine MtW.of hE ML_undo_ok (Nat.le_of_ble_eq_true rfl) (fun pg e s m args below meth c C htab hret hT => zt_seg (M := ML_undo) C ?_)
  show Gp E.2.2.1 E.2.2.2.1 true ML_undo _ 0 [some (.ref x), some (.ref w), none] [] I J P
  simp only [g_L_undo_0, g_L_undo_1, g_L_undo_2, true_and, and_true, rf_s, not_true_eq_false, not_false_eq_true, true_implies, false_implies, kl_i, kl_n, kl_l, kl_r, Option.toList, List.cons_append, List.nil_append, if_true, if_false, u2s, lt00, lt01, lt02, lt03, le10, le20, le30, ne10, ne20, ne30, eq00]
  refine gs_L_undo_3 ?_
  intro H locs ls hW hL
  refine sg_callC (M := MX8_undo) (As := []) (b := x) (d := d) C hT hL htab (pre := []) (suf := []) (a0 := 0) (b0 := 8) (hpc := 11) (ct := 15) rfl (fun _ h => absurd h List.not_mem_nil) (by decide) ctl_2 (by decide) (by decide) ⟨by show _ ≤ 18; omega, by show _ ≤ 1300; omega, Nat.le_refl _, Nat.le_refl _⟩ dL_undo_3 rfl rfl rfl hSx (by rw [hSx]; decide) (Nat.le_of_ble_eq_true rfl) h hW (fun H1 locs1 q hW1 => seg_ok (M := ML_undo) C ?_ hW1 hL)
  simp only [g_L_undo_11, g_L_undo_12, true_and, and_true, rf_s, not_true_eq_false, not_false_eq_true, true_implies, false_implies, kl_i, kl_n, kl_l, kl_r, Option.toList, List.cons_append, List.nil_append, if_true, if_false, u2s, lt00, lt01, lt02, lt03, le10, le20, le30, ne10, ne20, ne30, eq00]
  refine gs_L_undo_13 ?_
  intro H2 locs2 ls2 hW2 hL2
  exact sg_endW (M := ML_undo) C hret hW2 ⟨Nat.le_refl _, Nat.le_refl _⟩ dL_undo_13
theorem LW_restore_ok (hE : tx_ok E) (hSx : E.2.2.1 x = 8) (hd : d ≤ 11) (h : CWp E.2.2.1 E.2.2.2.1 d MX8_restore [.ref x] I J P (Qe none I' J' P')) : MtW l E ML_restore hL_restore [.ref x] I J P (some (.int 0)) I' J' P' := by
  refine MtW.of hE ML_restore_ok (Nat.le_of_ble_eq_true rfl) (fun pg e s m args below meth c C htab hret hT => zt_seg (M := ML_restore) C ?_)
  show Gp E.2.2.1 E.2.2.2.1 true ML_restore _ 0 [some (.ref x), none] [] I J P
  simp only [g_L_restore_0, true_and, and_true, rf_s, not_true_eq_false, not_false_eq_true, true_implies, false_implies, kl_i, kl_n, kl_l, kl_r, Option.toList, List.cons_append, List.nil_append, if_true, if_false, u2s, lt00, lt01, lt02, lt03, le10, le20, le30, ne10, ne20, ne30, eq00]
  refine gs_L_restore_1 ?_
  intro H locs ls hW hL
  refine sg_cE (M := MX8_restore) (As := []) (b := x) (pc2 := 4) rfl none C hL (d := d) ⟨by show _ ≤ 18; omega, by show _ ≤ 1300; omega⟩ ⟨Nat.zero_le _, Nat.zero_le _⟩ dL_restore_1 rfl rfl rfl hSx (by rw [hSx]; decide) (Nat.le_of_ble_eq_true rfl) rfl h hW (zt_seg (M := ML_restore) C ?_)
  simp only [g_L_restore_4, g_L_restore_7, g_L_restore_8, g_L_restore_10, true_and, and_true, rf_s, not_true_eq_false, not_false_eq_true, true_implies, false_implies, kl_i, kl_n, kl_l, kl_r, Option.toList, List.cons_append, List.nil_append, if_true, if_false, u2s, lt00, lt01, lt02, lt03, le10, le20, le30, ne10, ne20, ne30, eq00]
  refine gs_L_restore_11 ?_
  intro H1 locs1 ls1 hW1 hL1
  exact sg_endW (M := ML_restore) C hret hW1 ⟨Nat.zero_le _, Nat.zero_le _⟩ dL_restore_11
theorem LW_restore_x1 (hE : tx_ok E) (hSx : E.2.2.1 x = 8) (hd : d ≤ 11) (h : MtX l E d MX8_restore [.ref x] I J P 2 I' J' P') : MtW l E ML_restore hL_restore [.ref x] I J P (some (.int 1)) I' J' P' := by
  refine MtW.of hE ML_restore_ok (Nat.le_of_ble_eq_true rfl) (fun pg e s m args below meth c C htab hret hT => zt_seg (M := ML_restore) C ?_)
  show Gp E.2.2.1 E.2.2.2.1 true ML_restore _ 0 [some (.ref x), none] [] I J P
  simp only [g_L_restore_0, true_and, and_true, rf_s, not_true_eq_false, not_false_eq_true, true_implies, false_implies, kl_i, kl_n, kl_l, kl_r, Option.toList, List.cons_append, List.nil_append, if_true, if_false, u2s, lt00, lt01, lt02, lt03, le10, le20, le30, ne10, ne20, ne30, eq00]
  refine gs_L_restore_1 ?_
  intro H locs ls hW hL
  refine sg_callC (M := MX8_restore) (As := []) (b := x) (d := d) C hT hL htab (pre := []) (suf := []) (a0 := 0) (b0 := 4) (hpc := 7) (ct := 15) rfl (fun _ h => absurd h List.not_mem_nil) (by decide) ctl_2 (by decide) (by decide) ⟨by show _ ≤ 18; omega, by show _ ≤ 1300; omega, Nat.le_refl _, Nat.le_refl _⟩ dL_restore_1 rfl rfl rfl hSx (by rw [hSx]; decide) (Nat.le_of_ble_eq_true rfl) h hW (fun H1 locs1 q hW1 => seg_ok (M := ML_restore) C ?_ hW1 hL)
  simp only [g_L_restore_7, g_L_restore_8, true_and, and_true, rf_s, not_true_eq_false, not_false_eq_true, true_implies, false_implies, kl_i, kl_n, kl_l, kl_r, Option.toList, List.cons_append, List.nil_append, if_true, if_false, u2s, lt00, lt01, lt02, lt03, le10, le20, le30, ne10, ne20, ne30, eq00]
  refine gs_L_restore_9 ?_
  intro H2 locs2 ls2 hW2 hL2
  exact sg_endW (M := ML_restore) C hret hW2 ⟨Nat.le_refl _, Nat.le_refl _⟩ dL_restore_9
end WR

/-! the law's cases -/
theorem nIa2 (i : Nat) : nI i + 2 = nI (i + 2) := nI_add i 2
theorem nIa3 (i : Nat) : nI i + 3 = nI (i + 3) := nI_add i 3
theorem nIa4 (i : Nat) : nI i + 4 = nI (i + 4) := nI_add i 4
theorem nIa5 (i : Nat) : nI i + 5 = nI (i + 5) := nI_add i 5
theorem rt_bool {i : Instr} {st : List Value} {r : Option Value} (h : tx_rt (some .boolean) i st r) : ∃ v, r = some (.int v) ∧ (v = 0 ∨ v = 1) := by
  unfold tx_rt at h
  split at h
  · obtain ⟨⟨ty, h1, h2⟩, h3⟩ := h
    cases h1
    rename_i v
    refine ⟨v, h3, ?_⟩
    have h4 : v &&& 1 = v := by
      simp only [narrow, Value.int.injEq] at h2
      exact h2
    have h5 : v.toBitVec &&& 1#32 = v.toBitVec := congrArg Int32.toBitVec h4
    have h6 := congrArg BitVec.toNat h5
    rw [BitVec.toNat_and, show (1#32).toNat = 1 from rfl, Nat.and_one_is_mod] at h6
    have h7 : v.toBitVec.toNat = 0 ∨ v.toBitVec.toNat = 1 := by omega
    rcases h7 with z | z
    · exact Or.inl (Int32.toBitVec_inj.mp (BitVec.eq_of_toNat_eq (by rw [z]; rfl)))
    · exact Or.inr (Int32.toBitVec_inj.mp (BitVec.eq_of_toNat_eq (by rw [z]; rfl)))
  · cases h.1
  · obtain ⟨⟨n, h1⟩, -⟩ := h
    cases h1
  · cases h.1
  · exact h.elim
theorem cw_bool {S N : Nat → Nat} {d : Nat} {M : MR} {As : List Value} {I I' : IM} {J J' : JM} {P P' : PM} {r : Option Value} (h : CWp S N d M As I J P (Qe r I' J' P')) (hrt : M.2.2.2.1 = some .boolean) : ∃ v, r = some (.int v) ∧ (v = 0 ∨ v = 1) := by
  obtain ⟨i, st, h1⟩ := cw_rt h
  rw [hrt] at h1
  exact rt_bool h1
theorem Iv.sh {S N : Nat → Nat} {x m w b : Nat} {xs : Nat → Int32} {P : PM} {I : IM} {J : JM} (hv : Iv S N x m w b xs P I J) : S x = 8 ∧ S m = 9 ∧ w ≠ b ∧ S w = 11 ∧ N w = 1 := by
  obtain ⟨⟨a1, a2, a3⟩, ⟨hSo, hNo⟩, hb, g, h, nb, nc, nk, pn, G, H, sv, g3, h3, c, n, f, hg, hn, ⟨πd, π, πs, πh, o, hw, hr, hH, hsv, hT⟩, hM⟩ := hv
  exact ⟨hw.f.1, hM.1.1, by omega, hSo, hNo⟩
theorem Iv.thr {S N : Nat → Nat} {x m w b d : Nat} {xs : Nat → Int32} {P : PM} {I : IM} {J : JM} {k : Int32} (hv : Iv S N x m w b xs P I J) (h8 : I m 8 = k) : CWp S N d MX9_thrown [.ref m] I J P (Qe (some (.int k)) I J P) := by
  obtain ⟨-, -, -, g, h, nb, nc, nk, pn, G, H, sv, g3, h3, c, n, f, hg, hn, -, hM⟩ := hv
  exact (s_thrown hM.1).mpr ⟨by rw [h8], rfl, rfl, rfl⟩
section LAWC
variable {p : Program} {l : Launch} {e : Env} {R : Room} {s : State} {m : MethodId} {args : Array Value} {below : List Frame} {meth : Method} {c : Code} {Q : State → Prop}
variable {E : tx_En} {cells slots b L od x m9 w i : Nat} {xs : Nat → Int32}
/-- at the loop's head: the script's length is asked for -/
def Lh (p : Program) (l : Launch) (e : Env) (R : Room) (s : State) (m : MethodId) (args : Array Value) (below : List Frame) (meth : Method) (c : Code) (Q : State → Prop) (E : tx_En) (b L : Nat) (xs : Nat → Int32) (x m9 w od i cells slots : Nat) : Prop :=
  ∀ (I : IM) (J : JM) (P : PM) (H : Heap) (locs : List Loc) (ls : Array Slot) (y6 y7 y8 y9 : Option Value), WL E s b L xs od I J P H locs → Iv E.2.2.1 E.2.2.2.1 x m9 w b xs P I J → Lv ls 10 [some (.ref b), some (.ref x), some (.ref m9), some (.ref w), some (.ref od), some (.int (nI i)), y6, y7, y8, y9] → W p l e R s m args below meth c H locs cells slots Q (F0 m 31 ls [.ref b, .int (nI i)])
theorem Lh.up (h : Lh p l e R s m args below meth c Q E b L xs x m9 w od i (cells + 1) (slots + 6)) : Lh p l e R s m args below meth c Q E b L xs x m9 w od i cells slots := fun I J P H locs ls y6 y7 y8 y9 hW hv hL => W.widen (Nat.le_succ _) (Nat.le_add_right _ _) (h I J P H locs ls y6 y7 y8 y9 hW hv hL)
theorem law_c0 (C : Cx E 10 cL_law 10 p s m args meth c) (hT : TX E s) (hEA : ∀ q, q ∈ E.2.2.2.2 → s.heap.size ≤ q) (hfl : l.stackTraces = false) (hR : 19 ≤ R.frames ∧ 1400 ≤ R.locals) (hcs : cells + 1 ≤ R.cells ∧ slots + 6 ≤ R.slots) (hi : i + 5 ≤ L) (hLL : L ≤ 2560) (hk : Lh p l e R s m args below meth c Q E b L xs x m9 w od (i + 5) (cells + 1) (slots + 6)) : Lp p l e R s m args below meth c Q E b L xs x m9 w od 224 i cells slots := by
  intro I J P H locs ls y6 y7 y8 y9 hW hv hL
  have hE := C.2.2.2.2.2.2.2
  have hb := hv.2.2.1
  obtain ⟨hx8, hm9, hwb, hSo, hNo⟩ := hv.sh
  obtain ⟨k, I1, J1, P1, rb, I2, J2, hw, hb1, hc, h8, hr, hv2⟩ := op_appendCharacter hE hfl hv (xs (i + 1))
  obtain ⟨v, rfl⟩ := cw_int hc (Or.inl rfl)
  have hb2 := hv2.2.2.1
  refine segB_ok (M := ML_law) C hW hb ?_ hL
  simp only [g_L_law_224, g_L_law_225, g_L_law_226, g_L_law_228, g_L_law_229, g_L_law_230, g_L_law_231, nIp, nIa2, nIa3, nIa4, nI_clamp (show i + 1 < 2 ^ 31 by omega), nI_clamp (show i + 2 < 2 ^ 31 by omega), nI_clamp (show i + 3 < 2 ^ 31 by omega), nI_clamp (show i + 4 < 2 ^ 31 by omega), vpn (show i + 1 < L by omega) (show L < 2 ^ 31 by omega), vpn (show i + 2 < L by omega) (show L < 2 ^ 31 by omega), vpn (show i + 3 < L by omega) (show L < 2 ^ 31 by omega), vpn (show i + 4 < L by omega) (show L < 2 ^ 31 by omega), S2_b, N2_b, hb, true_and, and_true, rf_s, not_true_eq_false, not_false_eq_true, true_implies, false_implies, kl_i, kl_n, kl_l, kl_r, Option.toList, List.cons_append, List.nil_append, if_true, if_false, u2s, lt00, lt01, lt02, lt03, le10, le20, le30, ne10, ne20, ne30, eq00]
  refine gs_L_law_232 ?_
  rintro - ls1 hL1
  refine sg_cWL (M := ML_appendCharacter) (As := [.ref x, .int (xs (i + 1)), .ref w]) (pc2 := 235) rfl C hT hEA hL1 hR hcs dL_law_232 lk_appendCharacter ML_appendCharacter_ok rfl rfl hw hW (fun H1 locs1 hW1 => ?_)
  refine segB_ok (M := ML_law) C hW1 hb1 ?_ hL1
  simp only [g_L_law_235, g_L_law_237, g_L_law_238, g_L_law_239, g_L_law_241, g_L_law_242, g_L_law_243, nIp, nIa2, nIa3, nIa4, nI_clamp (show i + 1 < 2 ^ 31 by omega), nI_clamp (show i + 2 < 2 ^ 31 by omega), nI_clamp (show i + 3 < 2 ^ 31 by omega), nI_clamp (show i + 4 < 2 ^ 31 by omega), vpn (show i + 1 < L by omega) (show L < 2 ^ 31 by omega), vpn (show i + 2 < L by omega) (show L < 2 ^ 31 by omega), vpn (show i + 3 < L by omega) (show L < 2 ^ 31 by omega), vpn (show i + 4 < L by omega) (show L < 2 ^ 31 by omega), S2_b, N2_b, hb1, true_and, and_true, rf_s, not_true_eq_false, not_false_eq_true, true_implies, false_implies, kl_i, kl_n, kl_l, kl_r, Option.toList, List.cons_append, List.nil_append, if_true, if_false, u2s, lt00, lt01, lt02, lt03, le10, le20, le30, ne10, ne20, ne30, eq00]
  refine gs_L_law_244 ?_
  rintro - ls2 hL2
  refine sg_cL (M := MX9_appendCharacter) (As := [.int (xs (i + 1))]) (b' := m9) (pc2 := 247) rfl (some (.int v)) C hL2 (d := 11) ⟨by omega, by omega⟩ ⟨by omega, by omega⟩ dL_law_244 rfl rfl rfl hm9 (by rw [hm9]; decide) (Nat.zero_le _) rfl hc hW1 (fun H2 locs2 hW2 => ?_)
  refine segB_ok (M := ML_law) C hW2 hb2 ?_ hL2
  simp only [g_L_law_247, g_L_law_249, S2_b, true_and, and_true, rf_s, not_true_eq_false, not_false_eq_true, true_implies, false_implies, kl_i, kl_n, kl_l, kl_r, Option.toList, List.cons_append, List.nil_append, if_true, if_false, u2s, lt00, lt01, lt02, lt03, le10, le20, le30, ne10, ne20, ne30, eq00]
  refine gs_L_law_250 ?_
  rintro - ls3 hL3
  refine sg_cL (M := MX9_thrown) (As := []) (b' := m9) (pc2 := 253) rfl (some (.int k)) C hL3 (d := 0) ⟨by omega, by omega⟩ ⟨by omega, by omega⟩ dL_law_250 rfl rfl rfl hm9 (by rw [hm9]; decide) (Nat.zero_le _) rfl (hv2.thr h8) hW2 (fun H3 locs3 hW3 => ?_)
  have ek : (k = k) = True := eq_self _
  refine segB_ok (M := ML_law) C hW3 hb2 ?_ hL3
  by_cases hk0 : k = 0
  · have hout : J2 w 0 = v.toInt64 := hr hk0 _ rfl
    have ev : (v.toInt64 = v.toInt64) = True := eq_self _
    simp only [g_L_law_253, g_L_law_255, g_L_law_258, g_L_law_260, g_L_law_262, g_L_law_265, g_L_law_266, g_L_law_267, g_L_law_268, g_L_law_270, g_L_law_271, g_L_law_272, g_L_law_275, g_L_law_277, g_L_law_2226, ek, hk0, S2_o hwb, N2_o hwb, hSo, hNo, eq_true vi01, cl_0, hout, lc_eq, ev, eq_self, true_and, and_true, rf_s, not_true_eq_false, not_false_eq_true, true_implies, false_implies, kl_i, kl_n, kl_l, kl_r, Option.toList, List.cons_append, List.nil_append, if_true, if_false, u2s, lt00, lt01, lt02, lt03, le10, le20, le30, ne10, ne20, ne30, eq00]
    refine g_L_law_2229.mpr ?_
    simp only [g_L_law_28, g_L_law_30, nIa5, true_and, and_true, rf_s, not_true_eq_false, not_false_eq_true, true_implies, false_implies, kl_i, kl_n, kl_l, kl_r, Option.toList, List.cons_append, List.nil_append, if_true, if_false, u2s, lt00, lt01, lt02, lt03, le10, le20, le30, ne10, ne20, ne30, eq00]
    refine gs_L_law_31 ?_
    rintro - ls4 hL4
    exact hk _ _ _ _ _ _ _ _ _ _ hW3 hv2 hL4
  · simp only [g_L_law_253, g_L_law_255, g_L_law_258, g_L_law_260, g_L_law_262, g_L_law_265, g_L_law_266, g_L_law_267, g_L_law_268, g_L_law_270, g_L_law_271, g_L_law_272, g_L_law_275, g_L_law_277, g_L_law_2226, ek, hk0, true_and, and_true, rf_s, not_true_eq_false, not_false_eq_true, true_implies, false_implies, kl_i, kl_n, kl_l, kl_r, Option.toList, List.cons_append, List.nil_append, if_true, if_false, u2s, lt00, lt01, lt02, lt03, le10, le20, le30, ne10, ne20, ne30, eq00]
    refine g_L_law_2229.mpr ?_
    simp only [g_L_law_28, g_L_law_30, nIa5, true_and, and_true, rf_s, not_true_eq_false, not_false_eq_true, true_implies, false_implies, kl_i, kl_n, kl_l, kl_r, Option.toList, List.cons_append, List.nil_append, if_true, if_false, u2s, lt00, lt01, lt02, lt03, le10, le20, le30, ne10, ne20, ne30, eq00]
    refine gs_L_law_31 ?_
    rintro - ls4 hL4
    exact hk _ _ _ _ _ _ _ _ _ _ hW3 hv2 hL4
theorem law_c1 (C : Cx E 10 cL_law 10 p s m args meth c) (hT : TX E s) (hEA : ∀ q, q ∈ E.2.2.2.2 → s.heap.size ≤ q) (hfl : l.stackTraces = false) (hR : 19 ≤ R.frames ∧ 1400 ≤ R.locals) (hcs : cells + 1 ≤ R.cells ∧ slots + 6 ≤ R.slots) (hi : i + 5 ≤ L) (hLL : L ≤ 2560) (hk : Lh p l e R s m args below meth c Q E b L xs x m9 w od (i + 5) (cells + 1) (slots + 6)) : Lp p l e R s m args below meth c Q E b L xs x m9 w od 280 i cells slots := by
  intro I J P H locs ls y6 y7 y8 y9 hW hv hL
  have hE := C.2.2.2.2.2.2.2
  have hb := hv.2.2.1
  obtain ⟨hx8, hm9, hwb, hSo, hNo⟩ := hv.sh
  obtain ⟨k, I1, J1, P1, rb, I2, J2, hw, hb1, hc, h8, hr, hv2⟩ := op_addRules hE hfl hv 
  obtain ⟨v, rfl⟩ := cw_int hc (Or.inl rfl)
  have hb2 := hv2.2.2.1
  refine segB_ok (M := ML_law) C hW hb ?_ hL
  simp only [g_L_law_280, g_L_law_281, nIp, nIa2, nIa3, nIa4, nI_clamp (show i + 1 < 2 ^ 31 by omega), nI_clamp (show i + 2 < 2 ^ 31 by omega), nI_clamp (show i + 3 < 2 ^ 31 by omega), nI_clamp (show i + 4 < 2 ^ 31 by omega), vpn (show i + 1 < L by omega) (show L < 2 ^ 31 by omega), vpn (show i + 2 < L by omega) (show L < 2 ^ 31 by omega), vpn (show i + 3 < L by omega) (show L < 2 ^ 31 by omega), vpn (show i + 4 < L by omega) (show L < 2 ^ 31 by omega), S2_b, N2_b, hb, true_and, and_true, rf_s, not_true_eq_false, not_false_eq_true, true_implies, false_implies, kl_i, kl_n, kl_l, kl_r, Option.toList, List.cons_append, List.nil_append, if_true, if_false, u2s, lt00, lt01, lt02, lt03, le10, le20, le30, ne10, ne20, ne30, eq00]
  refine gs_L_law_282 ?_
  rintro - ls1 hL1
  refine sg_cWL (M := ML_addRules) (As := [.ref x, .ref w]) (pc2 := 285) rfl C hT hEA hL1 hR hcs dL_law_282 lk_addRules ML_addRules_ok rfl rfl hw hW (fun H1 locs1 hW1 => ?_)
  refine segB_ok (M := ML_law) C hW1 hb1 ?_ hL1
  simp only [g_L_law_285, g_L_law_287, nIp, nIa2, nIa3, nIa4, nI_clamp (show i + 1 < 2 ^ 31 by omega), nI_clamp (show i + 2 < 2 ^ 31 by omega), nI_clamp (show i + 3 < 2 ^ 31 by omega), nI_clamp (show i + 4 < 2 ^ 31 by omega), vpn (show i + 1 < L by omega) (show L < 2 ^ 31 by omega), vpn (show i + 2 < L by omega) (show L < 2 ^ 31 by omega), vpn (show i + 3 < L by omega) (show L < 2 ^ 31 by omega), vpn (show i + 4 < L by omega) (show L < 2 ^ 31 by omega), S2_b, N2_b, hb1, true_and, and_true, rf_s, not_true_eq_false, not_false_eq_true, true_implies, false_implies, kl_i, kl_n, kl_l, kl_r, Option.toList, List.cons_append, List.nil_append, if_true, if_false, u2s, lt00, lt01, lt02, lt03, le10, le20, le30, ne10, ne20, ne30, eq00]
  refine gs_L_law_288 ?_
  rintro - ls2 hL2
  refine sg_cL (M := MX9_addRules) (As := []) (b' := m9) (pc2 := 291) rfl (some (.int v)) C hL2 (d := 11) ⟨by omega, by omega⟩ ⟨by omega, by omega⟩ dL_law_288 rfl rfl rfl hm9 (by rw [hm9]; decide) (Nat.zero_le _) rfl hc hW1 (fun H2 locs2 hW2 => ?_)
  refine segB_ok (M := ML_law) C hW2 hb2 ?_ hL2
  simp only [g_L_law_291, g_L_law_293, S2_b, true_and, and_true, rf_s, not_true_eq_false, not_false_eq_true, true_implies, false_implies, kl_i, kl_n, kl_l, kl_r, Option.toList, List.cons_append, List.nil_append, if_true, if_false, u2s, lt00, lt01, lt02, lt03, le10, le20, le30, ne10, ne20, ne30, eq00]
  refine gs_L_law_294 ?_
  rintro - ls3 hL3
  refine sg_cL (M := MX9_thrown) (As := []) (b' := m9) (pc2 := 297) rfl (some (.int k)) C hL3 (d := 0) ⟨by omega, by omega⟩ ⟨by omega, by omega⟩ dL_law_294 rfl rfl rfl hm9 (by rw [hm9]; decide) (Nat.zero_le _) rfl (hv2.thr h8) hW2 (fun H3 locs3 hW3 => ?_)
  have ek : (k = k) = True := eq_self _
  refine segB_ok (M := ML_law) C hW3 hb2 ?_ hL3
  by_cases hk0 : k = 0
  · have hout : J2 w 0 = v.toInt64 := hr hk0 _ rfl
    have ev : (v.toInt64 = v.toInt64) = True := eq_self _
    simp only [g_L_law_297, g_L_law_299, g_L_law_302, g_L_law_304, g_L_law_306, g_L_law_309, g_L_law_310, g_L_law_311, g_L_law_312, g_L_law_314, g_L_law_315, g_L_law_316, g_L_law_319, g_L_law_321, g_L_law_2226, ek, hk0, S2_o hwb, N2_o hwb, hSo, hNo, eq_true vi01, cl_0, hout, lc_eq, ev, eq_self, true_and, and_true, rf_s, not_true_eq_false, not_false_eq_true, true_implies, false_implies, kl_i, kl_n, kl_l, kl_r, Option.toList, List.cons_append, List.nil_append, if_true, if_false, u2s, lt00, lt01, lt02, lt03, le10, le20, le30, ne10, ne20, ne30, eq00]
    refine g_L_law_2229.mpr ?_
    simp only [g_L_law_28, g_L_law_30, nIa5, true_and, and_true, rf_s, not_true_eq_false, not_false_eq_true, true_implies, false_implies, kl_i, kl_n, kl_l, kl_r, Option.toList, List.cons_append, List.nil_append, if_true, if_false, u2s, lt00, lt01, lt02, lt03, le10, le20, le30, ne10, ne20, ne30, eq00]
    refine gs_L_law_31 ?_
    rintro - ls4 hL4
    exact hk _ _ _ _ _ _ _ _ _ _ hW3 hv2 hL4
  · simp only [g_L_law_297, g_L_law_299, g_L_law_302, g_L_law_304, g_L_law_306, g_L_law_309, g_L_law_310, g_L_law_311, g_L_law_312, g_L_law_314, g_L_law_315, g_L_law_316, g_L_law_319, g_L_law_321, g_L_law_2226, ek, hk0, true_and, and_true, rf_s, not_true_eq_false, not_false_eq_true, true_implies, false_implies, kl_i, kl_n, kl_l, kl_r, Option.toList, List.cons_append, List.nil_append, if_true, if_false, u2s, lt00, lt01, lt02, lt03, le10, le20, le30, ne10, ne20, ne30, eq00]
    refine g_L_law_2229.mpr ?_
    simp only [g_L_law_28, g_L_law_30, nIa5, true_and, and_true, rf_s, not_true_eq_false, not_false_eq_true, true_implies, false_implies, kl_i, kl_n, kl_l, kl_r, Option.toList, List.cons_append, List.nil_append, if_true, if_false, u2s, lt00, lt01, lt02, lt03, le10, le20, le30, ne10, ne20, ne30, eq00]
    refine gs_L_law_31 ?_
    rintro - ls4 hL4
    exact hk _ _ _ _ _ _ _ _ _ _ hW3 hv2 hL4
theorem law_c2 (C : Cx E 10 cL_law 10 p s m args meth c) (hT : TX E s) (hEA : ∀ q, q ∈ E.2.2.2.2 → s.heap.size ≤ q) (hfl : l.stackTraces = false) (hR : 19 ≤ R.frames ∧ 1400 ≤ R.locals) (hcs : cells + 1 ≤ R.cells ∧ slots + 6 ≤ R.slots) (hi : i + 5 ≤ L) (hLL : L ≤ 2560) (hk : Lh p l e R s m args below meth c Q E b L xs x m9 w od (i + 5) (cells + 1) (slots + 6)) : Lp p l e R s m args below meth c Q E b L xs x m9 w od 324 i cells slots := by
  intro I J P H locs ls y6 y7 y8 y9 hW hv hL
  have hE := C.2.2.2.2.2.2.2
  have hb := hv.2.2.1
  obtain ⟨hx8, hm9, hwb, hSo, hNo⟩ := hv.sh
  obtain ⟨r, I1, J1, P1, I2, J2, hw, hb1, hc, hv2⟩ := op_faultPosition hE hv
  obtain ⟨v, rfl⟩ := cw_int hc (Or.inl rfl)
  have hb2 := hv2.2.2.1
  have ev : ∀ z : Int32, (z = z) = True := fun _ => eq_self _
  refine segB_ok (M := ML_law) C hW hb ?_ hL
  simp only [g_L_law_324, S2_b, true_and, and_true, rf_s, not_true_eq_false, not_false_eq_true, true_implies, false_implies, kl_i, kl_n, kl_l, kl_r, Option.toList, List.cons_append, List.nil_append, if_true, if_false, u2s, lt00, lt01, lt02, lt03, le10, le20, le30, ne10, ne20, ne30, eq00]
  refine gs_L_law_325 ?_
  rintro - ls1 hL1
  refine sg_cL (M := MX8_faultPosition) (As := []) (b' := x) (st' := []) (pc2 := 328) rfl (some (.int v)) C hL1 (d := 11) ⟨by omega, by omega⟩ ⟨by omega, by omega⟩ dL_law_325 rfl rfl rfl hx8 (by rw [hx8]; decide) (Nat.zero_le _) rfl hw hW (fun H1 locs1 hW1 => ?_)
  refine segB_ok (M := ML_law) C hW1 hb1 ?_ hL1
  simp only [g_L_law_328, S2_b, true_and, and_true, rf_s, not_true_eq_false, not_false_eq_true, true_implies, false_implies, kl_i, kl_n, kl_l, kl_r, Option.toList, List.cons_append, List.nil_append, if_true, if_false, u2s, lt00, lt01, lt02, lt03, le10, le20, le30, ne10, ne20, ne30, eq00]
  refine gs_L_law_329 ?_
  rintro - ls2 hL2
  refine sg_cL (M := MX9_faultPosition) (As := []) (b' := m9) (st' := [.int v]) (pc2 := 332) rfl (some (.int v)) C hL2 (d := 11) ⟨by omega, by omega⟩ ⟨by omega, by omega⟩ dL_law_329 rfl rfl rfl hm9 (by rw [hm9]; decide) (Nat.le_of_ble_eq_true rfl) rfl hc hW1 (fun H3 locs3 hW3 => ?_)
  refine segB_ok (M := ML_law) C hW3 hb2 ?_ hL2
  simp only [g_L_law_332, g_L_law_2226, eq_self, lc_eq, true_and, and_true, rf_s, not_true_eq_false, not_false_eq_true, true_implies, false_implies, kl_i, kl_n, kl_l, kl_r, Option.toList, List.cons_append, List.nil_append, if_true, if_false, u2s, lt00, lt01, lt02, lt03, le10, le20, le30, ne10, ne20, ne30, eq00]
  refine g_L_law_2229.mpr ?_
  simp only [g_L_law_28, g_L_law_30, nIa5, true_and, and_true, rf_s, not_true_eq_false, not_false_eq_true, true_implies, false_implies, kl_i, kl_n, kl_l, kl_r, Option.toList, List.cons_append, List.nil_append, if_true, if_false, u2s, lt00, lt01, lt02, lt03, le10, le20, le30, ne10, ne20, ne30, eq00]
  refine gs_L_law_31 ?_
  rintro - ls4 hL4
  exact hk.up _ _ _ _ _ _ _ _ _ _ hW3 hv2 hL4
theorem law_c3 (C : Cx E 10 cL_law 10 p s m args meth c) (hT : TX E s) (hEA : ∀ q, q ∈ E.2.2.2.2 → s.heap.size ≤ q) (hfl : l.stackTraces = false) (hR : 19 ≤ R.frames ∧ 1400 ≤ R.locals) (hcs : cells + 1 ≤ R.cells ∧ slots + 6 ≤ R.slots) (hi : i + 5 ≤ L) (hLL : L ≤ 2560) (hk : Lh p l e R s m args below meth c Q E b L xs x m9 w od (i + 5) (cells + 1) (slots + 6)) : Lp p l e R s m args below meth c Q E b L xs x m9 w od 337 i cells slots := by
  intro I J P H locs ls y6 y7 y8 y9 hW hv hL
  have hE := C.2.2.2.2.2.2.2
  have hb := hv.2.2.1
  obtain ⟨hx8, hm9, hwb, hSo, hNo⟩ := hv.sh
  obtain ⟨r, I1, J1, P1, I2, J2, hw, hb1, hc, hv2⟩ := op_clearRules hE hv
  obtain ⟨v, rfl⟩ := cw_int hc (Or.inl rfl)
  have hb2 := hv2.2.2.1
  have ev : ∀ z : Int32, (z = z) = True := fun _ => eq_self _
  refine segB_ok (M := ML_law) C hW hb ?_ hL
  simp only [g_L_law_337, S2_b, true_and, and_true, rf_s, not_true_eq_false, not_false_eq_true, true_implies, false_implies, kl_i, kl_n, kl_l, kl_r, Option.toList, List.cons_append, List.nil_append, if_true, if_false, u2s, lt00, lt01, lt02, lt03, le10, le20, le30, ne10, ne20, ne30, eq00]
  refine gs_L_law_338 ?_
  rintro - ls1 hL1
  refine sg_cL (M := MX8_clearRules) (As := []) (b' := x) (st' := []) (pc2 := 341) rfl (some (.int v)) C hL1 (d := 11) ⟨by omega, by omega⟩ ⟨by omega, by omega⟩ dL_law_338 rfl rfl rfl hx8 (by rw [hx8]; decide) (Nat.zero_le _) rfl hw hW (fun H1 locs1 hW1 => ?_)
  refine segB_ok (M := ML_law) C hW1 hb1 ?_ hL1
  simp only [g_L_law_341, S2_b, true_and, and_true, rf_s, not_true_eq_false, not_false_eq_true, true_implies, false_implies, kl_i, kl_n, kl_l, kl_r, Option.toList, List.cons_append, List.nil_append, if_true, if_false, u2s, lt00, lt01, lt02, lt03, le10, le20, le30, ne10, ne20, ne30, eq00]
  refine gs_L_law_342 ?_
  rintro - ls2 hL2
  refine sg_cL (M := MX9_clearRules) (As := []) (b' := m9) (st' := [.int v]) (pc2 := 345) rfl (some (.int v)) C hL2 (d := 11) ⟨by omega, by omega⟩ ⟨by omega, by omega⟩ dL_law_342 rfl rfl rfl hm9 (by rw [hm9]; decide) (Nat.le_of_ble_eq_true rfl) rfl hc hW1 (fun H3 locs3 hW3 => ?_)
  refine segB_ok (M := ML_law) C hW3 hb2 ?_ hL2
  simp only [g_L_law_345, g_L_law_2226, eq_self, lc_eq, true_and, and_true, rf_s, not_true_eq_false, not_false_eq_true, true_implies, false_implies, kl_i, kl_n, kl_l, kl_r, Option.toList, List.cons_append, List.nil_append, if_true, if_false, u2s, lt00, lt01, lt02, lt03, le10, le20, le30, ne10, ne20, ne30, eq00]
  refine g_L_law_2229.mpr ?_
  simp only [g_L_law_28, g_L_law_30, nIa5, true_and, and_true, rf_s, not_true_eq_false, not_false_eq_true, true_implies, false_implies, kl_i, kl_n, kl_l, kl_r, Option.toList, List.cons_append, List.nil_append, if_true, if_false, u2s, lt00, lt01, lt02, lt03, le10, le20, le30, ne10, ne20, ne30, eq00]
  refine gs_L_law_31 ?_
  rintro - ls4 hL4
  exact hk.up _ _ _ _ _ _ _ _ _ _ hW3 hv2 hL4
theorem law_c4 (C : Cx E 10 cL_law 10 p s m args meth c) (hT : TX E s) (hEA : ∀ q, q ∈ E.2.2.2.2 → s.heap.size ≤ q) (hfl : l.stackTraces = false) (hR : 19 ≤ R.frames ∧ 1400 ≤ R.locals) (hcs : cells + 1 ≤ R.cells ∧ slots + 6 ≤ R.slots) (hi : i + 5 ≤ L) (hLL : L ≤ 2560) (hk : Lh p l e R s m args below meth c Q E b L xs x m9 w od (i + 5) (cells + 1) (slots + 6)) : Lp p l e R s m args below meth c Q E b L xs x m9 w od 350 i cells slots := by
  intro I J P H locs ls y6 y7 y8 y9 hW hv hL
  have hE := C.2.2.2.2.2.2.2
  have hb := hv.2.2.1
  obtain ⟨hx8, hm9, hwb, hSo, hNo⟩ := hv.sh
  obtain ⟨r, I1, J1, P1, I2, J2, hw, hb1, hc, hv2⟩ := op_bracketCount hE hv
  obtain ⟨v, rfl⟩ := cw_int hc (Or.inl rfl)
  have hb2 := hv2.2.2.1
  have ev : ∀ z : Int32, (z = z) = True := fun _ => eq_self _
  refine segB_ok (M := ML_law) C hW hb ?_ hL
  simp only [g_L_law_350, S2_b, true_and, and_true, rf_s, not_true_eq_false, not_false_eq_true, true_implies, false_implies, kl_i, kl_n, kl_l, kl_r, Option.toList, List.cons_append, List.nil_append, if_true, if_false, u2s, lt00, lt01, lt02, lt03, le10, le20, le30, ne10, ne20, ne30, eq00]
  refine gs_L_law_351 ?_
  rintro - ls1 hL1
  refine sg_cL (M := MX8_bracketCount) (As := []) (b' := x) (st' := []) (pc2 := 354) rfl (some (.int v)) C hL1 (d := 11) ⟨by omega, by omega⟩ ⟨by omega, by omega⟩ dL_law_351 rfl rfl rfl hx8 (by rw [hx8]; decide) (Nat.zero_le _) rfl hw hW (fun H1 locs1 hW1 => ?_)
  refine segB_ok (M := ML_law) C hW1 hb1 ?_ hL1
  simp only [g_L_law_354, S2_b, true_and, and_true, rf_s, not_true_eq_false, not_false_eq_true, true_implies, false_implies, kl_i, kl_n, kl_l, kl_r, Option.toList, List.cons_append, List.nil_append, if_true, if_false, u2s, lt00, lt01, lt02, lt03, le10, le20, le30, ne10, ne20, ne30, eq00]
  refine gs_L_law_355 ?_
  rintro - ls2 hL2
  refine sg_cL (M := MX9_bracketCount) (As := []) (b' := m9) (st' := [.int v]) (pc2 := 358) rfl (some (.int v)) C hL2 (d := 11) ⟨by omega, by omega⟩ ⟨by omega, by omega⟩ dL_law_355 rfl rfl rfl hm9 (by rw [hm9]; decide) (Nat.le_of_ble_eq_true rfl) rfl hc hW1 (fun H3 locs3 hW3 => ?_)
  refine segB_ok (M := ML_law) C hW3 hb2 ?_ hL2
  simp only [g_L_law_358, g_L_law_2226, eq_self, lc_eq, true_and, and_true, rf_s, not_true_eq_false, not_false_eq_true, true_implies, false_implies, kl_i, kl_n, kl_l, kl_r, Option.toList, List.cons_append, List.nil_append, if_true, if_false, u2s, lt00, lt01, lt02, lt03, le10, le20, le30, ne10, ne20, ne30, eq00]
  refine g_L_law_2229.mpr ?_
  simp only [g_L_law_28, g_L_law_30, nIa5, true_and, and_true, rf_s, not_true_eq_false, not_false_eq_true, true_implies, false_implies, kl_i, kl_n, kl_l, kl_r, Option.toList, List.cons_append, List.nil_append, if_true, if_false, u2s, lt00, lt01, lt02, lt03, le10, le20, le30, ne10, ne20, ne30, eq00]
  refine gs_L_law_31 ?_
  rintro - ls4 hL4
  exact hk.up _ _ _ _ _ _ _ _ _ _ hW3 hv2 hL4
theorem law_c5 (C : Cx E 10 cL_law 10 p s m args meth c) (hT : TX E s) (hEA : ∀ q, q ∈ E.2.2.2.2 → s.heap.size ≤ q) (hfl : l.stackTraces = false) (hR : 19 ≤ R.frames ∧ 1400 ≤ R.locals) (hcs : cells + 1 ≤ R.cells ∧ slots + 6 ≤ R.slots) (hi : i + 5 ≤ L) (hLL : L ≤ 2560) (hk : Lh p l e R s m args below meth c Q E b L xs x m9 w od (i + 5) (cells + 1) (slots + 6)) : Lp p l e R s m args below meth c Q E b L xs x m9 w od 363 i cells slots := by
  intro I J P H locs ls y6 y7 y8 y9 hW hv hL
  have hE := C.2.2.2.2.2.2.2
  have hb := hv.2.2.1
  obtain ⟨hx8, hm9, hwb, hSo, hNo⟩ := hv.sh
  obtain ⟨k, I1, J1, P1, rb, I2, J2, hw, hb1, hc, h8, hr, hv2⟩ := op_bracket hE hfl hv (xs (i + 1)) (xs (i + 2))
  obtain ⟨v, rfl⟩ := cw_int hc (Or.inl rfl)
  have hb2 := hv2.2.2.1
  refine segB_ok (M := ML_law) C hW hb ?_ hL
  simp only [g_L_law_363, g_L_law_364, g_L_law_365, g_L_law_367, g_L_law_368, g_L_law_369, g_L_law_370, g_L_law_371, g_L_law_373, g_L_law_374, g_L_law_375, g_L_law_376, nIp, nIa2, nIa3, nIa4, nI_clamp (show i + 1 < 2 ^ 31 by omega), nI_clamp (show i + 2 < 2 ^ 31 by omega), nI_clamp (show i + 3 < 2 ^ 31 by omega), nI_clamp (show i + 4 < 2 ^ 31 by omega), vpn (show i + 1 < L by omega) (show L < 2 ^ 31 by omega), vpn (show i + 2 < L by omega) (show L < 2 ^ 31 by omega), vpn (show i + 3 < L by omega) (show L < 2 ^ 31 by omega), vpn (show i + 4 < L by omega) (show L < 2 ^ 31 by omega), S2_b, N2_b, hb, true_and, and_true, rf_s, not_true_eq_false, not_false_eq_true, true_implies, false_implies, kl_i, kl_n, kl_l, kl_r, Option.toList, List.cons_append, List.nil_append, if_true, if_false, u2s, lt00, lt01, lt02, lt03, le10, le20, le30, ne10, ne20, ne30, eq00]
  refine gs_L_law_377 ?_
  rintro - ls1 hL1
  refine sg_cWL (M := ML_bracket) (As := [.ref x, .int (xs (i + 1)), .int (xs (i + 2)), .ref w]) (pc2 := 380) rfl C hT hEA hL1 hR hcs dL_law_377 lk_bracket ML_bracket_ok rfl rfl hw hW (fun H1 locs1 hW1 => ?_)
  refine segB_ok (M := ML_law) C hW1 hb1 ?_ hL1
  simp only [g_L_law_380, g_L_law_382, g_L_law_383, g_L_law_384, g_L_law_386, g_L_law_387, g_L_law_388, g_L_law_389, g_L_law_390, g_L_law_392, g_L_law_393, g_L_law_394, nIp, nIa2, nIa3, nIa4, nI_clamp (show i + 1 < 2 ^ 31 by omega), nI_clamp (show i + 2 < 2 ^ 31 by omega), nI_clamp (show i + 3 < 2 ^ 31 by omega), nI_clamp (show i + 4 < 2 ^ 31 by omega), vpn (show i + 1 < L by omega) (show L < 2 ^ 31 by omega), vpn (show i + 2 < L by omega) (show L < 2 ^ 31 by omega), vpn (show i + 3 < L by omega) (show L < 2 ^ 31 by omega), vpn (show i + 4 < L by omega) (show L < 2 ^ 31 by omega), S2_b, N2_b, hb1, true_and, and_true, rf_s, not_true_eq_false, not_false_eq_true, true_implies, false_implies, kl_i, kl_n, kl_l, kl_r, Option.toList, List.cons_append, List.nil_append, if_true, if_false, u2s, lt00, lt01, lt02, lt03, le10, le20, le30, ne10, ne20, ne30, eq00]
  refine gs_L_law_395 ?_
  rintro - ls2 hL2
  refine sg_cL (M := MX9_bracket) (As := [.int (xs (i + 1)), .int (xs (i + 2))]) (b' := m9) (pc2 := 398) rfl (some (.int v)) C hL2 (d := 11) ⟨by omega, by omega⟩ ⟨by omega, by omega⟩ dL_law_395 rfl rfl rfl hm9 (by rw [hm9]; decide) (Nat.zero_le _) rfl hc hW1 (fun H2 locs2 hW2 => ?_)
  refine segB_ok (M := ML_law) C hW2 hb2 ?_ hL2
  simp only [g_L_law_398, g_L_law_400, S2_b, true_and, and_true, rf_s, not_true_eq_false, not_false_eq_true, true_implies, false_implies, kl_i, kl_n, kl_l, kl_r, Option.toList, List.cons_append, List.nil_append, if_true, if_false, u2s, lt00, lt01, lt02, lt03, le10, le20, le30, ne10, ne20, ne30, eq00]
  refine gs_L_law_401 ?_
  rintro - ls3 hL3
  refine sg_cL (M := MX9_thrown) (As := []) (b' := m9) (pc2 := 404) rfl (some (.int k)) C hL3 (d := 0) ⟨by omega, by omega⟩ ⟨by omega, by omega⟩ dL_law_401 rfl rfl rfl hm9 (by rw [hm9]; decide) (Nat.zero_le _) rfl (hv2.thr h8) hW2 (fun H3 locs3 hW3 => ?_)
  have ek : (k = k) = True := eq_self _
  refine segB_ok (M := ML_law) C hW3 hb2 ?_ hL3
  by_cases hk0 : k = 0
  · have hout : J2 w 0 = v.toInt64 := hr hk0 _ rfl
    have ev : (v.toInt64 = v.toInt64) = True := eq_self _
    simp only [g_L_law_404, g_L_law_406, g_L_law_409, g_L_law_411, g_L_law_413, g_L_law_416, g_L_law_417, g_L_law_418, g_L_law_419, g_L_law_421, g_L_law_422, g_L_law_423, g_L_law_426, g_L_law_428, g_L_law_2226, ek, hk0, S2_o hwb, N2_o hwb, hSo, hNo, eq_true vi01, cl_0, hout, lc_eq, ev, eq_self, true_and, and_true, rf_s, not_true_eq_false, not_false_eq_true, true_implies, false_implies, kl_i, kl_n, kl_l, kl_r, Option.toList, List.cons_append, List.nil_append, if_true, if_false, u2s, lt00, lt01, lt02, lt03, le10, le20, le30, ne10, ne20, ne30, eq00]
    refine g_L_law_2229.mpr ?_
    simp only [g_L_law_28, g_L_law_30, nIa5, true_and, and_true, rf_s, not_true_eq_false, not_false_eq_true, true_implies, false_implies, kl_i, kl_n, kl_l, kl_r, Option.toList, List.cons_append, List.nil_append, if_true, if_false, u2s, lt00, lt01, lt02, lt03, le10, le20, le30, ne10, ne20, ne30, eq00]
    refine gs_L_law_31 ?_
    rintro - ls4 hL4
    exact hk _ _ _ _ _ _ _ _ _ _ hW3 hv2 hL4
  · simp only [g_L_law_404, g_L_law_406, g_L_law_409, g_L_law_411, g_L_law_413, g_L_law_416, g_L_law_417, g_L_law_418, g_L_law_419, g_L_law_421, g_L_law_422, g_L_law_423, g_L_law_426, g_L_law_428, g_L_law_2226, ek, hk0, true_and, and_true, rf_s, not_true_eq_false, not_false_eq_true, true_implies, false_implies, kl_i, kl_n, kl_l, kl_r, Option.toList, List.cons_append, List.nil_append, if_true, if_false, u2s, lt00, lt01, lt02, lt03, le10, le20, le30, ne10, ne20, ne30, eq00]
    refine g_L_law_2229.mpr ?_
    simp only [g_L_law_28, g_L_law_30, nIa5, true_and, and_true, rf_s, not_true_eq_false, not_false_eq_true, true_implies, false_implies, kl_i, kl_n, kl_l, kl_r, Option.toList, List.cons_append, List.nil_append, if_true, if_false, u2s, lt00, lt01, lt02, lt03, le10, le20, le30, ne10, ne20, ne30, eq00]
    refine gs_L_law_31 ?_
    rintro - ls4 hL4
    exact hk _ _ _ _ _ _ _ _ _ _ hW3 hv2 hL4
theorem law_c6 (C : Cx E 10 cL_law 10 p s m args meth c) (hT : TX E s) (hEA : ∀ q, q ∈ E.2.2.2.2 → s.heap.size ≤ q) (hfl : l.stackTraces = false) (hR : 19 ≤ R.frames ∧ 1400 ≤ R.locals) (hcs : cells + 1 ≤ R.cells ∧ slots + 6 ≤ R.slots) (hi : i + 5 ≤ L) (hLL : L ≤ 2560) (hk : Lh p l e R s m args below meth c Q E b L xs x m9 w od (i + 5) (cells + 1) (slots + 6)) : Lp p l e R s m args below meth c Q E b L xs x m9 w od 431 i cells slots := by
  intro I J P H locs ls y6 y7 y8 y9 hW hv hL
  have hE := C.2.2.2.2.2.2.2
  have hb := hv.2.2.1
  obtain ⟨hx8, hm9, hwb, hSo, hNo⟩ := hv.sh
  obtain ⟨k, I1, J1, P1, rb, I2, J2, hw, hb1, hc, h8, hr, hv2⟩ := op_allowance hE hfl hv (xs (i + 1))
  obtain ⟨v, rfl⟩ := cw_int hc (Or.inl rfl)
  have hb2 := hv2.2.2.1
  refine segB_ok (M := ML_law) C hW hb ?_ hL
  simp only [g_L_law_431, g_L_law_432, g_L_law_433, g_L_law_435, g_L_law_436, g_L_law_437, g_L_law_438, nIp, nIa2, nIa3, nIa4, nI_clamp (show i + 1 < 2 ^ 31 by omega), nI_clamp (show i + 2 < 2 ^ 31 by omega), nI_clamp (show i + 3 < 2 ^ 31 by omega), nI_clamp (show i + 4 < 2 ^ 31 by omega), vpn (show i + 1 < L by omega) (show L < 2 ^ 31 by omega), vpn (show i + 2 < L by omega) (show L < 2 ^ 31 by omega), vpn (show i + 3 < L by omega) (show L < 2 ^ 31 by omega), vpn (show i + 4 < L by omega) (show L < 2 ^ 31 by omega), S2_b, N2_b, hb, true_and, and_true, rf_s, not_true_eq_false, not_false_eq_true, true_implies, false_implies, kl_i, kl_n, kl_l, kl_r, Option.toList, List.cons_append, List.nil_append, if_true, if_false, u2s, lt00, lt01, lt02, lt03, le10, le20, le30, ne10, ne20, ne30, eq00]
  refine gs_L_law_439 ?_
  rintro - ls1 hL1
  refine sg_cWL (M := ML_allowance) (As := [.ref x, .int (xs (i + 1)), .ref w]) (pc2 := 442) rfl C hT hEA hL1 hR hcs dL_law_439 lk_allowance ML_allowance_ok rfl rfl hw hW (fun H1 locs1 hW1 => ?_)
  refine segB_ok (M := ML_law) C hW1 hb1 ?_ hL1
  simp only [g_L_law_442, g_L_law_444, g_L_law_445, g_L_law_446, g_L_law_448, g_L_law_449, g_L_law_450, nIp, nIa2, nIa3, nIa4, nI_clamp (show i + 1 < 2 ^ 31 by omega), nI_clamp (show i + 2 < 2 ^ 31 by omega), nI_clamp (show i + 3 < 2 ^ 31 by omega), nI_clamp (show i + 4 < 2 ^ 31 by omega), vpn (show i + 1 < L by omega) (show L < 2 ^ 31 by omega), vpn (show i + 2 < L by omega) (show L < 2 ^ 31 by omega), vpn (show i + 3 < L by omega) (show L < 2 ^ 31 by omega), vpn (show i + 4 < L by omega) (show L < 2 ^ 31 by omega), S2_b, N2_b, hb1, true_and, and_true, rf_s, not_true_eq_false, not_false_eq_true, true_implies, false_implies, kl_i, kl_n, kl_l, kl_r, Option.toList, List.cons_append, List.nil_append, if_true, if_false, u2s, lt00, lt01, lt02, lt03, le10, le20, le30, ne10, ne20, ne30, eq00]
  refine gs_L_law_451 ?_
  rintro - ls2 hL2
  refine sg_cL (M := MX9_allowance) (As := [.int (xs (i + 1))]) (b' := m9) (pc2 := 454) rfl (some (.int v)) C hL2 (d := 11) ⟨by omega, by omega⟩ ⟨by omega, by omega⟩ dL_law_451 rfl rfl rfl hm9 (by rw [hm9]; decide) (Nat.zero_le _) rfl hc hW1 (fun H2 locs2 hW2 => ?_)
  refine segB_ok (M := ML_law) C hW2 hb2 ?_ hL2
  simp only [g_L_law_454, g_L_law_456, S2_b, true_and, and_true, rf_s, not_true_eq_false, not_false_eq_true, true_implies, false_implies, kl_i, kl_n, kl_l, kl_r, Option.toList, List.cons_append, List.nil_append, if_true, if_false, u2s, lt00, lt01, lt02, lt03, le10, le20, le30, ne10, ne20, ne30, eq00]
  refine gs_L_law_457 ?_
  rintro - ls3 hL3
  refine sg_cL (M := MX9_thrown) (As := []) (b' := m9) (pc2 := 460) rfl (some (.int k)) C hL3 (d := 0) ⟨by omega, by omega⟩ ⟨by omega, by omega⟩ dL_law_457 rfl rfl rfl hm9 (by rw [hm9]; decide) (Nat.zero_le _) rfl (hv2.thr h8) hW2 (fun H3 locs3 hW3 => ?_)
  have ek : (k = k) = True := eq_self _
  refine segB_ok (M := ML_law) C hW3 hb2 ?_ hL3
  by_cases hk0 : k = 0
  · have hout : J2 w 0 = v.toInt64 := hr hk0 _ rfl
    have ev : (v.toInt64 = v.toInt64) = True := eq_self _
    simp only [g_L_law_460, g_L_law_462, g_L_law_465, g_L_law_467, g_L_law_469, g_L_law_472, g_L_law_473, g_L_law_474, g_L_law_475, g_L_law_477, g_L_law_478, g_L_law_479, g_L_law_482, g_L_law_484, g_L_law_2226, ek, hk0, S2_o hwb, N2_o hwb, hSo, hNo, eq_true vi01, cl_0, hout, lc_eq, ev, eq_self, true_and, and_true, rf_s, not_true_eq_false, not_false_eq_true, true_implies, false_implies, kl_i, kl_n, kl_l, kl_r, Option.toList, List.cons_append, List.nil_append, if_true, if_false, u2s, lt00, lt01, lt02, lt03, le10, le20, le30, ne10, ne20, ne30, eq00]
    refine g_L_law_2229.mpr ?_
    simp only [g_L_law_28, g_L_law_30, nIa5, true_and, and_true, rf_s, not_true_eq_false, not_false_eq_true, true_implies, false_implies, kl_i, kl_n, kl_l, kl_r, Option.toList, List.cons_append, List.nil_append, if_true, if_false, u2s, lt00, lt01, lt02, lt03, le10, le20, le30, ne10, ne20, ne30, eq00]
    refine gs_L_law_31 ?_
    rintro - ls4 hL4
    exact hk _ _ _ _ _ _ _ _ _ _ hW3 hv2 hL4
  · simp only [g_L_law_460, g_L_law_462, g_L_law_465, g_L_law_467, g_L_law_469, g_L_law_472, g_L_law_473, g_L_law_474, g_L_law_475, g_L_law_477, g_L_law_478, g_L_law_479, g_L_law_482, g_L_law_484, g_L_law_2226, ek, hk0, true_and, and_true, rf_s, not_true_eq_false, not_false_eq_true, true_implies, false_implies, kl_i, kl_n, kl_l, kl_r, Option.toList, List.cons_append, List.nil_append, if_true, if_false, u2s, lt00, lt01, lt02, lt03, le10, le20, le30, ne10, ne20, ne30, eq00]
    refine g_L_law_2229.mpr ?_
    simp only [g_L_law_28, g_L_law_30, nIa5, true_and, and_true, rf_s, not_true_eq_false, not_false_eq_true, true_implies, false_implies, kl_i, kl_n, kl_l, kl_r, Option.toList, List.cons_append, List.nil_append, if_true, if_false, u2s, lt00, lt01, lt02, lt03, le10, le20, le30, ne10, ne20, ne30, eq00]
    refine gs_L_law_31 ?_
    rintro - ls4 hL4
    exact hk _ _ _ _ _ _ _ _ _ _ hW3 hv2 hL4
theorem law_c7 (C : Cx E 10 cL_law 10 p s m args meth c) (hT : TX E s) (hEA : ∀ q, q ∈ E.2.2.2.2 → s.heap.size ≤ q) (hfl : l.stackTraces = false) (hR : 19 ≤ R.frames ∧ 1400 ≤ R.locals) (hcs : cells + 1 ≤ R.cells ∧ slots + 6 ≤ R.slots) (hi : i + 5 ≤ L) (hLL : L ≤ 2560) (hk : Lh p l e R s m args below meth c Q E b L xs x m9 w od (i + 5) (cells + 1) (slots + 6)) : Lp p l e R s m args below meth c Q E b L xs x m9 w od 487 i cells slots := by
  intro I J P H locs ls y6 y7 y8 y9 hW hv hL
  have hE := C.2.2.2.2.2.2.2
  have hb := hv.2.2.1
  obtain ⟨hx8, hm9, hwb, hSo, hNo⟩ := hv.sh
  obtain ⟨r, I1, J1, P1, I2, J2, hw, hb1, hc, hv2⟩ := op_chargeCount hE hv
  obtain ⟨v, rfl⟩ := cw_int hc (Or.inl rfl)
  have hb2 := hv2.2.2.1
  have ev : ∀ z : Int32, (z = z) = True := fun _ => eq_self _
  refine segB_ok (M := ML_law) C hW hb ?_ hL
  simp only [g_L_law_487, S2_b, true_and, and_true, rf_s, not_true_eq_false, not_false_eq_true, true_implies, false_implies, kl_i, kl_n, kl_l, kl_r, Option.toList, List.cons_append, List.nil_append, if_true, if_false, u2s, lt00, lt01, lt02, lt03, le10, le20, le30, ne10, ne20, ne30, eq00]
  refine gs_L_law_488 ?_
  rintro - ls1 hL1
  refine sg_cL (M := MX8_chargeCount) (As := []) (b' := x) (st' := []) (pc2 := 491) rfl (some (.int v)) C hL1 (d := 11) ⟨by omega, by omega⟩ ⟨by omega, by omega⟩ dL_law_488 rfl rfl rfl hx8 (by rw [hx8]; decide) (Nat.zero_le _) rfl hw hW (fun H1 locs1 hW1 => ?_)
  refine segB_ok (M := ML_law) C hW1 hb1 ?_ hL1
  simp only [g_L_law_491, S2_b, true_and, and_true, rf_s, not_true_eq_false, not_false_eq_true, true_implies, false_implies, kl_i, kl_n, kl_l, kl_r, Option.toList, List.cons_append, List.nil_append, if_true, if_false, u2s, lt00, lt01, lt02, lt03, le10, le20, le30, ne10, ne20, ne30, eq00]
  refine gs_L_law_492 ?_
  rintro - ls2 hL2
  refine sg_cL (M := MX9_chargeCount) (As := []) (b' := m9) (st' := [.int v]) (pc2 := 495) rfl (some (.int v)) C hL2 (d := 11) ⟨by omega, by omega⟩ ⟨by omega, by omega⟩ dL_law_492 rfl rfl rfl hm9 (by rw [hm9]; decide) (Nat.le_of_ble_eq_true rfl) rfl hc hW1 (fun H3 locs3 hW3 => ?_)
  refine segB_ok (M := ML_law) C hW3 hb2 ?_ hL2
  simp only [g_L_law_495, g_L_law_2226, eq_self, lc_eq, true_and, and_true, rf_s, not_true_eq_false, not_false_eq_true, true_implies, false_implies, kl_i, kl_n, kl_l, kl_r, Option.toList, List.cons_append, List.nil_append, if_true, if_false, u2s, lt00, lt01, lt02, lt03, le10, le20, le30, ne10, ne20, ne30, eq00]
  refine g_L_law_2229.mpr ?_
  simp only [g_L_law_28, g_L_law_30, nIa5, true_and, and_true, rf_s, not_true_eq_false, not_false_eq_true, true_implies, false_implies, kl_i, kl_n, kl_l, kl_r, Option.toList, List.cons_append, List.nil_append, if_true, if_false, u2s, lt00, lt01, lt02, lt03, le10, le20, le30, ne10, ne20, ne30, eq00]
  refine gs_L_law_31 ?_
  rintro - ls4 hL4
  exact hk.up _ _ _ _ _ _ _ _ _ _ hW3 hv2 hL4
theorem law_c8 (C : Cx E 10 cL_law 10 p s m args meth c) (hT : TX E s) (hEA : ∀ q, q ∈ E.2.2.2.2 → s.heap.size ≤ q) (hfl : l.stackTraces = false) (hR : 19 ≤ R.frames ∧ 1400 ≤ R.locals) (hcs : cells + 1 ≤ R.cells ∧ slots + 6 ≤ R.slots) (hi : i + 5 ≤ L) (hLL : L ≤ 2560) (hk : Lh p l e R s m args below meth c Q E b L xs x m9 w od (i + 5) (cells + 1) (slots + 6)) : Lp p l e R s m args below meth c Q E b L xs x m9 w od 500 i cells slots := by
  intro I J P H locs ls y6 y7 y8 y9 hW hv hL
  have hE := C.2.2.2.2.2.2.2
  have hb := hv.2.2.1
  obtain ⟨hx8, hm9, hwb, hSo, hNo⟩ := hv.sh
  obtain ⟨k, I1, J1, P1, rb, I2, J2, hw, hb1, hc, h8, hr, hv2⟩ := op_charge hE hfl hv (xs (i + 1)) (xs (i + 2))
  obtain ⟨v, rfl⟩ := cw_int hc (Or.inl rfl)
  have hb2 := hv2.2.2.1
  refine segB_ok (M := ML_law) C hW hb ?_ hL
  simp only [g_L_law_500, g_L_law_501, g_L_law_502, g_L_law_504, g_L_law_505, g_L_law_506, g_L_law_507, g_L_law_508, g_L_law_510, g_L_law_511, g_L_law_512, g_L_law_513, nIp, nIa2, nIa3, nIa4, nI_clamp (show i + 1 < 2 ^ 31 by omega), nI_clamp (show i + 2 < 2 ^ 31 by omega), nI_clamp (show i + 3 < 2 ^ 31 by omega), nI_clamp (show i + 4 < 2 ^ 31 by omega), vpn (show i + 1 < L by omega) (show L < 2 ^ 31 by omega), vpn (show i + 2 < L by omega) (show L < 2 ^ 31 by omega), vpn (show i + 3 < L by omega) (show L < 2 ^ 31 by omega), vpn (show i + 4 < L by omega) (show L < 2 ^ 31 by omega), S2_b, N2_b, hb, true_and, and_true, rf_s, not_true_eq_false, not_false_eq_true, true_implies, false_implies, kl_i, kl_n, kl_l, kl_r, Option.toList, List.cons_append, List.nil_append, if_true, if_false, u2s, lt00, lt01, lt02, lt03, le10, le20, le30, ne10, ne20, ne30, eq00]
  refine gs_L_law_514 ?_
  rintro - ls1 hL1
  refine sg_cWL (M := ML_charge) (As := [.ref x, .int (xs (i + 1)), .int (xs (i + 2)), .ref w]) (pc2 := 517) rfl C hT hEA hL1 hR hcs dL_law_514 lk_charge ML_charge_ok rfl rfl hw hW (fun H1 locs1 hW1 => ?_)
  refine segB_ok (M := ML_law) C hW1 hb1 ?_ hL1
  simp only [g_L_law_517, g_L_law_519, g_L_law_520, g_L_law_521, g_L_law_523, g_L_law_524, g_L_law_525, g_L_law_526, g_L_law_527, g_L_law_529, g_L_law_530, g_L_law_531, nIp, nIa2, nIa3, nIa4, nI_clamp (show i + 1 < 2 ^ 31 by omega), nI_clamp (show i + 2 < 2 ^ 31 by omega), nI_clamp (show i + 3 < 2 ^ 31 by omega), nI_clamp (show i + 4 < 2 ^ 31 by omega), vpn (show i + 1 < L by omega) (show L < 2 ^ 31 by omega), vpn (show i + 2 < L by omega) (show L < 2 ^ 31 by omega), vpn (show i + 3 < L by omega) (show L < 2 ^ 31 by omega), vpn (show i + 4 < L by omega) (show L < 2 ^ 31 by omega), S2_b, N2_b, hb1, true_and, and_true, rf_s, not_true_eq_false, not_false_eq_true, true_implies, false_implies, kl_i, kl_n, kl_l, kl_r, Option.toList, List.cons_append, List.nil_append, if_true, if_false, u2s, lt00, lt01, lt02, lt03, le10, le20, le30, ne10, ne20, ne30, eq00]
  refine gs_L_law_532 ?_
  rintro - ls2 hL2
  refine sg_cL (M := MX9_charge) (As := [.int (xs (i + 1)), .int (xs (i + 2))]) (b' := m9) (pc2 := 535) rfl (some (.int v)) C hL2 (d := 11) ⟨by omega, by omega⟩ ⟨by omega, by omega⟩ dL_law_532 rfl rfl rfl hm9 (by rw [hm9]; decide) (Nat.zero_le _) rfl hc hW1 (fun H2 locs2 hW2 => ?_)
  refine segB_ok (M := ML_law) C hW2 hb2 ?_ hL2
  simp only [g_L_law_535, g_L_law_537, S2_b, true_and, and_true, rf_s, not_true_eq_false, not_false_eq_true, true_implies, false_implies, kl_i, kl_n, kl_l, kl_r, Option.toList, List.cons_append, List.nil_append, if_true, if_false, u2s, lt00, lt01, lt02, lt03, le10, le20, le30, ne10, ne20, ne30, eq00]
  refine gs_L_law_538 ?_
  rintro - ls3 hL3
  refine sg_cL (M := MX9_thrown) (As := []) (b' := m9) (pc2 := 541) rfl (some (.int k)) C hL3 (d := 0) ⟨by omega, by omega⟩ ⟨by omega, by omega⟩ dL_law_538 rfl rfl rfl hm9 (by rw [hm9]; decide) (Nat.zero_le _) rfl (hv2.thr h8) hW2 (fun H3 locs3 hW3 => ?_)
  have ek : (k = k) = True := eq_self _
  refine segB_ok (M := ML_law) C hW3 hb2 ?_ hL3
  by_cases hk0 : k = 0
  · have hout : J2 w 0 = v.toInt64 := hr hk0 _ rfl
    have ev : (v.toInt64 = v.toInt64) = True := eq_self _
    simp only [g_L_law_541, g_L_law_543, g_L_law_546, g_L_law_548, g_L_law_550, g_L_law_553, g_L_law_554, g_L_law_555, g_L_law_556, g_L_law_558, g_L_law_559, g_L_law_560, g_L_law_563, g_L_law_565, g_L_law_2226, ek, hk0, S2_o hwb, N2_o hwb, hSo, hNo, eq_true vi01, cl_0, hout, lc_eq, ev, eq_self, true_and, and_true, rf_s, not_true_eq_false, not_false_eq_true, true_implies, false_implies, kl_i, kl_n, kl_l, kl_r, Option.toList, List.cons_append, List.nil_append, if_true, if_false, u2s, lt00, lt01, lt02, lt03, le10, le20, le30, ne10, ne20, ne30, eq00]
    refine g_L_law_2229.mpr ?_
    simp only [g_L_law_28, g_L_law_30, nIa5, true_and, and_true, rf_s, not_true_eq_false, not_false_eq_true, true_implies, false_implies, kl_i, kl_n, kl_l, kl_r, Option.toList, List.cons_append, List.nil_append, if_true, if_false, u2s, lt00, lt01, lt02, lt03, le10, le20, le30, ne10, ne20, ne30, eq00]
    refine gs_L_law_31 ?_
    rintro - ls4 hL4
    exact hk _ _ _ _ _ _ _ _ _ _ hW3 hv2 hL4
  · simp only [g_L_law_541, g_L_law_543, g_L_law_546, g_L_law_548, g_L_law_550, g_L_law_553, g_L_law_554, g_L_law_555, g_L_law_556, g_L_law_558, g_L_law_559, g_L_law_560, g_L_law_563, g_L_law_565, g_L_law_2226, ek, hk0, true_and, and_true, rf_s, not_true_eq_false, not_false_eq_true, true_implies, false_implies, kl_i, kl_n, kl_l, kl_r, Option.toList, List.cons_append, List.nil_append, if_true, if_false, u2s, lt00, lt01, lt02, lt03, le10, le20, le30, ne10, ne20, ne30, eq00]
    refine g_L_law_2229.mpr ?_
    simp only [g_L_law_28, g_L_law_30, nIa5, true_and, and_true, rf_s, not_true_eq_false, not_false_eq_true, true_implies, false_implies, kl_i, kl_n, kl_l, kl_r, Option.toList, List.cons_append, List.nil_append, if_true, if_false, u2s, lt00, lt01, lt02, lt03, le10, le20, le30, ne10, ne20, ne30, eq00]
    refine gs_L_law_31 ?_
    rintro - ls4 hL4
    exact hk _ _ _ _ _ _ _ _ _ _ hW3 hv2 hL4
theorem law_c9 (C : Cx E 10 cL_law 10 p s m args meth c) (hT : TX E s) (hEA : ∀ q, q ∈ E.2.2.2.2 → s.heap.size ≤ q) (hfl : l.stackTraces = false) (hR : 19 ≤ R.frames ∧ 1400 ≤ R.locals) (hcs : cells + 1 ≤ R.cells ∧ slots + 6 ≤ R.slots) (hi : i + 5 ≤ L) (hLL : L ≤ 2560) (hk : Lh p l e R s m args below meth c Q E b L xs x m9 w od (i + 5) (cells + 1) (slots + 6)) : Lp p l e R s m args below meth c Q E b L xs x m9 w od 568 i cells slots := by
  intro I J P H locs ls y6 y7 y8 y9 hW hv hL
  have hE := C.2.2.2.2.2.2.2
  have hb := hv.2.2.1
  obtain ⟨hx8, hm9, hwb, hSo, hNo⟩ := hv.sh
  obtain ⟨r, I1, J1, P1, I2, J2, hw, hb1, hc, hv2⟩ := op_creditCount hE hv
  obtain ⟨v, rfl⟩ := cw_int hc (Or.inl rfl)
  have hb2 := hv2.2.2.1
  have ev : ∀ z : Int32, (z = z) = True := fun _ => eq_self _
  refine segB_ok (M := ML_law) C hW hb ?_ hL
  simp only [g_L_law_568, S2_b, true_and, and_true, rf_s, not_true_eq_false, not_false_eq_true, true_implies, false_implies, kl_i, kl_n, kl_l, kl_r, Option.toList, List.cons_append, List.nil_append, if_true, if_false, u2s, lt00, lt01, lt02, lt03, le10, le20, le30, ne10, ne20, ne30, eq00]
  refine gs_L_law_569 ?_
  rintro - ls1 hL1
  refine sg_cL (M := MX8_creditCount) (As := []) (b' := x) (st' := []) (pc2 := 572) rfl (some (.int v)) C hL1 (d := 11) ⟨by omega, by omega⟩ ⟨by omega, by omega⟩ dL_law_569 rfl rfl rfl hx8 (by rw [hx8]; decide) (Nat.zero_le _) rfl hw hW (fun H1 locs1 hW1 => ?_)
  refine segB_ok (M := ML_law) C hW1 hb1 ?_ hL1
  simp only [g_L_law_572, S2_b, true_and, and_true, rf_s, not_true_eq_false, not_false_eq_true, true_implies, false_implies, kl_i, kl_n, kl_l, kl_r, Option.toList, List.cons_append, List.nil_append, if_true, if_false, u2s, lt00, lt01, lt02, lt03, le10, le20, le30, ne10, ne20, ne30, eq00]
  refine gs_L_law_573 ?_
  rintro - ls2 hL2
  refine sg_cL (M := MX9_creditCount) (As := []) (b' := m9) (st' := [.int v]) (pc2 := 576) rfl (some (.int v)) C hL2 (d := 11) ⟨by omega, by omega⟩ ⟨by omega, by omega⟩ dL_law_573 rfl rfl rfl hm9 (by rw [hm9]; decide) (Nat.le_of_ble_eq_true rfl) rfl hc hW1 (fun H3 locs3 hW3 => ?_)
  refine segB_ok (M := ML_law) C hW3 hb2 ?_ hL2
  simp only [g_L_law_576, g_L_law_2226, eq_self, lc_eq, true_and, and_true, rf_s, not_true_eq_false, not_false_eq_true, true_implies, false_implies, kl_i, kl_n, kl_l, kl_r, Option.toList, List.cons_append, List.nil_append, if_true, if_false, u2s, lt00, lt01, lt02, lt03, le10, le20, le30, ne10, ne20, ne30, eq00]
  refine g_L_law_2229.mpr ?_
  simp only [g_L_law_28, g_L_law_30, nIa5, true_and, and_true, rf_s, not_true_eq_false, not_false_eq_true, true_implies, false_implies, kl_i, kl_n, kl_l, kl_r, Option.toList, List.cons_append, List.nil_append, if_true, if_false, u2s, lt00, lt01, lt02, lt03, le10, le20, le30, ne10, ne20, ne30, eq00]
  refine gs_L_law_31 ?_
  rintro - ls4 hL4
  exact hk.up _ _ _ _ _ _ _ _ _ _ hW3 hv2 hL4
theorem law_c10 (C : Cx E 10 cL_law 10 p s m args meth c) (hT : TX E s) (hEA : ∀ q, q ∈ E.2.2.2.2 → s.heap.size ≤ q) (hfl : l.stackTraces = false) (hR : 19 ≤ R.frames ∧ 1400 ≤ R.locals) (hcs : cells + 1 ≤ R.cells ∧ slots + 6 ≤ R.slots) (hi : i + 5 ≤ L) (hLL : L ≤ 2560) (hk : Lh p l e R s m args below meth c Q E b L xs x m9 w od (i + 5) (cells + 1) (slots + 6)) : Lp p l e R s m args below meth c Q E b L xs x m9 w od 581 i cells slots := by
  intro I J P H locs ls y6 y7 y8 y9 hW hv hL
  have hE := C.2.2.2.2.2.2.2
  have hb := hv.2.2.1
  obtain ⟨hx8, hm9, hwb, hSo, hNo⟩ := hv.sh
  obtain ⟨k, I1, J1, P1, rb, I2, J2, hw, hb1, hc, h8, hr, hv2⟩ := op_credit hE hfl hv (xs (i + 1)) (xs (i + 2))
  obtain ⟨v, rfl⟩ := cw_int hc (Or.inl rfl)
  have hb2 := hv2.2.2.1
  refine segB_ok (M := ML_law) C hW hb ?_ hL
  simp only [g_L_law_581, g_L_law_582, g_L_law_583, g_L_law_585, g_L_law_586, g_L_law_587, g_L_law_588, g_L_law_589, g_L_law_591, g_L_law_592, g_L_law_593, g_L_law_594, nIp, nIa2, nIa3, nIa4, nI_clamp (show i + 1 < 2 ^ 31 by omega), nI_clamp (show i + 2 < 2 ^ 31 by omega), nI_clamp (show i + 3 < 2 ^ 31 by omega), nI_clamp (show i + 4 < 2 ^ 31 by omega), vpn (show i + 1 < L by omega) (show L < 2 ^ 31 by omega), vpn (show i + 2 < L by omega) (show L < 2 ^ 31 by omega), vpn (show i + 3 < L by omega) (show L < 2 ^ 31 by omega), vpn (show i + 4 < L by omega) (show L < 2 ^ 31 by omega), S2_b, N2_b, hb, true_and, and_true, rf_s, not_true_eq_false, not_false_eq_true, true_implies, false_implies, kl_i, kl_n, kl_l, kl_r, Option.toList, List.cons_append, List.nil_append, if_true, if_false, u2s, lt00, lt01, lt02, lt03, le10, le20, le30, ne10, ne20, ne30, eq00]
  refine gs_L_law_595 ?_
  rintro - ls1 hL1
  refine sg_cWL (M := ML_credit) (As := [.ref x, .int (xs (i + 1)), .int (xs (i + 2)), .ref w]) (pc2 := 598) rfl C hT hEA hL1 hR hcs dL_law_595 lk_credit ML_credit_ok rfl rfl hw hW (fun H1 locs1 hW1 => ?_)
  refine segB_ok (M := ML_law) C hW1 hb1 ?_ hL1
  simp only [g_L_law_598, g_L_law_600, g_L_law_601, g_L_law_602, g_L_law_604, g_L_law_605, g_L_law_606, g_L_law_607, g_L_law_608, g_L_law_610, g_L_law_611, g_L_law_612, nIp, nIa2, nIa3, nIa4, nI_clamp (show i + 1 < 2 ^ 31 by omega), nI_clamp (show i + 2 < 2 ^ 31 by omega), nI_clamp (show i + 3 < 2 ^ 31 by omega), nI_clamp (show i + 4 < 2 ^ 31 by omega), vpn (show i + 1 < L by omega) (show L < 2 ^ 31 by omega), vpn (show i + 2 < L by omega) (show L < 2 ^ 31 by omega), vpn (show i + 3 < L by omega) (show L < 2 ^ 31 by omega), vpn (show i + 4 < L by omega) (show L < 2 ^ 31 by omega), S2_b, N2_b, hb1, true_and, and_true, rf_s, not_true_eq_false, not_false_eq_true, true_implies, false_implies, kl_i, kl_n, kl_l, kl_r, Option.toList, List.cons_append, List.nil_append, if_true, if_false, u2s, lt00, lt01, lt02, lt03, le10, le20, le30, ne10, ne20, ne30, eq00]
  refine gs_L_law_613 ?_
  rintro - ls2 hL2
  refine sg_cL (M := MX9_credit) (As := [.int (xs (i + 1)), .int (xs (i + 2))]) (b' := m9) (pc2 := 616) rfl (some (.int v)) C hL2 (d := 11) ⟨by omega, by omega⟩ ⟨by omega, by omega⟩ dL_law_613 rfl rfl rfl hm9 (by rw [hm9]; decide) (Nat.zero_le _) rfl hc hW1 (fun H2 locs2 hW2 => ?_)
  refine segB_ok (M := ML_law) C hW2 hb2 ?_ hL2
  simp only [g_L_law_616, g_L_law_618, S2_b, true_and, and_true, rf_s, not_true_eq_false, not_false_eq_true, true_implies, false_implies, kl_i, kl_n, kl_l, kl_r, Option.toList, List.cons_append, List.nil_append, if_true, if_false, u2s, lt00, lt01, lt02, lt03, le10, le20, le30, ne10, ne20, ne30, eq00]
  refine gs_L_law_619 ?_
  rintro - ls3 hL3
  refine sg_cL (M := MX9_thrown) (As := []) (b' := m9) (pc2 := 622) rfl (some (.int k)) C hL3 (d := 0) ⟨by omega, by omega⟩ ⟨by omega, by omega⟩ dL_law_619 rfl rfl rfl hm9 (by rw [hm9]; decide) (Nat.zero_le _) rfl (hv2.thr h8) hW2 (fun H3 locs3 hW3 => ?_)
  have ek : (k = k) = True := eq_self _
  refine segB_ok (M := ML_law) C hW3 hb2 ?_ hL3
  by_cases hk0 : k = 0
  · have hout : J2 w 0 = v.toInt64 := hr hk0 _ rfl
    have ev : (v.toInt64 = v.toInt64) = True := eq_self _
    simp only [g_L_law_622, g_L_law_624, g_L_law_627, g_L_law_629, g_L_law_631, g_L_law_634, g_L_law_635, g_L_law_636, g_L_law_637, g_L_law_639, g_L_law_640, g_L_law_641, g_L_law_644, g_L_law_646, g_L_law_2226, ek, hk0, S2_o hwb, N2_o hwb, hSo, hNo, eq_true vi01, cl_0, hout, lc_eq, ev, eq_self, true_and, and_true, rf_s, not_true_eq_false, not_false_eq_true, true_implies, false_implies, kl_i, kl_n, kl_l, kl_r, Option.toList, List.cons_append, List.nil_append, if_true, if_false, u2s, lt00, lt01, lt02, lt03, le10, le20, le30, ne10, ne20, ne30, eq00]
    refine g_L_law_2229.mpr ?_
    simp only [g_L_law_28, g_L_law_30, nIa5, true_and, and_true, rf_s, not_true_eq_false, not_false_eq_true, true_implies, false_implies, kl_i, kl_n, kl_l, kl_r, Option.toList, List.cons_append, List.nil_append, if_true, if_false, u2s, lt00, lt01, lt02, lt03, le10, le20, le30, ne10, ne20, ne30, eq00]
    refine gs_L_law_31 ?_
    rintro - ls4 hL4
    exact hk _ _ _ _ _ _ _ _ _ _ hW3 hv2 hL4
  · simp only [g_L_law_622, g_L_law_624, g_L_law_627, g_L_law_629, g_L_law_631, g_L_law_634, g_L_law_635, g_L_law_636, g_L_law_637, g_L_law_639, g_L_law_640, g_L_law_641, g_L_law_644, g_L_law_646, g_L_law_2226, ek, hk0, true_and, and_true, rf_s, not_true_eq_false, not_false_eq_true, true_implies, false_implies, kl_i, kl_n, kl_l, kl_r, Option.toList, List.cons_append, List.nil_append, if_true, if_false, u2s, lt00, lt01, lt02, lt03, le10, le20, le30, ne10, ne20, ne30, eq00]
    refine g_L_law_2229.mpr ?_
    simp only [g_L_law_28, g_L_law_30, nIa5, true_and, and_true, rf_s, not_true_eq_false, not_false_eq_true, true_implies, false_implies, kl_i, kl_n, kl_l, kl_r, Option.toList, List.cons_append, List.nil_append, if_true, if_false, u2s, lt00, lt01, lt02, lt03, le10, le20, le30, ne10, ne20, ne30, eq00]
    refine gs_L_law_31 ?_
    rintro - ls4 hL4
    exact hk _ _ _ _ _ _ _ _ _ _ hW3 hv2 hL4
end LAWC

/-! the workbench's throws -/
section SGV
variable {p : Program} {l : Launch} {e : Env} {R : Room} {s : State} {m : MethodId} {args : Array Value} {below : List Frame} {meth : Method} {c : Code} {Q : State → Prop}
variable {E : tx_En} {A : Nat → Prop} {H0 H : Heap} {locs : List Loc} {cells slots : Nat} {cc : ByteArray} {nL o pc len : Nat} {st st' : List Value} {ls : Array Slot} {ll : List (Option Value)} {I I' : IM} {J J' : JM} {P P' : PM}
theorem zt_seg {M : MR} (C : Cx E M.2.2.2.2.1 M.2.1 nL p s m args meth c) (h : Gp E.2.2.1 E.2.2.2.1 true M (Zt p l e R s m args below meth c E A H0 cells slots nL Q) pc ll st I J P) : Zt p l e R s m args below meth c E A H0 cells slots nL Q pc ll st I J P := fun _ _ _ hW hL => seg_ok C h hW hL
/-- a call of an own method, by what the pure machine says of it -/
theorem sg_cV (C : Cx E o cc nL p s m args meth c) (hL : Lv ls nL ll) {n d b : Nat} {M : MR} {As : List Value} {Qp : Option Value → IM → JM → PM → Prop} (hR : d + 1 ≤ R.frames ∧ 60 * d + 40 ≤ R.locals) (hcs : cells ≤ R.cells ∧ slots ≤ R.slots) (hd : decode cc pc = .ok (.invokevirtual n, 3)) (hm : mres o n = some M) (hs : M.2.2.2.2.2.2 = false) (hn : As.length = M.2.2.2.2.2.1) (hSb : E.2.2.1 b = M.2.2.2.2.1) (h10 : E.2.2.1 b < 10) (hst : (st'.map fun v => v.category).sum ≤ 8) (hs2 : st = As.reverse ++ .ref b :: st') (h : CWp E.2.2.1 E.2.2.2.1 d M (.ref b :: As) I J P Qp) (hW : Wd E A H0 I J P H locs)
    (kk : ∀ r I' J' P', Qp r I' J' P' → ∀ H1 locs1, Wd E A H0 I' J' P' H1 locs1 → H.size ≤ H1.size → (∀ q : Nat, q < H.size → q ∉ E.2.2.2.2 → H1[q]? = H[q]?) → W p l e R s m args below meth c H1 locs1 cells slots Q (F0 m (pc + 3) ls (r.toList ++ st'))) : W p l e R s m args below meth c H locs cells slots Q (F0 m pc ls st) := by
  obtain ⟨r, I', J', P', h1, h2⟩ := h
  subst hs2
  exact sg_callV C hL hR hcs hd hm hs hn hSb h10 hst (tx_sound l E C.2.2.2.2.2.2.2 d M _ _ _ _ _ _ _ _ (mt_ok o _ (tb_res hm)).2 h1) hW (kk r I' J' P' h2)
/-- a guard that holds: nothing changes -/
abbrev Qn (I : IM) (J : JM) (P : PM) : Option Value → IM → JM → PM → Prop := fun r I1 J1 P1 => r = none ∧ I1 = I ∧ J1 = J ∧ P1 = P
theorem sg_cG {pc2 : Nat} (hpc : pc + 3 = pc2) (C : Cx E o cc nL p s m args meth c) (hL : Lv ls nL ll) {n b : Nat} {M : MR} {As : List Value} (hR : 1 ≤ R.frames ∧ 40 ≤ R.locals) (hcs : cells ≤ R.cells ∧ slots ≤ R.slots) (hd : decode cc pc = .ok (.invokevirtual n, 3)) (hm : mres o n = some M) (hs : M.2.2.2.2.2.2 = false) (hn : As.length = M.2.2.2.2.2.1) (hSb : E.2.2.1 b = M.2.2.2.2.1) (h10 : E.2.2.1 b < 10) (hst : (st'.map fun v => v.category).sum ≤ 8) (hs2 : st = As.reverse ++ .ref b :: st') (h : CWp E.2.2.1 E.2.2.2.1 0 M (.ref b :: As) I J P (Qn I J P)) (hW : Wd E A H0 I J P H locs)
    (kk : Zt p l e R s m args below meth c E A H0 cells slots nL Q pc2 ll st' I J P) : W p l e R s m args below meth c H locs cells slots Q (F0 m pc ls st) :=
  sg_cV C hL (d := 0) hR hcs hd hm hs hn hSb h10 hst hs2 h hW (fun r I1 J1 P1 hq H1 locs1 hW1 _ _ => by
    obtain ⟨rfl, rfl, rfl, rfl⟩ := hq
    subst hpc
    exact kk H1 locs1 ls hW1 hL)
/-- a call that throws, in a method without handlers -/
theorem sg_cX (C : Cx E o cc nL p s m args meth c) (hno : ∀ x ∈ c.exceptionTable.toList, False) (hT : TX E s) (hL : Lv ls nL ll) {n d b X : Nat} {M : MR} {As : List Value} (hR : d + 7 ≤ R.frames ∧ 60 * d + 160 ≤ R.locals ∧ 1 ≤ R.cells ∧ 6 ≤ R.slots) (hd : decode cc pc = .ok (.invokevirtual n, 3)) (hm : mres o n = some M) (hs : M.2.2.2.2.2.2 = false) (hn : As.length = M.2.2.2.2.2.1) (hSb : E.2.2.1 b = M.2.2.2.2.1) (h10 : E.2.2.1 b < 10) (hst : (st'.map fun v => v.category).sum ≤ 8) (hs2 : st = As.reverse ++ .ref b :: st') (hM : MtX l E d M (.ref b :: As) I J P X I' J' P') (hW : Wd E (fun q => q ∈ E.2.2.2.2) s.heap I J P H locs) : W p l e R s m args below meth c H locs 0 0 (QX E X I' J' P' below args s) (F0 m pc ls st) := by
  subst hs2
  exact sg_callX C hno hT hL hR hd hm hs hn hSb h10 hst hM hW
end SGV
theorem exi0 : (289, "a number is out of range") ∈ exS := List.mem_of_getElem? (i := 0) rfl
theorem exi1 : (71, "the text is full") ∈ exS := List.mem_of_getElem? (i := 1) rfl
theorem exi2 : (95, "the text has a fault") ∈ exS := List.mem_of_getElem? (i := 2) rfl
theorem exi3 : (102, "an item is not allowed") ∈ exS := List.mem_of_getElem? (i := 3) rfl
theorem exi4 : (286, "there is no such index") ∈ exS := List.mem_of_getElem? (i := 4) rfl
theorem exi5 : (167, "a couple is two people") ∈ exS := List.mem_of_getElem? (i := 5) rfl
theorem exi6 : (172, "one of them is in a couple") ∈ exS := List.mem_of_getElem? (i := 6) rfl
theorem exi7 : (291, "the person is in no couple") ∈ exS := List.mem_of_getElem? (i := 7) rfl
theorem exi8 : (250, "there is no kink above") ∈ exS := List.mem_of_getElem? (i := 8) rfl
theorem exi9 : (256, "there is no kink at this place") ∈ exS := List.mem_of_getElem? (i := 9) rfl
theorem exi10 : (265, "the income is 0") ∈ exS := List.mem_of_getElem? (i := 10) rfl
theorem exi11 : (272, "there is no change to take back") ∈ exS := List.mem_of_getElem? (i := 11) rfl
theorem exi12 : (282, "nothing was saved") ∈ exS := List.mem_of_getElem? (i := 12) rfl
section TH
variable {l : Launch} {E : tx_En} {I : IM} {J : JM} {P : PM} {x : Nat} {πd π πs : Nat → Nat} {πh : Nat → Nat → Nat} {g : Nat → Int32} {h : Nat → Int64} {nb nc nk d : Nat}
theorem t_rI (hE : tx_ok E) (hfl : l.stackTraces = false) (hS : E.2.2.1 x = 8) {v w : Int32} (hv : v < 0 ∨ w ≤ v) : MtX l E d MX8_requireIndex [.ref x, .int v, .int w] I J P 0 I J P := by
  refine MtX.of hE MX8_requireIndex_ok (Nat.le_of_ble_eq_true rfl) (fun pg e s m args below meth c C hno hT => zt_seg (M := MX8_requireIndex) C ?_)
  show Gp E.2.2.1 E.2.2.2.1 true MX8_requireIndex _ 0 [some (.ref x), some (.int v), some (.int w)] [] I J P
  rcases (Classical.em (v < 0)) with g1 | g1
  · simp only [g_X8_requireIndex_0, g_X8_requireIndex_1, g_X8_requireIndex_4, g_X8_requireIndex_5, g_X8_requireIndex_6, g1, true_and, and_true, rf_s, not_true_eq_false, not_false_eq_true, true_implies, false_implies, kl_i, kl_n, kl_l, kl_r, Option.toList, List.cons_append, List.nil_append, if_true, if_false, u2s, lt00, lt01, lt02, lt03, le10, le20, le30, ne10, ne20, ne30, eq00]
    refine gs_X8_requireIndex_9 ?_
    intro H locs ls hW hL
    exact sg_newW C hfl hno hT hL thw_0 exi4 (Nat.le_of_ble_eq_true rfl) ⟨by show 6 ≤ _ + 6; omega, by show 100 ≤ _ + 120; omega, Nat.le_refl _, Nat.le_refl _⟩ dX8_requireIndex_9 dX8_requireIndex_12 dX8_requireIndex_13 dX8_requireIndex_16 dX8_requireIndex_19 hW
  · have g2 : ¬ v < w := Int32.not_lt.mpr (hv.resolve_left g1)
    simp only [g_X8_requireIndex_0, g_X8_requireIndex_1, g_X8_requireIndex_4, g_X8_requireIndex_5, g_X8_requireIndex_6, g1, g2, true_and, and_true, rf_s, not_true_eq_false, not_false_eq_true, true_implies, false_implies, kl_i, kl_n, kl_l, kl_r, Option.toList, List.cons_append, List.nil_append, if_true, if_false, u2s, lt00, lt01, lt02, lt03, le10, le20, le30, ne10, ne20, ne30, eq00]
    refine gs_X8_requireIndex_9 ?_
    intro H locs ls hW hL
    exact sg_newW C hfl hno hT hL thw_0 exi4 (Nat.le_of_ble_eq_true rfl) ⟨by show 6 ≤ _ + 6; omega, by show 100 ≤ _ + 120; omega, Nat.le_refl _, Nat.le_refl _⟩ dX8_requireIndex_9 dX8_requireIndex_12 dX8_requireIndex_13 dX8_requireIndex_16 dX8_requireIndex_19 hW
theorem t_rR (hE : tx_ok E) (hfl : l.stackTraces = false) (hS : E.2.2.1 x = 8) {v a b : Int32} (hv : ¬ (a ≤ v ∧ v ≤ b)) : MtX l E d MX8_requireRange [.ref x, .int v, .int a, .int b] I J P 1 I J P := by
  refine MtX.of hE MX8_requireRange_ok (Nat.le_of_ble_eq_true rfl) (fun pg e s m args below meth c C hno hT => zt_seg (M := MX8_requireRange) C ?_)
  show Gp E.2.2.1 E.2.2.2.1 true MX8_requireRange _ 0 [some (.ref x), some (.int v), some (.int a), some (.int b)] [] I J P
  rcases (Classical.em (v < a)) with g1 | g1
  · simp only [g_X8_requireRange_0, g_X8_requireRange_1, g_X8_requireRange_2, g_X8_requireRange_5, g_X8_requireRange_6, g_X8_requireRange_7, g1, true_and, and_true, rf_s, not_true_eq_false, not_false_eq_true, true_implies, false_implies, kl_i, kl_n, kl_l, kl_r, Option.toList, List.cons_append, List.nil_append, if_true, if_false, u2s, lt00, lt01, lt02, lt03, le10, le20, le30, ne10, ne20, ne30, eq00]
    refine gs_X8_requireRange_10 ?_
    intro H locs ls hW hL
    exact sg_newW C hfl hno hT hL thw_1 exi0 (Nat.le_of_ble_eq_true rfl) ⟨by show 6 ≤ _ + 6; omega, by show 100 ≤ _ + 120; omega, Nat.le_refl _, Nat.le_refl _⟩ dX8_requireRange_10 dX8_requireRange_13 dX8_requireRange_14 dX8_requireRange_17 dX8_requireRange_20 hW
  · have g2 : ¬ v ≤ b := fun z => hv ⟨Int32.not_lt.mp g1, z⟩
    simp only [g_X8_requireRange_0, g_X8_requireRange_1, g_X8_requireRange_2, g_X8_requireRange_5, g_X8_requireRange_6, g_X8_requireRange_7, g1, g2, true_and, and_true, rf_s, not_true_eq_false, not_false_eq_true, true_implies, false_implies, kl_i, kl_n, kl_l, kl_r, Option.toList, List.cons_append, List.nil_append, if_true, if_false, u2s, lt00, lt01, lt02, lt03, le10, le20, le30, ne10, ne20, ne30, eq00]
    refine gs_X8_requireRange_10 ?_
    intro H locs ls hW hL
    exact sg_newW C hfl hno hT hL thw_1 exi0 (Nat.le_of_ble_eq_true rfl) ⟨by show 6 ≤ _ + 6; omega, by show 100 ≤ _ + 120; omega, Nat.le_refl _, Nat.le_refl _⟩ dX8_requireRange_10 dX8_requireRange_13 dX8_requireRange_14 dX8_requireRange_17 dX8_requireRange_20 hW
theorem ok_rI6 {S N : Nat → Nat} {p : Nat} (hp : p < 6) : CWp S N 0 MX8_requireIndex [.ref x, .int (nI p), .int 6] I J P (Qn I J P) := (k_rI6 hp).mpr ⟨rfl, rfl, rfl, rfl⟩
theorem ok_rI {S N : Nat → Nat} {k n : Nat} (hk : k < n) (hn : n < 2 ^ 31) : CWp S N 0 MX8_requireIndex [.ref x, .int (nI k), .int (nI n)] I J P (Qn I J P) := (k_rI hk hn).mpr ⟨rfl, rfl, rfl, rfl⟩
theorem ok_rR {S N : Nat → Nat} {v a b : Int32} (h1 : a ≤ v) (h2 : v ≤ b) : CWp S N 0 MX8_requireRange [.ref x, .int v, .int a, .int b] I J P (Qn I J P) := (k_rR h1 h2).mpr ⟨rfl, rfl, rfl, rfl⟩
theorem t_setPerson1 (hE : tx_ok E) (hfl : l.stackTraces = false) (hw : WbS E.2.2.1 E.2.2.2.1 P x πd π πs πh) {v v1 v2 v3 : Int32} (hv : v < 0 ∨ nI 6 ≤ v) : MtX l E 1 MX8_setPerson [.ref x, .int v, .int v1, .int v2, .int v3] I J P 0 I J P := by
  have hw' := hw.f
  have hl' := hw.le.f
  have hru := hw.le.r.f
  have hS := hw'.1
  refine MtX.of hE MX8_setPerson_ok (Nat.le_of_ble_eq_true rfl) (fun pg e s m args below meth c C hno hT => zt_seg (M := MX8_setPerson) C ?_)
  show Gp E.2.2.1 E.2.2.2.1 true MX8_setPerson _ 0 [some (.ref x), some (.int v), some (.int v1), some (.int v2), some (.int v3)] [] I J P
  simp only [g_X8_setPerson_0, g_X8_setPerson_1, g_X8_setPerson_2, hw', hl', hru, true_and, and_true, rf_s, not_true_eq_false, not_false_eq_true, true_implies, false_implies, kl_i, kl_n, kl_l, kl_r, Option.toList, List.cons_append, List.nil_append, if_true, if_false, u2s, lt00, lt01, lt02, lt03, le10, le20, le30, ne10, ne20, ne30, eq00]
  refine gs_X8_setPerson_4 ?_
  intro H locs ls hW hL
  exact sg_cX (M := MX8_requireIndex) (As := [.int v, .int 6]) (b := x) C hno hT hL (d := 0) ⟨by show _ ≤ _ + 6; omega, by show _ ≤ 60 * _ + 120; omega, Nat.le_refl _, Nat.le_refl _⟩ dX8_setPerson_4 rfl rfl rfl hS (by rw [hS]; decide) (Nat.le_of_ble_eq_true rfl) rfl (t_rI (d := 0) hE hfl hS hv) hW
theorem t_personData1 (hE : tx_ok E) (hfl : l.stackTraces = false) (hw : WbS E.2.2.1 E.2.2.2.1 P x πd π πs πh) {v v1 : Int32} (hv : v < 0 ∨ nI 6 ≤ v) : MtX l E 1 MX8_personData [.ref x, .int v, .int v1] I J P 0 I J P := by
  have hw' := hw.f
  have hl' := hw.le.f
  have hru := hw.le.r.f
  have hS := hw'.1
  refine MtX.of hE MX8_personData_ok (Nat.le_of_ble_eq_true rfl) (fun pg e s m args below meth c C hno hT => zt_seg (M := MX8_personData) C ?_)
  show Gp E.2.2.1 E.2.2.2.1 true MX8_personData _ 0 [some (.ref x), some (.int v), some (.int v1)] [] I J P
  simp only [g_X8_personData_0, g_X8_personData_1, g_X8_personData_2, hw', hl', hru, true_and, and_true, rf_s, not_true_eq_false, not_false_eq_true, true_implies, false_implies, kl_i, kl_n, kl_l, kl_r, Option.toList, List.cons_append, List.nil_append, if_true, if_false, u2s, lt00, lt01, lt02, lt03, le10, le20, le30, ne10, ne20, ne30, eq00]
  refine gs_X8_personData_4 ?_
  intro H locs ls hW hL
  exact sg_cX (M := MX8_requireIndex) (As := [.int v, .int 6]) (b := x) C hno hT hL (d := 0) ⟨by show _ ≤ _ + 6; omega, by show _ ≤ 60 * _ + 120; omega, Nat.le_refl _, Nat.le_refl _⟩ dX8_personData_4 rfl rfl rfl hS (by rw [hS]; decide) (Nat.le_of_ble_eq_true rfl) rfl (t_rI (d := 0) hE hfl hS hv) hW
theorem t_marry1 (hE : tx_ok E) (hfl : l.stackTraces = false) (hw : WbS E.2.2.1 E.2.2.2.1 P x πd π πs πh) {v v1 : Int32} (hv : v < 0 ∨ nI 6 ≤ v) : MtX l E 1 MX8_marry [.ref x, .int v, .int v1] I J P 0 I J P := by
  have hw' := hw.f
  have hl' := hw.le.f
  have hru := hw.le.r.f
  have hS := hw'.1
  refine MtX.of hE MX8_marry_ok (Nat.le_of_ble_eq_true rfl) (fun pg e s m args below meth c C hno hT => zt_seg (M := MX8_marry) C ?_)
  show Gp E.2.2.1 E.2.2.2.1 true MX8_marry _ 0 [some (.ref x), some (.int v), some (.int v1)] [] I J P
  simp only [g_X8_marry_0, g_X8_marry_1, g_X8_marry_2, hw', hl', hru, true_and, and_true, rf_s, not_true_eq_false, not_false_eq_true, true_implies, false_implies, kl_i, kl_n, kl_l, kl_r, Option.toList, List.cons_append, List.nil_append, if_true, if_false, u2s, lt00, lt01, lt02, lt03, le10, le20, le30, ne10, ne20, ne30, eq00]
  refine gs_X8_marry_4 ?_
  intro H locs ls hW hL
  exact sg_cX (M := MX8_requireIndex) (As := [.int v, .int 6]) (b := x) C hno hT hL (d := 0) ⟨by show _ ≤ _ + 6; omega, by show _ ≤ 60 * _ + 120; omega, Nat.le_refl _, Nat.le_refl _⟩ dX8_marry_4 rfl rfl rfl hS (by rw [hS]; decide) (Nat.le_of_ble_eq_true rfl) rfl (t_rI (d := 0) hE hfl hS hv) hW
theorem t_tax1 (hE : tx_ok E) (hfl : l.stackTraces = false) (hw : WbS E.2.2.1 E.2.2.2.1 P x πd π πs πh) {v : Int32} (hv : v < 0 ∨ nI 6 ≤ v) : MtX l E 1 MX8_tax [.ref x, .int v] I J P 0 I J P := by
  have hw' := hw.f
  have hl' := hw.le.f
  have hru := hw.le.r.f
  have hS := hw'.1
  refine MtX.of hE MX8_tax_ok (Nat.le_of_ble_eq_true rfl) (fun pg e s m args below meth c C hno hT => zt_seg (M := MX8_tax) C ?_)
  show Gp E.2.2.1 E.2.2.2.1 true MX8_tax _ 0 [some (.ref x), some (.int v)] [] I J P
  simp only [g_X8_tax_0, g_X8_tax_1, g_X8_tax_2, hw', hl', hru, true_and, and_true, rf_s, not_true_eq_false, not_false_eq_true, true_implies, false_implies, kl_i, kl_n, kl_l, kl_r, Option.toList, List.cons_append, List.nil_append, if_true, if_false, u2s, lt00, lt01, lt02, lt03, le10, le20, le30, ne10, ne20, ne30, eq00]
  refine gs_X8_tax_4 ?_
  intro H locs ls hW hL
  exact sg_cX (M := MX8_requireIndex) (As := [.int v, .int 6]) (b := x) C hno hT hL (d := 0) ⟨by show _ ≤ _ + 6; omega, by show _ ≤ 60 * _ + 120; omega, Nat.le_refl _, Nat.le_refl _⟩ dX8_tax_4 rfl rfl rfl hS (by rw [hS]; decide) (Nat.le_of_ble_eq_true rfl) rfl (t_rI (d := 0) hE hfl hS hv) hW
theorem t_taxPart1 (hE : tx_ok E) (hfl : l.stackTraces = false) (hw : WbS E.2.2.1 E.2.2.2.1 P x πd π πs πh) {v v1 : Int32} (hv : v < 0 ∨ nI 6 ≤ v) : MtX l E 1 MX8_taxPart [.ref x, .int v, .int v1] I J P 0 I J P := by
  have hw' := hw.f
  have hl' := hw.le.f
  have hru := hw.le.r.f
  have hS := hw'.1
  refine MtX.of hE MX8_taxPart_ok (Nat.le_of_ble_eq_true rfl) (fun pg e s m args below meth c C hno hT => zt_seg (M := MX8_taxPart) C ?_)
  show Gp E.2.2.1 E.2.2.2.1 true MX8_taxPart _ 0 [some (.ref x), some (.int v), some (.int v1)] [] I J P
  simp only [g_X8_taxPart_0, g_X8_taxPart_1, g_X8_taxPart_2, hw', hl', hru, true_and, and_true, rf_s, not_true_eq_false, not_false_eq_true, true_implies, false_implies, kl_i, kl_n, kl_l, kl_r, Option.toList, List.cons_append, List.nil_append, if_true, if_false, u2s, lt00, lt01, lt02, lt03, le10, le20, le30, ne10, ne20, ne30, eq00]
  refine gs_X8_taxPart_4 ?_
  intro H locs ls hW hL
  exact sg_cX (M := MX8_requireIndex) (As := [.int v, .int 6]) (b := x) C hno hT hL (d := 0) ⟨by show _ ≤ _ + 6; omega, by show _ ≤ 60 * _ + 120; omega, Nat.le_refl _, Nat.le_refl _⟩ dX8_taxPart_4 rfl rfl rfl hS (by rw [hS]; decide) (Nat.le_of_ble_eq_true rfl) rfl (t_rI (d := 0) hE hfl hS hv) hW
theorem t_creditPart1 (hE : tx_ok E) (hfl : l.stackTraces = false) (hw : WbS E.2.2.1 E.2.2.2.1 P x πd π πs πh) {v v1 v2 : Int32} (hv : v < 0 ∨ nI 6 ≤ v) : MtX l E 1 MX8_creditPart [.ref x, .int v, .int v1, .int v2] I J P 0 I J P := by
  have hw' := hw.f
  have hl' := hw.le.f
  have hru := hw.le.r.f
  have hS := hw'.1
  refine MtX.of hE MX8_creditPart_ok (Nat.le_of_ble_eq_true rfl) (fun pg e s m args below meth c C hno hT => zt_seg (M := MX8_creditPart) C ?_)
  show Gp E.2.2.1 E.2.2.2.1 true MX8_creditPart _ 0 [some (.ref x), some (.int v), some (.int v1), some (.int v2)] [] I J P
  simp only [g_X8_creditPart_0, g_X8_creditPart_1, g_X8_creditPart_2, hw', hl', hru, true_and, and_true, rf_s, not_true_eq_false, not_false_eq_true, true_implies, false_implies, kl_i, kl_n, kl_l, kl_r, Option.toList, List.cons_append, List.nil_append, if_true, if_false, u2s, lt00, lt01, lt02, lt03, le10, le20, le30, ne10, ne20, ne30, eq00]
  refine gs_X8_creditPart_4 ?_
  intro H locs ls hW hL
  exact sg_cX (M := MX8_requireIndex) (As := [.int v, .int 6]) (b := x) C hno hT hL (d := 0) ⟨by show _ ≤ _ + 6; omega, by show _ ≤ 60 * _ + 120; omega, Nat.le_refl _, Nat.le_refl _⟩ dX8_creditPart_4 rfl rfl rfl hS (by rw [hS]; decide) (Nat.le_of_ble_eq_true rfl) rfl (t_rI (d := 0) hE hfl hS hv) hW
theorem t_carried1 (hE : tx_ok E) (hfl : l.stackTraces = false) (hw : WbS E.2.2.1 E.2.2.2.1 P x πd π πs πh) {v v1 : Int32} (hv : v < 0 ∨ nI 6 ≤ v) : MtX l E 1 MX8_carried [.ref x, .int v, .int v1] I J P 0 I J P := by
  have hw' := hw.f
  have hl' := hw.le.f
  have hru := hw.le.r.f
  have hS := hw'.1
  refine MtX.of hE MX8_carried_ok (Nat.le_of_ble_eq_true rfl) (fun pg e s m args below meth c C hno hT => zt_seg (M := MX8_carried) C ?_)
  show Gp E.2.2.1 E.2.2.2.1 true MX8_carried _ 0 [some (.ref x), some (.int v), some (.int v1)] [] I J P
  simp only [g_X8_carried_0, g_X8_carried_1, g_X8_carried_2, hw', hl', hru, true_and, and_true, rf_s, not_true_eq_false, not_false_eq_true, true_implies, false_implies, kl_i, kl_n, kl_l, kl_r, Option.toList, List.cons_append, List.nil_append, if_true, if_false, u2s, lt00, lt01, lt02, lt03, le10, le20, le30, ne10, ne20, ne30, eq00]
  refine gs_X8_carried_4 ?_
  intro H locs ls hW hL
  exact sg_cX (M := MX8_requireIndex) (As := [.int v, .int 6]) (b := x) C hno hT hL (d := 0) ⟨by show _ ≤ _ + 6; omega, by show _ ≤ 60 * _ + 120; omega, Nat.le_refl _, Nat.le_refl _⟩ dX8_carried_4 rfl rfl rfl hS (by rw [hS]; decide) (Nat.le_of_ble_eq_true rfl) rfl (t_rI (d := 0) hE hfl hS hv) hW
theorem t_householdTax1 (hE : tx_ok E) (hfl : l.stackTraces = false) (hw : WbS E.2.2.1 E.2.2.2.1 P x πd π πs πh) {v : Int32} (hv : v < 0 ∨ nI 6 ≤ v) : MtX l E 1 MX8_householdTax [.ref x, .int v] I J P 0 I J P := by
  have hw' := hw.f
  have hl' := hw.le.f
  have hru := hw.le.r.f
  have hS := hw'.1
  refine MtX.of hE MX8_householdTax_ok (Nat.le_of_ble_eq_true rfl) (fun pg e s m args below meth c C hno hT => zt_seg (M := MX8_householdTax) C ?_)
  show Gp E.2.2.1 E.2.2.2.1 true MX8_householdTax _ 0 [some (.ref x), some (.int v)] [] I J P
  simp only [g_X8_householdTax_0, g_X8_householdTax_1, g_X8_householdTax_2, hw', hl', hru, true_and, and_true, rf_s, not_true_eq_false, not_false_eq_true, true_implies, false_implies, kl_i, kl_n, kl_l, kl_r, Option.toList, List.cons_append, List.nil_append, if_true, if_false, u2s, lt00, lt01, lt02, lt03, le10, le20, le30, ne10, ne20, ne30, eq00]
  refine gs_X8_householdTax_4 ?_
  intro H locs ls hW hL
  exact sg_cX (M := MX8_requireIndex) (As := [.int v, .int 6]) (b := x) C hno hT hL (d := 0) ⟨by show _ ≤ _ + 6; omega, by show _ ≤ 60 * _ + 120; omega, Nat.le_refl _, Nat.le_refl _⟩ dX8_householdTax_4 rfl rfl rfl hS (by rw [hS]; decide) (Nat.le_of_ble_eq_true rfl) rfl (t_rI (d := 0) hE hfl hS hv) hW
theorem t_curve1 (hE : tx_ok E) (hfl : l.stackTraces = false) (hw : WbS E.2.2.1 E.2.2.2.1 P x πd π πs πh) {v v1 : Int32} (hv : v < 0 ∨ nI 6 ≤ v) : MtX l E 1 MX8_curve [.ref x, .int v, .int v1] I J P 0 I J P := by
  have hw' := hw.f
  have hl' := hw.le.f
  have hru := hw.le.r.f
  have hS := hw'.1
  refine MtX.of hE MX8_curve_ok (Nat.le_of_ble_eq_true rfl) (fun pg e s m args below meth c C hno hT => zt_seg (M := MX8_curve) C ?_)
  show Gp E.2.2.1 E.2.2.2.1 true MX8_curve _ 0 [some (.ref x), some (.int v), some (.int v1)] [] I J P
  simp only [g_X8_curve_0, g_X8_curve_1, g_X8_curve_2, hw', hl', hru, true_and, and_true, rf_s, not_true_eq_false, not_false_eq_true, true_implies, false_implies, kl_i, kl_n, kl_l, kl_r, Option.toList, List.cons_append, List.nil_append, if_true, if_false, u2s, lt00, lt01, lt02, lt03, le10, le20, le30, ne10, ne20, ne30, eq00]
  refine gs_X8_curve_4 ?_
  intro H locs ls hW hL
  exact sg_cX (M := MX8_requireIndex) (As := [.int v, .int 6]) (b := x) C hno hT hL (d := 0) ⟨by show _ ≤ _ + 6; omega, by show _ ≤ 60 * _ + 120; omega, Nat.le_refl _, Nat.le_refl _⟩ dX8_curve_4 rfl rfl rfl hS (by rw [hS]; decide) (Nat.le_of_ble_eq_true rfl) rfl (t_rI (d := 0) hE hfl hS hv) hW
theorem t_marginalRate1 (hE : tx_ok E) (hfl : l.stackTraces = false) (hw : WbS E.2.2.1 E.2.2.2.1 P x πd π πs πh) {v v1 : Int32} (hv : v < 0 ∨ nI 6 ≤ v) : MtX l E 1 MX8_marginalRate [.ref x, .int v, .int v1] I J P 0 I J P := by
  have hw' := hw.f
  have hl' := hw.le.f
  have hru := hw.le.r.f
  have hS := hw'.1
  refine MtX.of hE MX8_marginalRate_ok (Nat.le_of_ble_eq_true rfl) (fun pg e s m args below meth c C hno hT => zt_seg (M := MX8_marginalRate) C ?_)
  show Gp E.2.2.1 E.2.2.2.1 true MX8_marginalRate _ 0 [some (.ref x), some (.int v), some (.int v1)] [] I J P
  simp only [g_X8_marginalRate_0, g_X8_marginalRate_1, g_X8_marginalRate_2, hw', hl', hru, true_and, and_true, rf_s, not_true_eq_false, not_false_eq_true, true_implies, false_implies, kl_i, kl_n, kl_l, kl_r, Option.toList, List.cons_append, List.nil_append, if_true, if_false, u2s, lt00, lt01, lt02, lt03, le10, le20, le30, ne10, ne20, ne30, eq00]
  refine gs_X8_marginalRate_4 ?_
  intro H locs ls hW hL
  exact sg_cX (M := MX8_requireIndex) (As := [.int v, .int 6]) (b := x) C hno hT hL (d := 0) ⟨by show _ ≤ _ + 6; omega, by show _ ≤ 60 * _ + 120; omega, Nat.le_refl _, Nat.le_refl _⟩ dX8_marginalRate_4 rfl rfl rfl hS (by rw [hS]; decide) (Nat.le_of_ble_eq_true rfl) rfl (t_rI (d := 0) hE hfl hS hv) hW
theorem t_kinks1 (hE : tx_ok E) (hfl : l.stackTraces = false) (hw : WbS E.2.2.1 E.2.2.2.1 P x πd π πs πh) {v : Int32} (hv : v < 0 ∨ nI 6 ≤ v) : MtX l E 1 MX8_kinks [.ref x, .int v] I J P 0 I J P := by
  have hw' := hw.f
  have hl' := hw.le.f
  have hru := hw.le.r.f
  have hS := hw'.1
  refine MtX.of hE MX8_kinks_ok (Nat.le_of_ble_eq_true rfl) (fun pg e s m args below meth c C hno hT => zt_seg (M := MX8_kinks) C ?_)
  show Gp E.2.2.1 E.2.2.2.1 true MX8_kinks _ 0 [some (.ref x), some (.int v)] [] I J P
  simp only [g_X8_kinks_0, g_X8_kinks_1, g_X8_kinks_2, hw', hl', hru, true_and, and_true, rf_s, not_true_eq_false, not_false_eq_true, true_implies, false_implies, kl_i, kl_n, kl_l, kl_r, Option.toList, List.cons_append, List.nil_append, if_true, if_false, u2s, lt00, lt01, lt02, lt03, le10, le20, le30, ne10, ne20, ne30, eq00]
  refine gs_X8_kinks_4 ?_
  intro H locs ls hW hL
  exact sg_cX (M := MX8_requireIndex) (As := [.int v, .int 6]) (b := x) C hno hT hL (d := 0) ⟨by show _ ≤ _ + 6; omega, by show _ ≤ 60 * _ + 120; omega, Nat.le_refl _, Nat.le_refl _⟩ dX8_kinks_4 rfl rfl rfl hS (by rw [hS]; decide) (Nat.le_of_ble_eq_true rfl) rfl (t_rI (d := 0) hE hfl hS hv) hW
theorem t_steepest1 (hE : tx_ok E) (hfl : l.stackTraces = false) (hw : WbS E.2.2.1 E.2.2.2.1 P x πd π πs πh) {v : Int32} (hv : v < 0 ∨ nI 6 ≤ v) : MtX l E 1 MX8_steepest [.ref x, .int v] I J P 0 I J P := by
  have hw' := hw.f
  have hl' := hw.le.f
  have hru := hw.le.r.f
  have hS := hw'.1
  refine MtX.of hE MX8_steepest_ok (Nat.le_of_ble_eq_true rfl) (fun pg e s m args below meth c C hno hT => zt_seg (M := MX8_steepest) C ?_)
  show Gp E.2.2.1 E.2.2.2.1 true MX8_steepest _ 0 [some (.ref x), some (.int v)] [] I J P
  simp only [g_X8_steepest_0, g_X8_steepest_1, g_X8_steepest_2, hw', hl', hru, true_and, and_true, rf_s, not_true_eq_false, not_false_eq_true, true_implies, false_implies, kl_i, kl_n, kl_l, kl_r, Option.toList, List.cons_append, List.nil_append, if_true, if_false, u2s, lt00, lt01, lt02, lt03, le10, le20, le30, ne10, ne20, ne30, eq00]
  refine gs_X8_steepest_4 ?_
  intro H locs ls hW hL
  exact sg_cX (M := MX8_requireIndex) (As := [.int v, .int 6]) (b := x) C hno hT hL (d := 0) ⟨by show _ ≤ _ + 6; omega, by show _ ≤ 60 * _ + 120; omega, Nat.le_refl _, Nat.le_refl _⟩ dX8_steepest_4 rfl rfl rfl hS (by rw [hS]; decide) (Nat.le_of_ble_eq_true rfl) rfl (t_rI (d := 0) hE hfl hS hv) hW
theorem t_nextKink1 (hE : tx_ok E) (hfl : l.stackTraces = false) (hw : WbS E.2.2.1 E.2.2.2.1 P x πd π πs πh) {v v1 : Int32} (hv : v < 0 ∨ nI 6 ≤ v) : MtX l E 1 MX8_nextKink [.ref x, .int v, .int v1] I J P 0 I J P := by
  have hw' := hw.f
  have hl' := hw.le.f
  have hru := hw.le.r.f
  have hS := hw'.1
  refine MtX.of hE MX8_nextKink_ok (Nat.le_of_ble_eq_true rfl) (fun pg e s m args below meth c C hno hT => zt_seg (M := MX8_nextKink) C ?_)
  show Gp E.2.2.1 E.2.2.2.1 true MX8_nextKink _ 0 [some (.ref x), some (.int v), some (.int v1), none] [] I J P
  simp only [g_X8_nextKink_0, g_X8_nextKink_1, g_X8_nextKink_2, hw', hl', hru, true_and, and_true, rf_s, not_true_eq_false, not_false_eq_true, true_implies, false_implies, kl_i, kl_n, kl_l, kl_r, Option.toList, List.cons_append, List.nil_append, if_true, if_false, u2s, lt00, lt01, lt02, lt03, le10, le20, le30, ne10, ne20, ne30, eq00]
  refine gs_X8_nextKink_4 ?_
  intro H locs ls hW hL
  exact sg_cX (M := MX8_requireIndex) (As := [.int v, .int 6]) (b := x) C hno hT hL (d := 0) ⟨by show _ ≤ _ + 6; omega, by show _ ≤ 60 * _ + 120; omega, Nat.le_refl _, Nat.le_refl _⟩ dX8_nextKink_4 rfl rfl rfl hS (by rw [hS]; decide) (Nat.le_of_ble_eq_true rfl) rfl (t_rI (d := 0) hE hfl hS hv) hW
theorem t_kinkCause1 (hE : tx_ok E) (hfl : l.stackTraces = false) (hw : WbS E.2.2.1 E.2.2.2.1 P x πd π πs πh) {v v1 : Int32} (hv : v < 0 ∨ nI 6 ≤ v) : MtX l E 1 MX8_kinkCause [.ref x, .int v, .int v1] I J P 0 I J P := by
  have hw' := hw.f
  have hl' := hw.le.f
  have hru := hw.le.r.f
  have hS := hw'.1
  refine MtX.of hE MX8_kinkCause_ok (Nat.le_of_ble_eq_true rfl) (fun pg e s m args below meth c C hno hT => zt_seg (M := MX8_kinkCause) C ?_)
  show Gp E.2.2.1 E.2.2.2.1 true MX8_kinkCause _ 0 [some (.ref x), some (.int v), some (.int v1), none] [] I J P
  simp only [g_X8_kinkCause_0, g_X8_kinkCause_1, g_X8_kinkCause_2, hw', hl', hru, true_and, and_true, rf_s, not_true_eq_false, not_false_eq_true, true_implies, false_implies, kl_i, kl_n, kl_l, kl_r, Option.toList, List.cons_append, List.nil_append, if_true, if_false, u2s, lt00, lt01, lt02, lt03, le10, le20, le30, ne10, ne20, ne30, eq00]
  refine gs_X8_kinkCause_4 ?_
  intro H locs ls hW hL
  exact sg_cX (M := MX8_requireIndex) (As := [.int v, .int 6]) (b := x) C hno hT hL (d := 0) ⟨by show _ ≤ _ + 6; omega, by show _ ≤ 60 * _ + 120; omega, Nat.le_refl _, Nat.le_refl _⟩ dX8_kinkCause_4 rfl rfl rfl hS (by rw [hS]; decide) (Nat.le_of_ble_eq_true rfl) rfl (t_rI (d := 0) hE hfl hS hv) hW
theorem t_requirePartner1 (hE : tx_ok E) (hfl : l.stackTraces = false) (hw : WbS E.2.2.1 E.2.2.2.1 P x πd π πs πh) {v : Int32} (hv : v < 0 ∨ nI 6 ≤ v) : MtX l E 1 MX8_requirePartner [.ref x, .int v] I J P 0 I J P := by
  have hw' := hw.f
  have hl' := hw.le.f
  have hru := hw.le.r.f
  have hS := hw'.1
  refine MtX.of hE MX8_requirePartner_ok (Nat.le_of_ble_eq_true rfl) (fun pg e s m args below meth c C hno hT => zt_seg (M := MX8_requirePartner) C ?_)
  show Gp E.2.2.1 E.2.2.2.1 true MX8_requirePartner _ 0 [some (.ref x), some (.int v), none] [] I J P
  simp only [g_X8_requirePartner_0, g_X8_requirePartner_1, g_X8_requirePartner_2, hw', hl', hru, true_and, and_true, rf_s, not_true_eq_false, not_false_eq_true, true_implies, false_implies, kl_i, kl_n, kl_l, kl_r, Option.toList, List.cons_append, List.nil_append, if_true, if_false, u2s, lt00, lt01, lt02, lt03, le10, le20, le30, ne10, ne20, ne30, eq00]
  refine gs_X8_requirePartner_4 ?_
  intro H locs ls hW hL
  exact sg_cX (M := MX8_requireIndex) (As := [.int v, .int 6]) (b := x) C hno hT hL (d := 0) ⟨by show _ ≤ _ + 6; omega, by show _ ≤ 60 * _ + 120; omega, Nat.le_refl _, Nat.le_refl _⟩ dX8_requirePartner_4 rfl rfl rfl hS (by rw [hS]; decide) (Nat.le_of_ble_eq_true rfl) rfl (t_rI (d := 0) hE hfl hS hv) hW
theorem t_personData2 (hE : tx_ok E) (hfl : l.stackTraces = false) (hw : WbS E.2.2.1 E.2.2.2.1 P x πd π πs πh) {p : Nat} (hp : p < 6) {v : Int32} (hv : ¬ (0 ≤ v ∧ v ≤ 2)) : MtX l E 1 MX8_personData [.ref x, .int (nI p), .int v] I J P 1 I J P := by
  have hw' := hw.f
  have hl' := hw.le.f
  have hru := hw.le.r.f
  have hS := hw'.1
  refine MtX.of hE MX8_personData_ok (Nat.le_of_ble_eq_true rfl) (fun pg e s m args below meth c C hno hT => zt_seg (M := MX8_personData) C ?_)
  show Gp E.2.2.1 E.2.2.2.1 true MX8_personData _ 0 [some (.ref x), some (.int (nI p)), some (.int v)] [] I J P
  simp only [g_X8_personData_0, g_X8_personData_1, g_X8_personData_2, hw', hl', hru, true_and, and_true, rf_s, not_true_eq_false, not_false_eq_true, true_implies, false_implies, kl_i, kl_n, kl_l, kl_r, Option.toList, List.cons_append, List.nil_append, if_true, if_false, u2s, lt00, lt01, lt02, lt03, le10, le20, le30, ne10, ne20, ne30, eq00]
  refine gs_X8_personData_4 ?_
  intro H locs ls hW hL
  refine sg_cG (M := MX8_requireIndex) (As := [.int (nI p), .int 6]) (b := x) (pc2 := 7) rfl C hL ⟨by show 1 ≤ _ + 6; omega, by show 40 ≤ _ + 120; omega⟩ ⟨Nat.zero_le _, Nat.zero_le _⟩ dX8_personData_4 rfl rfl rfl hS (by rw [hS]; decide) (Nat.le_of_ble_eq_true rfl) rfl (ok_rI6 hp) hW (zt_seg (M := MX8_personData) C ?_)
  simp only [g_X8_personData_7, g_X8_personData_8, g_X8_personData_9, g_X8_personData_10, hw', hl', hru, true_and, and_true, rf_s, not_true_eq_false, not_false_eq_true, true_implies, false_implies, kl_i, kl_n, kl_l, kl_r, Option.toList, List.cons_append, List.nil_append, if_true, if_false, u2s, lt00, lt01, lt02, lt03, le10, le20, le30, ne10, ne20, ne30, eq00]
  refine gs_X8_personData_11 ?_
  intro H locs ls hW hL
  exact sg_cX (M := MX8_requireRange) (As := [.int v, .int 0, .int 2]) (b := x) C hno hT hL (d := 0) ⟨by show _ ≤ _ + 6; omega, by show _ ≤ 60 * _ + 120; omega, Nat.le_refl _, Nat.le_refl _⟩ dX8_personData_11 rfl rfl rfl hS (by rw [hS]; decide) (Nat.le_of_ble_eq_true rfl) rfl (t_rR (d := 0) hE hfl hS hv) hW
theorem t_taxPart2 (hE : tx_ok E) (hfl : l.stackTraces = false) (hw : WbS E.2.2.1 E.2.2.2.1 P x πd π πs πh) {p : Nat} (hp : p < 6) {v : Int32} (hv : ¬ (0 ≤ v ∧ v ≤ 5)) : MtX l E 1 MX8_taxPart [.ref x, .int (nI p), .int v] I J P 1 I J P := by
  have hw' := hw.f
  have hl' := hw.le.f
  have hru := hw.le.r.f
  have hS := hw'.1
  refine MtX.of hE MX8_taxPart_ok (Nat.le_of_ble_eq_true rfl) (fun pg e s m args below meth c C hno hT => zt_seg (M := MX8_taxPart) C ?_)
  show Gp E.2.2.1 E.2.2.2.1 true MX8_taxPart _ 0 [some (.ref x), some (.int (nI p)), some (.int v)] [] I J P
  simp only [g_X8_taxPart_0, g_X8_taxPart_1, g_X8_taxPart_2, hw', hl', hru, true_and, and_true, rf_s, not_true_eq_false, not_false_eq_true, true_implies, false_implies, kl_i, kl_n, kl_l, kl_r, Option.toList, List.cons_append, List.nil_append, if_true, if_false, u2s, lt00, lt01, lt02, lt03, le10, le20, le30, ne10, ne20, ne30, eq00]
  refine gs_X8_taxPart_4 ?_
  intro H locs ls hW hL
  refine sg_cG (M := MX8_requireIndex) (As := [.int (nI p), .int 6]) (b := x) (pc2 := 7) rfl C hL ⟨by show 1 ≤ _ + 6; omega, by show 40 ≤ _ + 120; omega⟩ ⟨Nat.zero_le _, Nat.zero_le _⟩ dX8_taxPart_4 rfl rfl rfl hS (by rw [hS]; decide) (Nat.le_of_ble_eq_true rfl) rfl (ok_rI6 hp) hW (zt_seg (M := MX8_taxPart) C ?_)
  simp only [g_X8_taxPart_7, g_X8_taxPart_8, g_X8_taxPart_9, g_X8_taxPart_10, hw', hl', hru, true_and, and_true, rf_s, not_true_eq_false, not_false_eq_true, true_implies, false_implies, kl_i, kl_n, kl_l, kl_r, Option.toList, List.cons_append, List.nil_append, if_true, if_false, u2s, lt00, lt01, lt02, lt03, le10, le20, le30, ne10, ne20, ne30, eq00]
  refine gs_X8_taxPart_11 ?_
  intro H locs ls hW hL
  exact sg_cX (M := MX8_requireRange) (As := [.int v, .int 0, .int 5]) (b := x) C hno hT hL (d := 0) ⟨by show _ ≤ _ + 6; omega, by show _ ≤ 60 * _ + 120; omega, Nat.le_refl _, Nat.le_refl _⟩ dX8_taxPart_11 rfl rfl rfl hS (by rw [hS]; decide) (Nat.le_of_ble_eq_true rfl) rfl (t_rR (d := 0) hE hfl hS hv) hW
theorem t_curve2 (hE : tx_ok E) (hfl : l.stackTraces = false) (hw : WbS E.2.2.1 E.2.2.2.1 P x πd π πs πh) {p : Nat} (hp : p < 6) {v : Int32} (hv : ¬ (0 ≤ v ∧ v ≤ 9999)) : MtX l E 1 MX8_curve [.ref x, .int (nI p), .int v] I J P 1 I J P := by
  have hw' := hw.f
  have hl' := hw.le.f
  have hru := hw.le.r.f
  have hS := hw'.1
  refine MtX.of hE MX8_curve_ok (Nat.le_of_ble_eq_true rfl) (fun pg e s m args below meth c C hno hT => zt_seg (M := MX8_curve) C ?_)
  show Gp E.2.2.1 E.2.2.2.1 true MX8_curve _ 0 [some (.ref x), some (.int (nI p)), some (.int v)] [] I J P
  simp only [g_X8_curve_0, g_X8_curve_1, g_X8_curve_2, hw', hl', hru, true_and, and_true, rf_s, not_true_eq_false, not_false_eq_true, true_implies, false_implies, kl_i, kl_n, kl_l, kl_r, Option.toList, List.cons_append, List.nil_append, if_true, if_false, u2s, lt00, lt01, lt02, lt03, le10, le20, le30, ne10, ne20, ne30, eq00]
  refine gs_X8_curve_4 ?_
  intro H locs ls hW hL
  refine sg_cG (M := MX8_requireIndex) (As := [.int (nI p), .int 6]) (b := x) (pc2 := 7) rfl C hL ⟨by show 1 ≤ _ + 6; omega, by show 40 ≤ _ + 120; omega⟩ ⟨Nat.zero_le _, Nat.zero_le _⟩ dX8_curve_4 rfl rfl rfl hS (by rw [hS]; decide) (Nat.le_of_ble_eq_true rfl) rfl (ok_rI6 hp) hW (zt_seg (M := MX8_curve) C ?_)
  simp only [g_X8_curve_7, g_X8_curve_8, g_X8_curve_9, g_X8_curve_10, hw', hl', hru, true_and, and_true, rf_s, not_true_eq_false, not_false_eq_true, true_implies, false_implies, kl_i, kl_n, kl_l, kl_r, Option.toList, List.cons_append, List.nil_append, if_true, if_false, u2s, lt00, lt01, lt02, lt03, le10, le20, le30, ne10, ne20, ne30, eq00]
  refine gs_X8_curve_13 ?_
  intro H locs ls hW hL
  exact sg_cX (M := MX8_requireRange) (As := [.int v, .int 0, .int 9999]) (b := x) C hno hT hL (d := 0) ⟨by show _ ≤ _ + 6; omega, by show _ ≤ 60 * _ + 120; omega, Nat.le_refl _, Nat.le_refl _⟩ dX8_curve_13 rfl rfl rfl hS (by rw [hS]; decide) (Nat.le_of_ble_eq_true rfl) rfl (t_rR (d := 0) hE hfl hS hv) hW
theorem t_marginalRate2 (hE : tx_ok E) (hfl : l.stackTraces = false) (hw : WbS E.2.2.1 E.2.2.2.1 P x πd π πs πh) {p : Nat} (hp : p < 6) {v : Int32} (hv : ¬ (0 ≤ v ∧ v ≤ 9998)) : MtX l E 1 MX8_marginalRate [.ref x, .int (nI p), .int v] I J P 1 I J P := by
  have hw' := hw.f
  have hl' := hw.le.f
  have hru := hw.le.r.f
  have hS := hw'.1
  refine MtX.of hE MX8_marginalRate_ok (Nat.le_of_ble_eq_true rfl) (fun pg e s m args below meth c C hno hT => zt_seg (M := MX8_marginalRate) C ?_)
  show Gp E.2.2.1 E.2.2.2.1 true MX8_marginalRate _ 0 [some (.ref x), some (.int (nI p)), some (.int v)] [] I J P
  simp only [g_X8_marginalRate_0, g_X8_marginalRate_1, g_X8_marginalRate_2, hw', hl', hru, true_and, and_true, rf_s, not_true_eq_false, not_false_eq_true, true_implies, false_implies, kl_i, kl_n, kl_l, kl_r, Option.toList, List.cons_append, List.nil_append, if_true, if_false, u2s, lt00, lt01, lt02, lt03, le10, le20, le30, ne10, ne20, ne30, eq00]
  refine gs_X8_marginalRate_4 ?_
  intro H locs ls hW hL
  refine sg_cG (M := MX8_requireIndex) (As := [.int (nI p), .int 6]) (b := x) (pc2 := 7) rfl C hL ⟨by show 1 ≤ _ + 6; omega, by show 40 ≤ _ + 120; omega⟩ ⟨Nat.zero_le _, Nat.zero_le _⟩ dX8_marginalRate_4 rfl rfl rfl hS (by rw [hS]; decide) (Nat.le_of_ble_eq_true rfl) rfl (ok_rI6 hp) hW (zt_seg (M := MX8_marginalRate) C ?_)
  simp only [g_X8_marginalRate_7, g_X8_marginalRate_8, g_X8_marginalRate_9, g_X8_marginalRate_10, hw', hl', hru, true_and, and_true, rf_s, not_true_eq_false, not_false_eq_true, true_implies, false_implies, kl_i, kl_n, kl_l, kl_r, Option.toList, List.cons_append, List.nil_append, if_true, if_false, u2s, lt00, lt01, lt02, lt03, le10, le20, le30, ne10, ne20, ne30, eq00]
  refine gs_X8_marginalRate_13 ?_
  intro H locs ls hW hL
  exact sg_cX (M := MX8_requireRange) (As := [.int v, .int 0, .int 9998]) (b := x) C hno hT hL (d := 0) ⟨by show _ ≤ _ + 6; omega, by show _ ≤ 60 * _ + 120; omega, Nat.le_refl _, Nat.le_refl _⟩ dX8_marginalRate_13 rfl rfl rfl hS (by rw [hS]; decide) (Nat.le_of_ble_eq_true rfl) rfl (t_rR (d := 0) hE hfl hS hv) hW
theorem t_setPerson2 (hE : tx_ok E) (hfl : l.stackTraces = false) (hw : WbS E.2.2.1 E.2.2.2.1 P x πd π πs πh) {p : Nat} (hp : p < 6) {v v2 v3 : Int32} (hv : ¬ (0 ≤ v ∧ v ≤ 9999)) : MtX l E 1 MX8_setPerson [.ref x, .int (nI p), .int v, .int v2, .int v3] I J P 1 I J P := by
  have hw' := hw.f
  have hl' := hw.le.f
  have hru := hw.le.r.f
  have hS := hw'.1
  refine MtX.of hE MX8_setPerson_ok (Nat.le_of_ble_eq_true rfl) (fun pg e s m args below meth c C hno hT => zt_seg (M := MX8_setPerson) C ?_)
  show Gp E.2.2.1 E.2.2.2.1 true MX8_setPerson _ 0 [some (.ref x), some (.int (nI p)), some (.int v), some (.int v2), some (.int v3)] [] I J P
  simp only [g_X8_setPerson_0, g_X8_setPerson_1, g_X8_setPerson_2, hw', hl', hru, true_and, and_true, rf_s, not_true_eq_false, not_false_eq_true, true_implies, false_implies, kl_i, kl_n, kl_l, kl_r, Option.toList, List.cons_append, List.nil_append, if_true, if_false, u2s, lt00, lt01, lt02, lt03, le10, le20, le30, ne10, ne20, ne30, eq00]
  refine gs_X8_setPerson_4 ?_
  intro H locs ls hW hL
  refine sg_cG (M := MX8_requireIndex) (As := [.int (nI p), .int 6]) (b := x) (pc2 := 7) rfl C hL ⟨by show 1 ≤ _ + 6; omega, by show 40 ≤ _ + 120; omega⟩ ⟨Nat.zero_le _, Nat.zero_le _⟩ dX8_setPerson_4 rfl rfl rfl hS (by rw [hS]; decide) (Nat.le_of_ble_eq_true rfl) rfl (ok_rI6 hp) hW (zt_seg (M := MX8_setPerson) C ?_)
  simp only [g_X8_setPerson_7, g_X8_setPerson_8, g_X8_setPerson_9, g_X8_setPerson_10, hw', hl', hru, true_and, and_true, rf_s, not_true_eq_false, not_false_eq_true, true_implies, false_implies, kl_i, kl_n, kl_l, kl_r, Option.toList, List.cons_append, List.nil_append, if_true, if_false, u2s, lt00, lt01, lt02, lt03, le10, le20, le30, ne10, ne20, ne30, eq00]
  refine gs_X8_setPerson_13 ?_
  intro H locs ls hW hL
  exact sg_cX (M := MX8_requireRange) (As := [.int v, .int 0, .int 9999]) (b := x) C hno hT hL (d := 0) ⟨by show _ ≤ _ + 6; omega, by show _ ≤ 60 * _ + 120; omega, Nat.le_refl _, Nat.le_refl _⟩ dX8_setPerson_13 rfl rfl rfl hS (by rw [hS]; decide) (Nat.le_of_ble_eq_true rfl) rfl (t_rR (d := 0) hE hfl hS hv) hW
theorem t_setPerson3 (hE : tx_ok E) (hfl : l.stackTraces = false) (hw : WbS E.2.2.1 E.2.2.2.1 P x πd π πs πh) {p : Nat} (hp : p < 6) {v v1 v3 : Int32} (h1 : 0 ≤ v1 ∧ v1 ≤ 9999) (hv : ¬ (0 ≤ v ∧ v ≤ 9999)) : MtX l E 1 MX8_setPerson [.ref x, .int (nI p), .int v1, .int v, .int v3] I J P 1 I J P := by
  have hw' := hw.f
  have hl' := hw.le.f
  have hru := hw.le.r.f
  have hS := hw'.1
  refine MtX.of hE MX8_setPerson_ok (Nat.le_of_ble_eq_true rfl) (fun pg e s m args below meth c C hno hT => zt_seg (M := MX8_setPerson) C ?_)
  show Gp E.2.2.1 E.2.2.2.1 true MX8_setPerson _ 0 [some (.ref x), some (.int (nI p)), some (.int v1), some (.int v), some (.int v3)] [] I J P
  simp only [g_X8_setPerson_0, g_X8_setPerson_1, g_X8_setPerson_2, hw', hl', hru, true_and, and_true, rf_s, not_true_eq_false, not_false_eq_true, true_implies, false_implies, kl_i, kl_n, kl_l, kl_r, Option.toList, List.cons_append, List.nil_append, if_true, if_false, u2s, lt00, lt01, lt02, lt03, le10, le20, le30, ne10, ne20, ne30, eq00]
  refine gs_X8_setPerson_4 ?_
  intro H locs ls hW hL
  refine sg_cG (M := MX8_requireIndex) (As := [.int (nI p), .int 6]) (b := x) (pc2 := 7) rfl C hL ⟨by show 1 ≤ _ + 6; omega, by show 40 ≤ _ + 120; omega⟩ ⟨Nat.zero_le _, Nat.zero_le _⟩ dX8_setPerson_4 rfl rfl rfl hS (by rw [hS]; decide) (Nat.le_of_ble_eq_true rfl) rfl (ok_rI6 hp) hW (zt_seg (M := MX8_setPerson) C ?_)
  simp only [g_X8_setPerson_7, g_X8_setPerson_8, g_X8_setPerson_9, g_X8_setPerson_10, hw', hl', hru, true_and, and_true, rf_s, not_true_eq_false, not_false_eq_true, true_implies, false_implies, kl_i, kl_n, kl_l, kl_r, Option.toList, List.cons_append, List.nil_append, if_true, if_false, u2s, lt00, lt01, lt02, lt03, le10, le20, le30, ne10, ne20, ne30, eq00]
  refine gs_X8_setPerson_13 ?_
  intro H locs ls hW hL
  refine sg_cG (M := MX8_requireRange) (As := [.int v1, .int 0, .int 9999]) (b := x) (pc2 := 16) rfl C hL ⟨by show 1 ≤ _ + 6; omega, by show 40 ≤ _ + 120; omega⟩ ⟨Nat.zero_le _, Nat.zero_le _⟩ dX8_setPerson_13 rfl rfl rfl hS (by rw [hS]; decide) (Nat.le_of_ble_eq_true rfl) rfl (ok_rR h1.1 h1.2) hW (zt_seg (M := MX8_setPerson) C ?_)
  simp only [g_X8_setPerson_16, g_X8_setPerson_17, g_X8_setPerson_18, g_X8_setPerson_19, hw', hl', hru, true_and, and_true, rf_s, not_true_eq_false, not_false_eq_true, true_implies, false_implies, kl_i, kl_n, kl_l, kl_r, Option.toList, List.cons_append, List.nil_append, if_true, if_false, u2s, lt00, lt01, lt02, lt03, le10, le20, le30, ne10, ne20, ne30, eq00]
  refine gs_X8_setPerson_22 ?_
  intro H locs ls hW hL
  exact sg_cX (M := MX8_requireRange) (As := [.int v, .int 0, .int 9999]) (b := x) C hno hT hL (d := 0) ⟨by show _ ≤ _ + 6; omega, by show _ ≤ 60 * _ + 120; omega, Nat.le_refl _, Nat.le_refl _⟩ dX8_setPerson_22 rfl rfl rfl hS (by rw [hS]; decide) (Nat.le_of_ble_eq_true rfl) rfl (t_rR (d := 0) hE hfl hS hv) hW
theorem t_setPerson4 (hE : tx_ok E) (hfl : l.stackTraces = false) (hw : WbS E.2.2.1 E.2.2.2.1 P x πd π πs πh) {p : Nat} (hp : p < 6) {v v1 v2 : Int32} (h1 : 0 ≤ v1 ∧ v1 ≤ 9999) (h2 : 0 ≤ v2 ∧ v2 ≤ 9999) (hv : ¬ (0 ≤ v ∧ v ≤ 9)) : MtX l E 1 MX8_setPerson [.ref x, .int (nI p), .int v1, .int v2, .int v] I J P 1 I J P := by
  have hw' := hw.f
  have hl' := hw.le.f
  have hru := hw.le.r.f
  have hS := hw'.1
  refine MtX.of hE MX8_setPerson_ok (Nat.le_of_ble_eq_true rfl) (fun pg e s m args below meth c C hno hT => zt_seg (M := MX8_setPerson) C ?_)
  show Gp E.2.2.1 E.2.2.2.1 true MX8_setPerson _ 0 [some (.ref x), some (.int (nI p)), some (.int v1), some (.int v2), some (.int v)] [] I J P
  simp only [g_X8_setPerson_0, g_X8_setPerson_1, g_X8_setPerson_2, hw', hl', hru, true_and, and_true, rf_s, not_true_eq_false, not_false_eq_true, true_implies, false_implies, kl_i, kl_n, kl_l, kl_r, Option.toList, List.cons_append, List.nil_append, if_true, if_false, u2s, lt00, lt01, lt02, lt03, le10, le20, le30, ne10, ne20, ne30, eq00]
  refine gs_X8_setPerson_4 ?_
  intro H locs ls hW hL
  refine sg_cG (M := MX8_requireIndex) (As := [.int (nI p), .int 6]) (b := x) (pc2 := 7) rfl C hL ⟨by show 1 ≤ _ + 6; omega, by show 40 ≤ _ + 120; omega⟩ ⟨Nat.zero_le _, Nat.zero_le _⟩ dX8_setPerson_4 rfl rfl rfl hS (by rw [hS]; decide) (Nat.le_of_ble_eq_true rfl) rfl (ok_rI6 hp) hW (zt_seg (M := MX8_setPerson) C ?_)
  simp only [g_X8_setPerson_7, g_X8_setPerson_8, g_X8_setPerson_9, g_X8_setPerson_10, hw', hl', hru, true_and, and_true, rf_s, not_true_eq_false, not_false_eq_true, true_implies, false_implies, kl_i, kl_n, kl_l, kl_r, Option.toList, List.cons_append, List.nil_append, if_true, if_false, u2s, lt00, lt01, lt02, lt03, le10, le20, le30, ne10, ne20, ne30, eq00]
  refine gs_X8_setPerson_13 ?_
  intro H locs ls hW hL
  refine sg_cG (M := MX8_requireRange) (As := [.int v1, .int 0, .int 9999]) (b := x) (pc2 := 16) rfl C hL ⟨by show 1 ≤ _ + 6; omega, by show 40 ≤ _ + 120; omega⟩ ⟨Nat.zero_le _, Nat.zero_le _⟩ dX8_setPerson_13 rfl rfl rfl hS (by rw [hS]; decide) (Nat.le_of_ble_eq_true rfl) rfl (ok_rR h1.1 h1.2) hW (zt_seg (M := MX8_setPerson) C ?_)
  simp only [g_X8_setPerson_16, g_X8_setPerson_17, g_X8_setPerson_18, g_X8_setPerson_19, hw', hl', hru, true_and, and_true, rf_s, not_true_eq_false, not_false_eq_true, true_implies, false_implies, kl_i, kl_n, kl_l, kl_r, Option.toList, List.cons_append, List.nil_append, if_true, if_false, u2s, lt00, lt01, lt02, lt03, le10, le20, le30, ne10, ne20, ne30, eq00]
  refine gs_X8_setPerson_22 ?_
  intro H locs ls hW hL
  refine sg_cG (M := MX8_requireRange) (As := [.int v2, .int 0, .int 9999]) (b := x) (pc2 := 25) rfl C hL ⟨by show 1 ≤ _ + 6; omega, by show 40 ≤ _ + 120; omega⟩ ⟨Nat.zero_le _, Nat.zero_le _⟩ dX8_setPerson_22 rfl rfl rfl hS (by rw [hS]; decide) (Nat.le_of_ble_eq_true rfl) rfl (ok_rR h2.1 h2.2) hW (zt_seg (M := MX8_setPerson) C ?_)
  simp only [g_X8_setPerson_25, g_X8_setPerson_26, g_X8_setPerson_28, g_X8_setPerson_29, hw', hl', hru, true_and, and_true, rf_s, not_true_eq_false, not_false_eq_true, true_implies, false_implies, kl_i, kl_n, kl_l, kl_r, Option.toList, List.cons_append, List.nil_append, if_true, if_false, u2s, lt00, lt01, lt02, lt03, le10, le20, le30, ne10, ne20, ne30, eq00]
  refine gs_X8_setPerson_31 ?_
  intro H locs ls hW hL
  exact sg_cX (M := MX8_requireRange) (As := [.int v, .int 0, .int 9]) (b := x) C hno hT hL (d := 0) ⟨by show _ ≤ _ + 6; omega, by show _ ≤ 60 * _ + 120; omega, Nat.le_refl _, Nat.le_refl _⟩ dX8_setPerson_31 rfl rfl rfl hS (by rw [hS]; decide) (Nat.le_of_ble_eq_true rfl) rfl (t_rR (d := 0) hE hfl hS hv) hW
theorem t_append1 (hE : tx_ok E) (hfl : l.stackTraces = false) (hw : WbS E.2.2.1 E.2.2.2.1 P x πd π πs πh) {v : Int32} (hv : ¬ (33 ≤ v ∧ v ≤ 126)) : MtX l E 1 MX8_appendCharacter [.ref x, .int v] I J P 1 I J P := by
  have hw' := hw.f
  have hl' := hw.le.f
  have hru := hw.le.r.f
  have hS := hw'.1
  refine MtX.of hE MX8_appendCharacter_ok (Nat.le_of_ble_eq_true rfl) (fun pg e s m args below meth c C hno hT => zt_seg (M := MX8_appendCharacter) C ?_)
  show Gp E.2.2.1 E.2.2.2.1 true MX8_appendCharacter _ 0 [some (.ref x), some (.int v)] [] I J P
  simp only [g_X8_appendCharacter_0, g_X8_appendCharacter_1, g_X8_appendCharacter_2, g_X8_appendCharacter_4, hw', hl', hru, true_and, and_true, rf_s, not_true_eq_false, not_false_eq_true, true_implies, false_implies, kl_i, kl_n, kl_l, kl_r, Option.toList, List.cons_append, List.nil_append, if_true, if_false, u2s, lt00, lt01, lt02, lt03, le10, le20, le30, ne10, ne20, ne30, eq00]
  refine gs_X8_appendCharacter_6 ?_
  intro H locs ls hW hL
  exact sg_cX (M := MX8_requireRange) (As := [.int v, .int 33, .int 126]) (b := x) C hno hT hL (d := 0) ⟨by show _ ≤ _ + 6; omega, by show _ ≤ 60 * _ + 120; omega, Nat.le_refl _, Nat.le_refl _⟩ dX8_appendCharacter_6 rfl rfl rfl hS (by rw [hS]; decide) (Nat.le_of_ble_eq_true rfl) rfl (t_rR (d := 0) hE hfl hS hv) hW
theorem t_append2 (hE : tx_ok E) (hfl : l.stackTraces = false) (hw : WbS E.2.2.1 E.2.2.2.1 P x πd π πs πh) {v : Int32} (hv : 33 ≤ v ∧ v ≤ 126) (h1 : I (x + 1) 1 = nI 80) : MtX l E 1 MX8_appendCharacter [.ref x, .int v] I J P 2 I J P := by
  have hw' := hw.f
  have hl' := hw.le.f
  have hru := hw.le.r.f
  have hS := hw'.1
  refine MtX.of hE MX8_appendCharacter_ok (Nat.le_of_ble_eq_true rfl) (fun pg e s m args below meth c C hno hT => zt_seg (M := MX8_appendCharacter) C ?_)
  show Gp E.2.2.1 E.2.2.2.1 true MX8_appendCharacter _ 0 [some (.ref x), some (.int v)] [] I J P
  simp only [g_X8_appendCharacter_0, g_X8_appendCharacter_1, g_X8_appendCharacter_2, g_X8_appendCharacter_4, hw', hl', hru, true_and, and_true, rf_s, not_true_eq_false, not_false_eq_true, true_implies, false_implies, kl_i, kl_n, kl_l, kl_r, Option.toList, List.cons_append, List.nil_append, if_true, if_false, u2s, lt00, lt01, lt02, lt03, le10, le20, le30, ne10, ne20, ne30, eq00]
  refine gs_X8_appendCharacter_6 ?_
  intro H locs ls hW hL
  refine sg_cG (M := MX8_requireRange) (As := [.int v, .int 33, .int 126]) (b := x) (pc2 := 9) rfl C hL ⟨by show 1 ≤ _ + 6; omega, by show 40 ≤ _ + 120; omega⟩ ⟨Nat.zero_le _, Nat.zero_le _⟩ dX8_appendCharacter_6 rfl rfl rfl hS (by rw [hS]; decide) (Nat.le_of_ble_eq_true rfl) rfl (ok_rR hv.1 hv.2) hW (zt_seg (M := MX8_appendCharacter) C ?_)
  have hrt := hw.rt.1
  have g1 : ¬ nI 80 < 80 := by decide
  simp only [g_X8_appendCharacter_9, g_X8_appendCharacter_10, g_X8_appendCharacter_13, g_X8_appendCharacter_16, g_X8_appendCharacter_18, hw', hl', hru, hrt, h1, g1, true_and, and_true, rf_s, not_true_eq_false, not_false_eq_true, true_implies, false_implies, kl_i, kl_n, kl_l, kl_r, Option.toList, List.cons_append, List.nil_append, if_true, if_false, u2s, lt00, lt01, lt02, lt03, le10, le20, le30, ne10, ne20, ne30, eq00]
  refine gs_X8_appendCharacter_21 ?_
  intro H locs ls hW hL
  exact sg_newS C hfl hno hT hL thw_2 exi1 (Nat.le_of_ble_eq_true rfl) ⟨by show 6 ≤ _ + 6; omega, by show 100 ≤ _ + 120; omega, Nat.le_refl _, Nat.le_refl _⟩ dX8_appendCharacter_21 dX8_appendCharacter_24 dX8_appendCharacter_25 dX8_appendCharacter_27 dX8_appendCharacter_30 hW
theorem t_allowance1 (hE : tx_ok E) (hfl : l.stackTraces = false) (hw : WbS E.2.2.1 E.2.2.2.1 P x πd π πs πh) {v : Int32} (hv : ¬ (0 ≤ v ∧ v ≤ 4)) : MtX l E 1 MX8_allowance [.ref x, .int v] I J P 1 I J P := by
  have hw' := hw.f
  have hl' := hw.le.f
  have hru := hw.le.r.f
  have hS := hw'.1
  refine MtX.of hE MX8_allowance_ok (Nat.le_of_ble_eq_true rfl) (fun pg e s m args below meth c C hno hT => zt_seg (M := MX8_allowance) C ?_)
  show Gp E.2.2.1 E.2.2.2.1 true MX8_allowance _ 0 [some (.ref x), some (.int v)] [] I J P
  simp only [g_X8_allowance_0, g_X8_allowance_1, g_X8_allowance_2, g_X8_allowance_3, hw', hl', hru, true_and, and_true, rf_s, not_true_eq_false, not_false_eq_true, true_implies, false_implies, kl_i, kl_n, kl_l, kl_r, Option.toList, List.cons_append, List.nil_append, if_true, if_false, u2s, lt00, lt01, lt02, lt03, le10, le20, le30, ne10, ne20, ne30, eq00]
  refine gs_X8_allowance_4 ?_
  intro H locs ls hW hL
  exact sg_cX (M := MX8_requireRange) (As := [.int v, .int 0, .int 4]) (b := x) C hno hT hL (d := 0) ⟨by show _ ≤ _ + 6; omega, by show _ ≤ 60 * _ + 120; omega, Nat.le_refl _, Nat.le_refl _⟩ dX8_allowance_4 rfl rfl rfl hS (by rw [hS]; decide) (Nat.le_of_ble_eq_true rfl) rfl (t_rR (d := 0) hE hfl hS hv) hW
theorem t_bracket1 (hE : tx_ok E) (hfl : l.stackTraces = false) (hw : WbS E.2.2.1 E.2.2.2.1 P x πd π πs πh)  (hg : Gd g nb nc nk) (hr : Led I J (x + 29) π g h nb nc nk) {v v1 : Int32} (hv : v < 0 ∨ nI nb ≤ v) : MtX l E 1 MX8_bracket [.ref x, .int v, .int v1] I J P 0 I J P := by
  have hw' := hw.f
  have hl' := hw.le.f
  have hru := hw.le.r.f
  have hS := hw'.1
  refine MtX.of hE MX8_bracket_ok (Nat.le_of_ble_eq_true rfl) (fun pg e s m args below meth c C hno hT => zt_seg (M := MX8_bracket) C ?_)
  show Gp E.2.2.1 E.2.2.2.1 true MX8_bracket _ 0 [some (.ref x), some (.int v), some (.int v1)] [] I J P
  have hc1 := hr.1.1.1
  simp only [g_X8_bracket_0, g_X8_bracket_1, g_X8_bracket_2, g_X8_bracket_3, g_X8_bracket_6, g_X8_bracket_9, hw', hl', hru, hc1, true_and, and_true, rf_s, not_true_eq_false, not_false_eq_true, true_implies, false_implies, kl_i, kl_n, kl_l, kl_r, Option.toList, List.cons_append, List.nil_append, if_true, if_false, u2s, lt00, lt01, lt02, lt03, le10, le20, le30, ne10, ne20, ne30, eq00]
  refine gs_X8_bracket_12 ?_
  intro H locs ls hW hL
  exact sg_cX (M := MX8_requireIndex) (As := [.int v, .int (nI nb)]) (b := x) C hno hT hL (d := 0) ⟨by show _ ≤ _ + 6; omega, by show _ ≤ 60 * _ + 120; omega, Nat.le_refl _, Nat.le_refl _⟩ dX8_bracket_12 rfl rfl rfl hS (by rw [hS]; decide) (Nat.le_of_ble_eq_true rfl) rfl (t_rI (d := 0) hE hfl hS hv) hW
theorem t_bracket2 (hE : tx_ok E) (hfl : l.stackTraces = false) (hw : WbS E.2.2.1 E.2.2.2.1 P x πd π πs πh)  (hg : Gd g nb nc nk) (hr : Led I J (x + 29) π g h nb nc nk) {k : Nat} (hk : k < nb) {v : Int32} (hv : ¬ (0 ≤ v ∧ v ≤ 1)) : MtX l E 1 MX8_bracket [.ref x, .int (nI k), .int v] I J P 1 I J P := by
  have hw' := hw.f
  have hl' := hw.le.f
  have hru := hw.le.r.f
  have hS := hw'.1
  refine MtX.of hE MX8_bracket_ok (Nat.le_of_ble_eq_true rfl) (fun pg e s m args below meth c C hno hT => zt_seg (M := MX8_bracket) C ?_)
  show Gp E.2.2.1 E.2.2.2.1 true MX8_bracket _ 0 [some (.ref x), some (.int (nI k)), some (.int v)] [] I J P
  have hc1 := hr.1.1.1
  have hb1 : nb < 2 ^ 31 := by have := hg.1; unfold Cnt at this; omega
  simp only [g_X8_bracket_0, g_X8_bracket_1, g_X8_bracket_2, g_X8_bracket_3, g_X8_bracket_6, g_X8_bracket_9, hw', hl', hru, hc1, true_and, and_true, rf_s, not_true_eq_false, not_false_eq_true, true_implies, false_implies, kl_i, kl_n, kl_l, kl_r, Option.toList, List.cons_append, List.nil_append, if_true, if_false, u2s, lt00, lt01, lt02, lt03, le10, le20, le30, ne10, ne20, ne30, eq00]
  refine gs_X8_bracket_12 ?_
  intro H locs ls hW hL
  refine sg_cG (M := MX8_requireIndex) (As := [.int (nI k), .int (nI nb)]) (b := x) (pc2 := 15) rfl C hL ⟨by show 1 ≤ _ + 6; omega, by show 40 ≤ _ + 120; omega⟩ ⟨Nat.zero_le _, Nat.zero_le _⟩ dX8_bracket_12 rfl rfl rfl hS (by rw [hS]; decide) (Nat.le_of_ble_eq_true rfl) rfl (ok_rI hk hb1) hW (zt_seg (M := MX8_bracket) C ?_)
  simp only [g_X8_bracket_15, g_X8_bracket_16, g_X8_bracket_17, g_X8_bracket_18, hw', hl', hru, true_and, and_true, rf_s, not_true_eq_false, not_false_eq_true, true_implies, false_implies, kl_i, kl_n, kl_l, kl_r, Option.toList, List.cons_append, List.nil_append, if_true, if_false, u2s, lt00, lt01, lt02, lt03, le10, le20, le30, ne10, ne20, ne30, eq00]
  refine gs_X8_bracket_19 ?_
  intro H locs ls hW hL
  exact sg_cX (M := MX8_requireRange) (As := [.int v, .int 0, .int 1]) (b := x) C hno hT hL (d := 0) ⟨by show _ ≤ _ + 6; omega, by show _ ≤ 60 * _ + 120; omega, Nat.le_refl _, Nat.le_refl _⟩ dX8_bracket_19 rfl rfl rfl hS (by rw [hS]; decide) (Nat.le_of_ble_eq_true rfl) rfl (t_rR (d := 0) hE hfl hS hv) hW
theorem t_charge1 (hE : tx_ok E) (hfl : l.stackTraces = false) (hw : WbS E.2.2.1 E.2.2.2.1 P x πd π πs πh)  (hg : Gd g nb nc nk) (hr : Led I J (x + 29) π g h nb nc nk) {v v1 : Int32} (hv : v < 0 ∨ nI nc ≤ v) : MtX l E 1 MX8_charge [.ref x, .int v, .int v1] I J P 0 I J P := by
  have hw' := hw.f
  have hl' := hw.le.f
  have hru := hw.le.r.f
  have hS := hw'.1
  refine MtX.of hE MX8_charge_ok (Nat.le_of_ble_eq_true rfl) (fun pg e s m args below meth c C hno hT => zt_seg (M := MX8_charge) C ?_)
  show Gp E.2.2.1 E.2.2.2.1 true MX8_charge _ 0 [some (.ref x), some (.int v), some (.int v1)] [] I J P
  have hc1 := hr.1.1.2.1
  simp only [g_X8_charge_0, g_X8_charge_1, g_X8_charge_2, g_X8_charge_3, g_X8_charge_6, g_X8_charge_9, hw', hl', hru, hc1, true_and, and_true, rf_s, not_true_eq_false, not_false_eq_true, true_implies, false_implies, kl_i, kl_n, kl_l, kl_r, Option.toList, List.cons_append, List.nil_append, if_true, if_false, u2s, lt00, lt01, lt02, lt03, le10, le20, le30, ne10, ne20, ne30, eq00]
  refine gs_X8_charge_12 ?_
  intro H locs ls hW hL
  exact sg_cX (M := MX8_requireIndex) (As := [.int v, .int (nI nc)]) (b := x) C hno hT hL (d := 0) ⟨by show _ ≤ _ + 6; omega, by show _ ≤ 60 * _ + 120; omega, Nat.le_refl _, Nat.le_refl _⟩ dX8_charge_12 rfl rfl rfl hS (by rw [hS]; decide) (Nat.le_of_ble_eq_true rfl) rfl (t_rI (d := 0) hE hfl hS hv) hW
theorem t_charge2 (hE : tx_ok E) (hfl : l.stackTraces = false) (hw : WbS E.2.2.1 E.2.2.2.1 P x πd π πs πh)  (hg : Gd g nb nc nk) (hr : Led I J (x + 29) π g h nb nc nk) {k : Nat} (hk : k < nc) {v : Int32} (hv : ¬ (0 ≤ v ∧ v ≤ 1)) : MtX l E 1 MX8_charge [.ref x, .int (nI k), .int v] I J P 1 I J P := by
  have hw' := hw.f
  have hl' := hw.le.f
  have hru := hw.le.r.f
  have hS := hw'.1
  refine MtX.of hE MX8_charge_ok (Nat.le_of_ble_eq_true rfl) (fun pg e s m args below meth c C hno hT => zt_seg (M := MX8_charge) C ?_)
  show Gp E.2.2.1 E.2.2.2.1 true MX8_charge _ 0 [some (.ref x), some (.int (nI k)), some (.int v)] [] I J P
  have hc1 := hr.1.1.2.1
  have hb1 : nc < 2 ^ 31 := by have := hg.1; unfold Cnt at this; omega
  simp only [g_X8_charge_0, g_X8_charge_1, g_X8_charge_2, g_X8_charge_3, g_X8_charge_6, g_X8_charge_9, hw', hl', hru, hc1, true_and, and_true, rf_s, not_true_eq_false, not_false_eq_true, true_implies, false_implies, kl_i, kl_n, kl_l, kl_r, Option.toList, List.cons_append, List.nil_append, if_true, if_false, u2s, lt00, lt01, lt02, lt03, le10, le20, le30, ne10, ne20, ne30, eq00]
  refine gs_X8_charge_12 ?_
  intro H locs ls hW hL
  refine sg_cG (M := MX8_requireIndex) (As := [.int (nI k), .int (nI nc)]) (b := x) (pc2 := 15) rfl C hL ⟨by show 1 ≤ _ + 6; omega, by show 40 ≤ _ + 120; omega⟩ ⟨Nat.zero_le _, Nat.zero_le _⟩ dX8_charge_12 rfl rfl rfl hS (by rw [hS]; decide) (Nat.le_of_ble_eq_true rfl) rfl (ok_rI hk hb1) hW (zt_seg (M := MX8_charge) C ?_)
  simp only [g_X8_charge_15, g_X8_charge_16, g_X8_charge_17, g_X8_charge_18, hw', hl', hru, true_and, and_true, rf_s, not_true_eq_false, not_false_eq_true, true_implies, false_implies, kl_i, kl_n, kl_l, kl_r, Option.toList, List.cons_append, List.nil_append, if_true, if_false, u2s, lt00, lt01, lt02, lt03, le10, le20, le30, ne10, ne20, ne30, eq00]
  refine gs_X8_charge_19 ?_
  intro H locs ls hW hL
  exact sg_cX (M := MX8_requireRange) (As := [.int v, .int 0, .int 1]) (b := x) C hno hT hL (d := 0) ⟨by show _ ≤ _ + 6; omega, by show _ ≤ 60 * _ + 120; omega, Nat.le_refl _, Nat.le_refl _⟩ dX8_charge_19 rfl rfl rfl hS (by rw [hS]; decide) (Nat.le_of_ble_eq_true rfl) rfl (t_rR (d := 0) hE hfl hS hv) hW
theorem t_credit1 (hE : tx_ok E) (hfl : l.stackTraces = false) (hw : WbS E.2.2.1 E.2.2.2.1 P x πd π πs πh)  (hg : Gd g nb nc nk) (hr : Led I J (x + 29) π g h nb nc nk) {v v1 : Int32} (hv : v < 0 ∨ nI nk ≤ v) : MtX l E 1 MX8_credit [.ref x, .int v, .int v1] I J P 0 I J P := by
  have hw' := hw.f
  have hl' := hw.le.f
  have hru := hw.le.r.f
  have hS := hw'.1
  refine MtX.of hE MX8_credit_ok (Nat.le_of_ble_eq_true rfl) (fun pg e s m args below meth c C hno hT => zt_seg (M := MX8_credit) C ?_)
  show Gp E.2.2.1 E.2.2.2.1 true MX8_credit _ 0 [some (.ref x), some (.int v), some (.int v1)] [] I J P
  have hc1 := hr.1.1.2.2
  simp only [g_X8_credit_0, g_X8_credit_1, g_X8_credit_2, g_X8_credit_3, g_X8_credit_6, g_X8_credit_9, hw', hl', hru, hc1, true_and, and_true, rf_s, not_true_eq_false, not_false_eq_true, true_implies, false_implies, kl_i, kl_n, kl_l, kl_r, Option.toList, List.cons_append, List.nil_append, if_true, if_false, u2s, lt00, lt01, lt02, lt03, le10, le20, le30, ne10, ne20, ne30, eq00]
  refine gs_X8_credit_12 ?_
  intro H locs ls hW hL
  exact sg_cX (M := MX8_requireIndex) (As := [.int v, .int (nI nk)]) (b := x) C hno hT hL (d := 0) ⟨by show _ ≤ _ + 6; omega, by show _ ≤ 60 * _ + 120; omega, Nat.le_refl _, Nat.le_refl _⟩ dX8_credit_12 rfl rfl rfl hS (by rw [hS]; decide) (Nat.le_of_ble_eq_true rfl) rfl (t_rI (d := 0) hE hfl hS hv) hW
theorem t_credit2 (hE : tx_ok E) (hfl : l.stackTraces = false) (hw : WbS E.2.2.1 E.2.2.2.1 P x πd π πs πh)  (hg : Gd g nb nc nk) (hr : Led I J (x + 29) π g h nb nc nk) {k : Nat} (hk : k < nk) {v : Int32} (hv : ¬ (0 ≤ v ∧ v ≤ 5)) : MtX l E 1 MX8_credit [.ref x, .int (nI k), .int v] I J P 1 I J P := by
  have hw' := hw.f
  have hl' := hw.le.f
  have hru := hw.le.r.f
  have hS := hw'.1
  refine MtX.of hE MX8_credit_ok (Nat.le_of_ble_eq_true rfl) (fun pg e s m args below meth c C hno hT => zt_seg (M := MX8_credit) C ?_)
  show Gp E.2.2.1 E.2.2.2.1 true MX8_credit _ 0 [some (.ref x), some (.int (nI k)), some (.int v)] [] I J P
  have hc1 := hr.1.1.2.2
  have hb1 : nk < 2 ^ 31 := by have := hg.1; unfold Cnt at this; omega
  simp only [g_X8_credit_0, g_X8_credit_1, g_X8_credit_2, g_X8_credit_3, g_X8_credit_6, g_X8_credit_9, hw', hl', hru, hc1, true_and, and_true, rf_s, not_true_eq_false, not_false_eq_true, true_implies, false_implies, kl_i, kl_n, kl_l, kl_r, Option.toList, List.cons_append, List.nil_append, if_true, if_false, u2s, lt00, lt01, lt02, lt03, le10, le20, le30, ne10, ne20, ne30, eq00]
  refine gs_X8_credit_12 ?_
  intro H locs ls hW hL
  refine sg_cG (M := MX8_requireIndex) (As := [.int (nI k), .int (nI nk)]) (b := x) (pc2 := 15) rfl C hL ⟨by show 1 ≤ _ + 6; omega, by show 40 ≤ _ + 120; omega⟩ ⟨Nat.zero_le _, Nat.zero_le _⟩ dX8_credit_12 rfl rfl rfl hS (by rw [hS]; decide) (Nat.le_of_ble_eq_true rfl) rfl (ok_rI hk hb1) hW (zt_seg (M := MX8_credit) C ?_)
  simp only [g_X8_credit_15, g_X8_credit_16, g_X8_credit_17, g_X8_credit_18, hw', hl', hru, true_and, and_true, rf_s, not_true_eq_false, not_false_eq_true, true_implies, false_implies, kl_i, kl_n, kl_l, kl_r, Option.toList, List.cons_append, List.nil_append, if_true, if_false, u2s, lt00, lt01, lt02, lt03, le10, le20, le30, ne10, ne20, ne30, eq00]
  refine gs_X8_credit_19 ?_
  intro H locs ls hW hL
  exact sg_cX (M := MX8_requireRange) (As := [.int v, .int 0, .int 5]) (b := x) C hno hT hL (d := 0) ⟨by show _ ≤ _ + 6; omega, by show _ ≤ 60 * _ + 120; omega, Nat.le_refl _, Nat.le_refl _⟩ dX8_credit_19 rfl rfl rfl hS (by rw [hS]; decide) (Nat.le_of_ble_eq_true rfl) rfl (t_rR (d := 0) hE hfl hS hv) hW
theorem t_removeCredit1 (hE : tx_ok E) (hfl : l.stackTraces = false) (hw : WbS E.2.2.1 E.2.2.2.1 P x πd π πs πh)  (hg : Gd g nb nc nk) (hr : Led I J (x + 29) π g h nb nc nk) {v : Int32} (hv : v < 0 ∨ nI nk ≤ v) : MtX l E 1 MX8_removeCredit [.ref x, .int v] I J P 0 I J P := by
  have hw' := hw.f
  have hl' := hw.le.f
  have hru := hw.le.r.f
  have hS := hw'.1
  refine MtX.of hE MX8_removeCredit_ok (Nat.le_of_ble_eq_true rfl) (fun pg e s m args below meth c C hno hT => zt_seg (M := MX8_removeCredit) C ?_)
  show Gp E.2.2.1 E.2.2.2.1 true MX8_removeCredit _ 0 [some (.ref x), some (.int v)] [] I J P
  have hc1 := hr.1.1.2.2
  simp only [g_X8_removeCredit_0, g_X8_removeCredit_1, g_X8_removeCredit_2, g_X8_removeCredit_3, g_X8_removeCredit_6, g_X8_removeCredit_9, hw', hl', hru, hc1, true_and, and_true, rf_s, not_true_eq_false, not_false_eq_true, true_implies, false_implies, kl_i, kl_n, kl_l, kl_r, Option.toList, List.cons_append, List.nil_append, if_true, if_false, u2s, lt00, lt01, lt02, lt03, le10, le20, le30, ne10, ne20, ne30, eq00]
  refine gs_X8_removeCredit_12 ?_
  intro H locs ls hW hL
  exact sg_cX (M := MX8_requireIndex) (As := [.int v, .int (nI nk)]) (b := x) C hno hT hL (d := 0) ⟨by show _ ≤ _ + 6; omega, by show _ ≤ 60 * _ + 120; omega, Nat.le_refl _, Nat.le_refl _⟩ dX8_removeCredit_12 rfl rfl rfl hS (by rw [hS]; decide) (Nat.le_of_ble_eq_true rfl) rfl (t_rI (d := 0) hE hfl hS hv) hW
theorem t_moveCredit1 (hE : tx_ok E) (hfl : l.stackTraces = false) (hw : WbS E.2.2.1 E.2.2.2.1 P x πd π πs πh)  (hg : Gd g nb nc nk) (hr : Led I J (x + 29) π g h nb nc nk) {v v1 : Int32} (hv : v < 0 ∨ nI nk ≤ v) : MtX l E 1 MX8_moveCredit [.ref x, .int v, .int v1] I J P 0 I J P := by
  have hw' := hw.f
  have hl' := hw.le.f
  have hru := hw.le.r.f
  have hS := hw'.1
  refine MtX.of hE MX8_moveCredit_ok (Nat.le_of_ble_eq_true rfl) (fun pg e s m args below meth c C hno hT => zt_seg (M := MX8_moveCredit) C ?_)
  show Gp E.2.2.1 E.2.2.2.1 true MX8_moveCredit _ 0 [some (.ref x), some (.int v), some (.int v1)] [] I J P
  have hc1 := hr.1.1.2.2
  simp only [g_X8_moveCredit_0, g_X8_moveCredit_1, g_X8_moveCredit_2, g_X8_moveCredit_3, g_X8_moveCredit_6, g_X8_moveCredit_9, hw', hl', hru, hc1, true_and, and_true, rf_s, not_true_eq_false, not_false_eq_true, true_implies, false_implies, kl_i, kl_n, kl_l, kl_r, Option.toList, List.cons_append, List.nil_append, if_true, if_false, u2s, lt00, lt01, lt02, lt03, le10, le20, le30, ne10, ne20, ne30, eq00]
  refine gs_X8_moveCredit_12 ?_
  intro H locs ls hW hL
  exact sg_cX (M := MX8_requireIndex) (As := [.int v, .int (nI nk)]) (b := x) C hno hT hL (d := 0) ⟨by show _ ≤ _ + 6; omega, by show _ ≤ 60 * _ + 120; omega, Nat.le_refl _, Nat.le_refl _⟩ dX8_moveCredit_12 rfl rfl rfl hS (by rw [hS]; decide) (Nat.le_of_ble_eq_true rfl) rfl (t_rI (d := 0) hE hfl hS hv) hW
theorem t_moveCredit2 (hE : tx_ok E) (hfl : l.stackTraces = false) (hw : WbS E.2.2.1 E.2.2.2.1 P x πd π πs πh)  (hg : Gd g nb nc nk) (hr : Led I J (x + 29) π g h nb nc nk) {k : Nat} (hk : k < nk) {v : Int32} (hv : v < 0 ∨ nI nk ≤ v) : MtX l E 1 MX8_moveCredit [.ref x, .int (nI k), .int v] I J P 0 I J P := by
  have hw' := hw.f
  have hl' := hw.le.f
  have hru := hw.le.r.f
  have hS := hw'.1
  refine MtX.of hE MX8_moveCredit_ok (Nat.le_of_ble_eq_true rfl) (fun pg e s m args below meth c C hno hT => zt_seg (M := MX8_moveCredit) C ?_)
  show Gp E.2.2.1 E.2.2.2.1 true MX8_moveCredit _ 0 [some (.ref x), some (.int (nI k)), some (.int v)] [] I J P
  have hc1 := hr.1.1.2.2
  have hb1 : nk < 2 ^ 31 := by have := hg.1; unfold Cnt at this; omega
  simp only [g_X8_moveCredit_0, g_X8_moveCredit_1, g_X8_moveCredit_2, g_X8_moveCredit_3, g_X8_moveCredit_6, g_X8_moveCredit_9, hw', hl', hru, hc1, true_and, and_true, rf_s, not_true_eq_false, not_false_eq_true, true_implies, false_implies, kl_i, kl_n, kl_l, kl_r, Option.toList, List.cons_append, List.nil_append, if_true, if_false, u2s, lt00, lt01, lt02, lt03, le10, le20, le30, ne10, ne20, ne30, eq00]
  refine gs_X8_moveCredit_12 ?_
  intro H locs ls hW hL
  refine sg_cG (M := MX8_requireIndex) (As := [.int (nI k), .int (nI nk)]) (b := x) (pc2 := 15) rfl C hL ⟨by show 1 ≤ _ + 6; omega, by show 40 ≤ _ + 120; omega⟩ ⟨Nat.zero_le _, Nat.zero_le _⟩ dX8_moveCredit_12 rfl rfl rfl hS (by rw [hS]; decide) (Nat.le_of_ble_eq_true rfl) rfl (ok_rI hk hb1) hW (zt_seg (M := MX8_moveCredit) C ?_)
  simp only [g_X8_moveCredit_15, g_X8_moveCredit_16, g_X8_moveCredit_17, g_X8_moveCredit_18, g_X8_moveCredit_21, g_X8_moveCredit_24, hw', hl', hru, hc1, true_and, and_true, rf_s, not_true_eq_false, not_false_eq_true, true_implies, false_implies, kl_i, kl_n, kl_l, kl_r, Option.toList, List.cons_append, List.nil_append, if_true, if_false, u2s, lt00, lt01, lt02, lt03, le10, le20, le30, ne10, ne20, ne30, eq00]
  refine gs_X8_moveCredit_27 ?_
  intro H locs ls hW hL
  exact sg_cX (M := MX8_requireIndex) (As := [.int v, .int (nI nk)]) (b := x) C hno hT hL (d := 0) ⟨by show _ ≤ _ + 6; omega, by show _ ≤ 60 * _ + 120; omega, Nat.le_refl _, Nat.le_refl _⟩ dX8_moveCredit_27 rfl rfl rfl hS (by rw [hS]; decide) (Nat.le_of_ble_eq_true rfl) rfl (t_rI (d := 0) hE hfl hS hv) hW
theorem t_creditPart2 (hE : tx_ok E) (hfl : l.stackTraces = false) (hw : WbS E.2.2.1 E.2.2.2.1 P x πd π πs πh)  (hg : Gd g nb nc nk) (hr : Led I J (x + 29) π g h nb nc nk) {p : Nat} (hp : p < 6) {v v1 : Int32} (hv : v < 0 ∨ nI nk ≤ v) : MtX l E 1 MX8_creditPart [.ref x, .int (nI p), .int v, .int v1] I J P 0 I J P := by
  have hw' := hw.f
  have hl' := hw.le.f
  have hru := hw.le.r.f
  have hS := hw'.1
  refine MtX.of hE MX8_creditPart_ok (Nat.le_of_ble_eq_true rfl) (fun pg e s m args below meth c C hno hT => zt_seg (M := MX8_creditPart) C ?_)
  show Gp E.2.2.1 E.2.2.2.1 true MX8_creditPart _ 0 [some (.ref x), some (.int (nI p)), some (.int v), some (.int v1)] [] I J P
  have hc1 := hr.1.1.2.2
  simp only [g_X8_creditPart_0, g_X8_creditPart_1, g_X8_creditPart_2, hw', hl', hru, true_and, and_true, rf_s, not_true_eq_false, not_false_eq_true, true_implies, false_implies, kl_i, kl_n, kl_l, kl_r, Option.toList, List.cons_append, List.nil_append, if_true, if_false, u2s, lt00, lt01, lt02, lt03, le10, le20, le30, ne10, ne20, ne30, eq00]
  refine gs_X8_creditPart_4 ?_
  intro H locs ls hW hL
  refine sg_cG (M := MX8_requireIndex) (As := [.int (nI p), .int 6]) (b := x) (pc2 := 7) rfl C hL ⟨by show 1 ≤ _ + 6; omega, by show 40 ≤ _ + 120; omega⟩ ⟨Nat.zero_le _, Nat.zero_le _⟩ dX8_creditPart_4 rfl rfl rfl hS (by rw [hS]; decide) (Nat.le_of_ble_eq_true rfl) rfl (ok_rI6 hp) hW (zt_seg (M := MX8_creditPart) C ?_)
  simp only [g_X8_creditPart_7, g_X8_creditPart_8, g_X8_creditPart_9, g_X8_creditPart_10, g_X8_creditPart_13, g_X8_creditPart_16, hw', hl', hru, hc1, true_and, and_true, rf_s, not_true_eq_false, not_false_eq_true, true_implies, false_implies, kl_i, kl_n, kl_l, kl_r, Option.toList, List.cons_append, List.nil_append, if_true, if_false, u2s, lt00, lt01, lt02, lt03, le10, le20, le30, ne10, ne20, ne30, eq00]
  refine gs_X8_creditPart_19 ?_
  intro H locs ls hW hL
  exact sg_cX (M := MX8_requireIndex) (As := [.int v, .int (nI nk)]) (b := x) C hno hT hL (d := 0) ⟨by show _ ≤ _ + 6; omega, by show _ ≤ 60 * _ + 120; omega, Nat.le_refl _, Nat.le_refl _⟩ dX8_creditPart_19 rfl rfl rfl hS (by rw [hS]; decide) (Nat.le_of_ble_eq_true rfl) rfl (t_rI (d := 0) hE hfl hS hv) hW
theorem t_creditPart3 (hE : tx_ok E) (hfl : l.stackTraces = false) (hw : WbS E.2.2.1 E.2.2.2.1 P x πd π πs πh)  (hg : Gd g nb nc nk) (hr : Led I J (x + 29) π g h nb nc nk) {p k : Nat} (hp : p < 6) (hk : k < nk) {v : Int32} (hv : ¬ (0 ≤ v ∧ v ≤ 4)) : MtX l E 1 MX8_creditPart [.ref x, .int (nI p), .int (nI k), .int v] I J P 1 I J P := by
  have hw' := hw.f
  have hl' := hw.le.f
  have hru := hw.le.r.f
  have hS := hw'.1
  refine MtX.of hE MX8_creditPart_ok (Nat.le_of_ble_eq_true rfl) (fun pg e s m args below meth c C hno hT => zt_seg (M := MX8_creditPart) C ?_)
  show Gp E.2.2.1 E.2.2.2.1 true MX8_creditPart _ 0 [some (.ref x), some (.int (nI p)), some (.int (nI k)), some (.int v)] [] I J P
  have hc1 := hr.1.1.2.2
  have hb1 : nk < 2 ^ 31 := by have := hg.1; unfold Cnt at this; omega
  simp only [g_X8_creditPart_0, g_X8_creditPart_1, g_X8_creditPart_2, hw', hl', hru, true_and, and_true, rf_s, not_true_eq_false, not_false_eq_true, true_implies, false_implies, kl_i, kl_n, kl_l, kl_r, Option.toList, List.cons_append, List.nil_append, if_true, if_false, u2s, lt00, lt01, lt02, lt03, le10, le20, le30, ne10, ne20, ne30, eq00]
  refine gs_X8_creditPart_4 ?_
  intro H locs ls hW hL
  refine sg_cG (M := MX8_requireIndex) (As := [.int (nI p), .int 6]) (b := x) (pc2 := 7) rfl C hL ⟨by show 1 ≤ _ + 6; omega, by show 40 ≤ _ + 120; omega⟩ ⟨Nat.zero_le _, Nat.zero_le _⟩ dX8_creditPart_4 rfl rfl rfl hS (by rw [hS]; decide) (Nat.le_of_ble_eq_true rfl) rfl (ok_rI6 hp) hW (zt_seg (M := MX8_creditPart) C ?_)
  simp only [g_X8_creditPart_7, g_X8_creditPart_8, g_X8_creditPart_9, g_X8_creditPart_10, g_X8_creditPart_13, g_X8_creditPart_16, hw', hl', hru, hc1, true_and, and_true, rf_s, not_true_eq_false, not_false_eq_true, true_implies, false_implies, kl_i, kl_n, kl_l, kl_r, Option.toList, List.cons_append, List.nil_append, if_true, if_false, u2s, lt00, lt01, lt02, lt03, le10, le20, le30, ne10, ne20, ne30, eq00]
  refine gs_X8_creditPart_19 ?_
  intro H locs ls hW hL
  refine sg_cG (M := MX8_requireIndex) (As := [.int (nI k), .int (nI nk)]) (b := x) (pc2 := 22) rfl C hL ⟨by show 1 ≤ _ + 6; omega, by show 40 ≤ _ + 120; omega⟩ ⟨Nat.zero_le _, Nat.zero_le _⟩ dX8_creditPart_19 rfl rfl rfl hS (by rw [hS]; decide) (Nat.le_of_ble_eq_true rfl) rfl (ok_rI hk hb1) hW (zt_seg (M := MX8_creditPart) C ?_)
  simp only [g_X8_creditPart_22, g_X8_creditPart_23, g_X8_creditPart_24, g_X8_creditPart_25, hw', hl', hru, true_and, and_true, rf_s, not_true_eq_false, not_false_eq_true, true_implies, false_implies, kl_i, kl_n, kl_l, kl_r, Option.toList, List.cons_append, List.nil_append, if_true, if_false, u2s, lt00, lt01, lt02, lt03, le10, le20, le30, ne10, ne20, ne30, eq00]
  refine gs_X8_creditPart_26 ?_
  intro H locs ls hW hL
  exact sg_cX (M := MX8_requireRange) (As := [.int v, .int 0, .int 4]) (b := x) C hno hT hL (d := 0) ⟨by show _ ≤ _ + 6; omega, by show _ ≤ 60 * _ + 120; omega, Nat.le_refl _, Nat.le_refl _⟩ dX8_creditPart_26 rfl rfl rfl hS (by rw [hS]; decide) (Nat.le_of_ble_eq_true rfl) rfl (t_rR (d := 0) hE hfl hS hv) hW
theorem t_carried2 (hE : tx_ok E) (hfl : l.stackTraces = false) (hw : WbS E.2.2.1 E.2.2.2.1 P x πd π πs πh)  (hg : Gd g nb nc nk) (hr : Led I J (x + 29) π g h nb nc nk) {p : Nat} (hp : p < 6) {v : Int32} (hv : v < 0 ∨ nI nk ≤ v) : MtX l E 1 MX8_carried [.ref x, .int (nI p), .int v] I J P 0 I J P := by
  have hw' := hw.f
  have hl' := hw.le.f
  have hru := hw.le.r.f
  have hS := hw'.1
  refine MtX.of hE MX8_carried_ok (Nat.le_of_ble_eq_true rfl) (fun pg e s m args below meth c C hno hT => zt_seg (M := MX8_carried) C ?_)
  show Gp E.2.2.1 E.2.2.2.1 true MX8_carried _ 0 [some (.ref x), some (.int (nI p)), some (.int v)] [] I J P
  have hc1 := hr.1.1.2.2
  simp only [g_X8_carried_0, g_X8_carried_1, g_X8_carried_2, hw', hl', hru, true_and, and_true, rf_s, not_true_eq_false, not_false_eq_true, true_implies, false_implies, kl_i, kl_n, kl_l, kl_r, Option.toList, List.cons_append, List.nil_append, if_true, if_false, u2s, lt00, lt01, lt02, lt03, le10, le20, le30, ne10, ne20, ne30, eq00]
  refine gs_X8_carried_4 ?_
  intro H locs ls hW hL
  refine sg_cG (M := MX8_requireIndex) (As := [.int (nI p), .int 6]) (b := x) (pc2 := 7) rfl C hL ⟨by show 1 ≤ _ + 6; omega, by show 40 ≤ _ + 120; omega⟩ ⟨Nat.zero_le _, Nat.zero_le _⟩ dX8_carried_4 rfl rfl rfl hS (by rw [hS]; decide) (Nat.le_of_ble_eq_true rfl) rfl (ok_rI6 hp) hW (zt_seg (M := MX8_carried) C ?_)
  simp only [g_X8_carried_7, g_X8_carried_8, g_X8_carried_9, g_X8_carried_10, g_X8_carried_13, g_X8_carried_16, hw', hl', hru, hc1, true_and, and_true, rf_s, not_true_eq_false, not_false_eq_true, true_implies, false_implies, kl_i, kl_n, kl_l, kl_r, Option.toList, List.cons_append, List.nil_append, if_true, if_false, u2s, lt00, lt01, lt02, lt03, le10, le20, le30, ne10, ne20, ne30, eq00]
  refine gs_X8_carried_19 ?_
  intro H locs ls hW hL
  exact sg_cX (M := MX8_requireIndex) (As := [.int v, .int (nI nk)]) (b := x) C hno hT hL (d := 0) ⟨by show _ ≤ _ + 6; omega, by show _ ≤ 60 * _ + 120; omega, Nat.le_refl _, Nat.le_refl _⟩ dX8_carried_19 rfl rfl rfl hS (by rw [hS]; decide) (Nat.le_of_ble_eq_true rfl) rfl (t_rI (d := 0) hE hfl hS hv) hW
theorem t_marry2 (hE : tx_ok E) (hfl : l.stackTraces = false) (hw : WbS E.2.2.1 E.2.2.2.1 P x πd π πs πh) {p : Nat} (hp : p < 6) {v : Int32} (hv : v < 0 ∨ nI 6 ≤ v) : MtX l E 1 MX8_marry [.ref x, .int (nI p), .int v] I J P 0 I J P := by
  have hw' := hw.f
  have hl' := hw.le.f
  have hru := hw.le.r.f
  have hS := hw'.1
  refine MtX.of hE MX8_marry_ok (Nat.le_of_ble_eq_true rfl) (fun pg e s m args below meth c C hno hT => zt_seg (M := MX8_marry) C ?_)
  show Gp E.2.2.1 E.2.2.2.1 true MX8_marry _ 0 [some (.ref x), some (.int (nI p)), some (.int v)] [] I J P
  simp only [g_X8_marry_0, g_X8_marry_1, g_X8_marry_2, hw', hl', hru, true_and, and_true, rf_s, not_true_eq_false, not_false_eq_true, true_implies, false_implies, kl_i, kl_n, kl_l, kl_r, Option.toList, List.cons_append, List.nil_append, if_true, if_false, u2s, lt00, lt01, lt02, lt03, le10, le20, le30, ne10, ne20, ne30, eq00]
  refine gs_X8_marry_4 ?_
  intro H locs ls hW hL
  refine sg_cG (M := MX8_requireIndex) (As := [.int (nI p), .int 6]) (b := x) (pc2 := 7) rfl C hL ⟨by show 1 ≤ _ + 6; omega, by show 40 ≤ _ + 120; omega⟩ ⟨Nat.zero_le _, Nat.zero_le _⟩ dX8_marry_4 rfl rfl rfl hS (by rw [hS]; decide) (Nat.le_of_ble_eq_true rfl) rfl (ok_rI6 hp) hW (zt_seg (M := MX8_marry) C ?_)
  simp only [g_X8_marry_7, g_X8_marry_8, g_X8_marry_9, hw', hl', hru, true_and, and_true, rf_s, not_true_eq_false, not_false_eq_true, true_implies, false_implies, kl_i, kl_n, kl_l, kl_r, Option.toList, List.cons_append, List.nil_append, if_true, if_false, u2s, lt00, lt01, lt02, lt03, le10, le20, le30, ne10, ne20, ne30, eq00]
  refine gs_X8_marry_11 ?_
  intro H locs ls hW hL
  exact sg_cX (M := MX8_requireIndex) (As := [.int v, .int 6]) (b := x) C hno hT hL (d := 0) ⟨by show _ ≤ _ + 6; omega, by show _ ≤ 60 * _ + 120; omega, Nat.le_refl _, Nat.le_refl _⟩ dX8_marry_11 rfl rfl rfl hS (by rw [hS]; decide) (Nat.le_of_ble_eq_true rfl) rfl (t_rI (d := 0) hE hfl hS hv) hW
theorem t_marry3 (hE : tx_ok E) (hfl : l.stackTraces = false) (hw : WbS E.2.2.1 E.2.2.2.1 P x πd π πs πh) {p : Nat} (hp : p < 6) : MtX l E 1 MX8_marry [.ref x, .int (nI p), .int (nI p)] I J P 1 I J P := by
  have hw' := hw.f
  have hl' := hw.le.f
  have hru := hw.le.r.f
  have hS := hw'.1
  refine MtX.of hE MX8_marry_ok (Nat.le_of_ble_eq_true rfl) (fun pg e s m args below meth c C hno hT => zt_seg (M := MX8_marry) C ?_)
  show Gp E.2.2.1 E.2.2.2.1 true MX8_marry _ 0 [some (.ref x), some (.int (nI p)), some (.int (nI p))] [] I J P
  simp only [g_X8_marry_0, g_X8_marry_1, g_X8_marry_2, hw', hl', hru, true_and, and_true, rf_s, not_true_eq_false, not_false_eq_true, true_implies, false_implies, kl_i, kl_n, kl_l, kl_r, Option.toList, List.cons_append, List.nil_append, if_true, if_false, u2s, lt00, lt01, lt02, lt03, le10, le20, le30, ne10, ne20, ne30, eq00]
  refine gs_X8_marry_4 ?_
  intro H locs ls hW hL
  refine sg_cG (M := MX8_requireIndex) (As := [.int (nI p), .int 6]) (b := x) (pc2 := 7) rfl C hL ⟨by show 1 ≤ _ + 6; omega, by show 40 ≤ _ + 120; omega⟩ ⟨Nat.zero_le _, Nat.zero_le _⟩ dX8_marry_4 rfl rfl rfl hS (by rw [hS]; decide) (Nat.le_of_ble_eq_true rfl) rfl (ok_rI6 hp) hW (zt_seg (M := MX8_marry) C ?_)
  simp only [g_X8_marry_7, g_X8_marry_8, g_X8_marry_9, hw', hl', hru, true_and, and_true, rf_s, not_true_eq_false, not_false_eq_true, true_implies, false_implies, kl_i, kl_n, kl_l, kl_r, Option.toList, List.cons_append, List.nil_append, if_true, if_false, u2s, lt00, lt01, lt02, lt03, le10, le20, le30, ne10, ne20, ne30, eq00]
  refine gs_X8_marry_11 ?_
  intro H locs ls hW hL
  refine sg_cG (M := MX8_requireIndex) (As := [.int (nI p), .int 6]) (b := x) (pc2 := 14) rfl C hL ⟨by show 1 ≤ _ + 6; omega, by show 40 ≤ _ + 120; omega⟩ ⟨Nat.zero_le _, Nat.zero_le _⟩ dX8_marry_11 rfl rfl rfl hS (by rw [hS]; decide) (Nat.le_of_ble_eq_true rfl) rfl (ok_rI6 hp) hW (zt_seg (M := MX8_marry) C ?_)
  have ee : (nI p = nI p) = True := eq_self _
  simp only [g_X8_marry_14, g_X8_marry_15, g_X8_marry_16, hw', hl', hru, ee, true_and, and_true, rf_s, not_true_eq_false, not_false_eq_true, true_implies, false_implies, kl_i, kl_n, kl_l, kl_r, Option.toList, List.cons_append, List.nil_append, if_true, if_false, u2s, lt00, lt01, lt02, lt03, le10, le20, le30, ne10, ne20, ne30, eq00]
  refine gs_X8_marry_19 ?_
  intro H locs ls hW hL
  exact sg_newS C hfl hno hT hL thw_1 exi5 (Nat.le_of_ble_eq_true rfl) ⟨by show 6 ≤ _ + 6; omega, by show 100 ≤ _ + 120; omega, Nat.le_refl _, Nat.le_refl _⟩ dX8_marry_19 dX8_marry_22 dX8_marry_23 dX8_marry_25 dX8_marry_28 hW
theorem t_marry4 (hE : tx_ok E) (hfl : l.stackTraces = false) (hw : WbS E.2.2.1 E.2.2.2.1 P x πd π πs πh) (hr : Led I J (x + 29) π g h nb nc nk) {p q : Nat} (hp : p < 6) (hq : q < 6) (hne : p ≠ q) (ht : ¬ (g (82 + p) = -1 ∧ g (82 + q) = -1)) : MtX l E 1 MX8_marry [.ref x, .int (nI p), .int (nI q)] I J P 2 I J P := by
  have hw' := hw.f
  have hl' := hw.le.f
  have hru := hw.le.r.f
  have hS := hw'.1
  refine MtX.of hE MX8_marry_ok (Nat.le_of_ble_eq_true rfl) (fun pg e s m args below meth c C hno hT => zt_seg (M := MX8_marry) C ?_)
  show Gp E.2.2.1 E.2.2.2.1 true MX8_marry _ 0 [some (.ref x), some (.int (nI p)), some (.int (nI q))] [] I J P
  simp only [g_X8_marry_0, g_X8_marry_1, g_X8_marry_2, hw', hl', hru, true_and, and_true, rf_s, not_true_eq_false, not_false_eq_true, true_implies, false_implies, kl_i, kl_n, kl_l, kl_r, Option.toList, List.cons_append, List.nil_append, if_true, if_false, u2s, lt00, lt01, lt02, lt03, le10, le20, le30, ne10, ne20, ne30, eq00]
  refine gs_X8_marry_4 ?_
  intro H locs ls hW hL
  refine sg_cG (M := MX8_requireIndex) (As := [.int (nI p), .int 6]) (b := x) (pc2 := 7) rfl C hL ⟨by show 1 ≤ _ + 6; omega, by show 40 ≤ _ + 120; omega⟩ ⟨Nat.zero_le _, Nat.zero_le _⟩ dX8_marry_4 rfl rfl rfl hS (by rw [hS]; decide) (Nat.le_of_ble_eq_true rfl) rfl (ok_rI6 hp) hW (zt_seg (M := MX8_marry) C ?_)
  simp only [g_X8_marry_7, g_X8_marry_8, g_X8_marry_9, hw', hl', hru, true_and, and_true, rf_s, not_true_eq_false, not_false_eq_true, true_implies, false_implies, kl_i, kl_n, kl_l, kl_r, Option.toList, List.cons_append, List.nil_append, if_true, if_false, u2s, lt00, lt01, lt02, lt03, le10, le20, le30, ne10, ne20, ne30, eq00]
  refine gs_X8_marry_11 ?_
  intro H locs ls hW hL
  refine sg_cG (M := MX8_requireIndex) (As := [.int (nI q), .int 6]) (b := x) (pc2 := 14) rfl C hL ⟨by show 1 ≤ _ + 6; omega, by show 40 ≤ _ + 120; omega⟩ ⟨Nat.zero_le _, Nat.zero_le _⟩ dX8_marry_11 rfl rfl rfl hS (by rw [hS]; decide) (Nat.le_of_ble_eq_true rfl) rfl (ok_rI6 hq) hW (zt_seg (M := MX8_marry) C ?_)
  have ee : ¬ nI p = nI q := fun z => hne ((nI_eq (by omega) (by omega)).mp z)
  have b1 := led_partner hr hp
  have b2 := led_partner hr hq
  by_cases h1 : g (82 + p) = -1
  · have h2 : ¬ g (82 + q) = -1 := fun z => ht ⟨h1, z⟩
    simp only [g_X8_marry_14, g_X8_marry_15, g_X8_marry_16, g_X8_marry_29, g_X8_marry_30, g_X8_marry_33, g_X8_marry_36, g_X8_marry_37, g_X8_marry_38, g_X8_marry_39, g_X8_marry_42, g_X8_marry_43, g_X8_marry_46, g_X8_marry_49, g_X8_marry_50, g_X8_marry_51, g_X8_marry_52, hw', hl', ee, b1, b2, h1, h2, nI_clamp (show p < 2 ^ 31 by omega), vpn hp (by decide), nI_clamp (show q < 2 ^ 31 by omega), vpn hq (by decide), true_and, and_true, rf_s, not_true_eq_false, not_false_eq_true, true_implies, false_implies, kl_i, kl_n, kl_l, kl_r, Option.toList, List.cons_append, List.nil_append, if_true, if_false, u2s, lt00, lt01, lt02, lt03, le10, le20, le30, ne10, ne20, ne30, eq00]
    refine gs_X8_marry_55 ?_
    intro H locs ls hW hL
    exact sg_newS C hfl hno hT hL thw_2 exi6 (Nat.le_of_ble_eq_true rfl) ⟨by show 6 ≤ _ + 6; omega, by show 100 ≤ _ + 120; omega, Nat.le_refl _, Nat.le_refl _⟩ dX8_marry_55 dX8_marry_58 dX8_marry_59 dX8_marry_61 dX8_marry_64 hW
  · simp only [g_X8_marry_14, g_X8_marry_15, g_X8_marry_16, g_X8_marry_29, g_X8_marry_30, g_X8_marry_33, g_X8_marry_36, g_X8_marry_37, g_X8_marry_38, g_X8_marry_39, g_X8_marry_42, g_X8_marry_43, g_X8_marry_46, g_X8_marry_49, g_X8_marry_50, g_X8_marry_51, g_X8_marry_52, hw', hl', ee, b1, h1, nI_clamp (show p < 2 ^ 31 by omega), vpn hp (by decide), true_and, and_true, rf_s, not_true_eq_false, not_false_eq_true, true_implies, false_implies, kl_i, kl_n, kl_l, kl_r, Option.toList, List.cons_append, List.nil_append, if_true, if_false, u2s, lt00, lt01, lt02, lt03, le10, le20, le30, ne10, ne20, ne30, eq00]
    refine gs_X8_marry_55 ?_
    intro H locs ls hW hL
    exact sg_newS C hfl hno hT hL thw_2 exi6 (Nat.le_of_ble_eq_true rfl) ⟨by show 6 ≤ _ + 6; omega, by show 100 ≤ _ + 120; omega, Nat.le_refl _, Nat.le_refl _⟩ dX8_marry_55 dX8_marry_58 dX8_marry_59 dX8_marry_61 dX8_marry_64 hW
theorem t_undo (hE : tx_ok E) (hfl : l.stackTraces = false) (hw : WbS E.2.2.1 E.2.2.2.1 P x πd π πs πh) (h2 : I (x + 89) 2 = 0) : MtX l E 1 MX8_undo [.ref x] I J P 2 I J P := by
  have hw' := hw.f
  have hl' := hw.le.f
  have hru := hw.le.r.f
  have hS := hw'.1
  refine MtX.of hE MX8_undo_ok (Nat.le_of_ble_eq_true rfl) (fun pg e s m args below meth c C hno hT => zt_seg (M := MX8_undo) C ?_)
  show Gp E.2.2.1 E.2.2.2.1 true MX8_undo _ 0 [some (.ref x)] [] I J P
  have hh := hw.hi.1
  simp only [g_X8_undo_0, g_X8_undo_1, g_X8_undo_4, g_X8_undo_7, hw', hl', hru, hh, h2, true_and, and_true, rf_s, not_true_eq_false, not_false_eq_true, true_implies, false_implies, kl_i, kl_n, kl_l, kl_r, Option.toList, List.cons_append, List.nil_append, if_true, if_false, u2s, lt00, lt01, lt02, lt03, le10, le20, le30, ne10, ne20, ne30, eq00]
  refine gs_X8_undo_10 ?_
  intro H locs ls hW hL
  exact sg_newW C hfl hno hT hL thw_2 exi11 (Nat.le_of_ble_eq_true rfl) ⟨by show 6 ≤ _ + 6; omega, by show 100 ≤ _ + 120; omega, Nat.le_refl _, Nat.le_refl _⟩ dX8_undo_10 dX8_undo_13 dX8_undo_14 dX8_undo_17 dX8_undo_20 hW
theorem t_restore (hE : tx_ok E) (hfl : l.stackTraces = false) (hw : WbS E.2.2.1 E.2.2.2.1 P x πd π πs πh) (h2 : I x 4 = 0) : MtX l E 1 MX8_restore [.ref x] I J P 2 I J P := by
  have hw' := hw.f
  have hl' := hw.le.f
  have hru := hw.le.r.f
  have hS := hw'.1
  refine MtX.of hE MX8_restore_ok (Nat.le_of_ble_eq_true rfl) (fun pg e s m args below meth c C hno hT => zt_seg (M := MX8_restore) C ?_)
  show Gp E.2.2.1 E.2.2.2.1 true MX8_restore _ 0 [some (.ref x)] [] I J P
  simp only [g_X8_restore_0, g_X8_restore_1, g_X8_restore_4, hw', hl', hru, h2, true_and, and_true, rf_s, not_true_eq_false, not_false_eq_true, true_implies, false_implies, kl_i, kl_n, kl_l, kl_r, Option.toList, List.cons_append, List.nil_append, if_true, if_false, u2s, lt00, lt01, lt02, lt03, le10, le20, le30, ne10, ne20, ne30, eq00]
  refine gs_X8_restore_7 ?_
  intro H locs ls hW hL
  exact sg_newW C hfl hno hT hL thw_2 exi12 (Nat.le_of_ble_eq_true rfl) ⟨by show 6 ≤ _ + 6; omega, by show 100 ≤ _ + 120; omega, Nat.le_refl _, Nat.le_refl _⟩ dX8_restore_7 dX8_restore_10 dX8_restore_11 dX8_restore_14 dX8_restore_17 hW
theorem t_part1 (hE : tx_ok E) (hfl : l.stackTraces = false) (hw : WbS E.2.2.1 E.2.2.2.1 P x πd π πs πh) {v : Int32} (hv : v < 0 ∨ nI 6 ≤ v) : MtX l E 2 MX8_part [.ref x, .int v] I J P 0 I J P := by
  have hw' := hw.f
  have hl' := hw.le.f
  have hru := hw.le.r.f
  have hS := hw'.1
  refine MtX.of hE MX8_part_ok (Nat.le_of_ble_eq_true rfl) (fun pg e s m args below meth c C hno hT => zt_seg (M := MX8_part) C ?_)
  show Gp E.2.2.1 E.2.2.2.1 true MX8_part _ 0 [some (.ref x), some (.int v), none] [] I J P
  have hco := hw.co.1
  simp only [g_X8_part_0, g_X8_part_1, hw', hl', hru, hco, true_and, and_true, rf_s, not_true_eq_false, not_false_eq_true, true_implies, false_implies, kl_i, kl_n, kl_l, kl_r, Option.toList, List.cons_append, List.nil_append, if_true, if_false, u2s, lt00, lt01, lt02, lt03, le10, le20, le30, ne10, ne20, ne30, eq00]
  refine gs_X8_part_2 ?_
  intro H locs ls hW hL
  exact sg_cX (M := MX8_requirePartner) (As := [.int v]) (b := x) C hno hT hL (d := 1) ⟨by show _ ≤ _ + 6; omega, by show _ ≤ 60 * _ + 120; omega, Nat.le_refl _, Nat.le_refl _⟩ dX8_part_2 rfl rfl rfl hS (by rw [hS]; decide) (Nat.le_of_ble_eq_true rfl) rfl (t_requirePartner1 hE hfl hw hv) hW
theorem t_partner1 (hE : tx_ok E) (hfl : l.stackTraces = false) (hw : WbS E.2.2.1 E.2.2.2.1 P x πd π πs πh) {v : Int32} (hv : v < 0 ∨ nI 6 ≤ v) : MtX l E 2 MX8_partner [.ref x, .int v] I J P 0 I J P := by
  have hw' := hw.f
  have hl' := hw.le.f
  have hru := hw.le.r.f
  have hS := hw'.1
  refine MtX.of hE MX8_partner_ok (Nat.le_of_ble_eq_true rfl) (fun pg e s m args below meth c C hno hT => zt_seg (M := MX8_partner) C ?_)
  show Gp E.2.2.1 E.2.2.2.1 true MX8_partner _ 0 [some (.ref x), some (.int v)] [] I J P
  have hco := hw.co.1
  simp only [g_X8_partner_0, g_X8_partner_1, hw', hl', hru, hco, true_and, and_true, rf_s, not_true_eq_false, not_false_eq_true, true_implies, false_implies, kl_i, kl_n, kl_l, kl_r, Option.toList, List.cons_append, List.nil_append, if_true, if_false, u2s, lt00, lt01, lt02, lt03, le10, le20, le30, ne10, ne20, ne30, eq00]
  refine gs_X8_partner_2 ?_
  intro H locs ls hW hL
  exact sg_cX (M := MX8_requirePartner) (As := [.int v]) (b := x) C hno hT hL (d := 1) ⟨by show _ ≤ _ + 6; omega, by show _ ≤ 60 * _ + 120; omega, Nat.le_refl _, Nat.le_refl _⟩ dX8_partner_2 rfl rfl rfl hS (by rw [hS]; decide) (Nat.le_of_ble_eq_true rfl) rfl (t_requirePartner1 hE hfl hw hv) hW
theorem t_jointTax1 (hE : tx_ok E) (hfl : l.stackTraces = false) (hw : WbS E.2.2.1 E.2.2.2.1 P x πd π πs πh) {v : Int32} (hv : v < 0 ∨ nI 6 ≤ v) : MtX l E 2 MX8_jointTax [.ref x, .int v] I J P 0 I J P := by
  have hw' := hw.f
  have hl' := hw.le.f
  have hru := hw.le.r.f
  have hS := hw'.1
  refine MtX.of hE MX8_jointTax_ok (Nat.le_of_ble_eq_true rfl) (fun pg e s m args below meth c C hno hT => zt_seg (M := MX8_jointTax) C ?_)
  show Gp E.2.2.1 E.2.2.2.1 true MX8_jointTax _ 0 [some (.ref x), some (.int v)] [] I J P
  have hco := hw.co.1
  simp only [g_X8_jointTax_0, g_X8_jointTax_1, g_X8_jointTax_4, g_X8_jointTax_5, g_X8_jointTax_8, g_X8_jointTax_9, g_X8_jointTax_10, hw', hl', hru, hco, true_and, and_true, rf_s, not_true_eq_false, not_false_eq_true, true_implies, false_implies, kl_i, kl_n, kl_l, kl_r, Option.toList, List.cons_append, List.nil_append, if_true, if_false, u2s, lt00, lt01, lt02, lt03, le10, le20, le30, ne10, ne20, ne30, eq00]
  refine gs_X8_jointTax_11 ?_
  intro H locs ls hW hL
  exact sg_cX (M := MX8_requirePartner) (As := [.int v]) (b := x) C hno hT hL (d := 1) ⟨by show _ ≤ _ + 6; omega, by show _ ≤ 60 * _ + 120; omega, Nat.le_refl _, Nat.le_refl _⟩ dX8_jointTax_11 rfl rfl rfl hS (by rw [hS]; decide) (Nat.le_of_ble_eq_true rfl) rfl (t_requirePartner1 hE hfl hw hv) hW
theorem t_separateTax1 (hE : tx_ok E) (hfl : l.stackTraces = false) (hw : WbS E.2.2.1 E.2.2.2.1 P x πd π πs πh) {v : Int32} (hv : v < 0 ∨ nI 6 ≤ v) : MtX l E 2 MX8_separateTax [.ref x, .int v] I J P 0 I J P := by
  have hw' := hw.f
  have hl' := hw.le.f
  have hru := hw.le.r.f
  have hS := hw'.1
  refine MtX.of hE MX8_separateTax_ok (Nat.le_of_ble_eq_true rfl) (fun pg e s m args below meth c C hno hT => zt_seg (M := MX8_separateTax) C ?_)
  show Gp E.2.2.1 E.2.2.2.1 true MX8_separateTax _ 0 [some (.ref x), some (.int v)] [] I J P
  have hco := hw.co.1
  simp only [g_X8_separateTax_0, g_X8_separateTax_1, g_X8_separateTax_4, g_X8_separateTax_5, g_X8_separateTax_8, g_X8_separateTax_9, g_X8_separateTax_10, hw', hl', hru, hco, true_and, and_true, rf_s, not_true_eq_false, not_false_eq_true, true_implies, false_implies, kl_i, kl_n, kl_l, kl_r, Option.toList, List.cons_append, List.nil_append, if_true, if_false, u2s, lt00, lt01, lt02, lt03, le10, le20, le30, ne10, ne20, ne30, eq00]
  refine gs_X8_separateTax_11 ?_
  intro H locs ls hW hL
  exact sg_cX (M := MX8_requirePartner) (As := [.int v]) (b := x) C hno hT hL (d := 1) ⟨by show _ ≤ _ + 6; omega, by show _ ≤ 60 * _ + 120; omega, Nat.le_refl _, Nat.le_refl _⟩ dX8_separateTax_11 rfl rfl rfl hS (by rw [hS]; decide) (Nat.le_of_ble_eq_true rfl) rfl (t_requirePartner1 hE hfl hw hv) hW
theorem t_division1 (hE : tx_ok E) (hfl : l.stackTraces = false) (hw : WbS E.2.2.1 E.2.2.2.1 P x πd π πs πh) {v : Int32} (hv : v < 0 ∨ nI 6 ≤ v) : MtX l E 2 MX8_division [.ref x, .int v] I J P 0 I J P := by
  have hw' := hw.f
  have hl' := hw.le.f
  have hru := hw.le.r.f
  have hS := hw'.1
  refine MtX.of hE MX8_division_ok (Nat.le_of_ble_eq_true rfl) (fun pg e s m args below meth c C hno hT => zt_seg (M := MX8_division) C ?_)
  show Gp E.2.2.1 E.2.2.2.1 true MX8_division _ 0 [some (.ref x), some (.int v)] [] I J P
  have hco := hw.co.1
  simp only [g_X8_division_0, g_X8_division_1, g_X8_division_4, g_X8_division_5, g_X8_division_8, g_X8_division_9, g_X8_division_10, hw', hl', hru, hco, true_and, and_true, rf_s, not_true_eq_false, not_false_eq_true, true_implies, false_implies, kl_i, kl_n, kl_l, kl_r, Option.toList, List.cons_append, List.nil_append, if_true, if_false, u2s, lt00, lt01, lt02, lt03, le10, le20, le30, ne10, ne20, ne30, eq00]
  refine gs_X8_division_11 ?_
  intro H locs ls hW hL
  exact sg_cX (M := MX8_requirePartner) (As := [.int v]) (b := x) C hno hT hL (d := 1) ⟨by show _ ≤ _ + 6; omega, by show _ ≤ 60 * _ + 120; omega, Nat.le_refl _, Nat.le_refl _⟩ dX8_division_11 rfl rfl rfl hS (by rw [hS]; decide) (Nat.le_of_ble_eq_true rfl) rfl (t_requirePartner1 hE hfl hw hv) hW
theorem t_choosesJoint1 (hE : tx_ok E) (hfl : l.stackTraces = false) (hw : WbS E.2.2.1 E.2.2.2.1 P x πd π πs πh) {v : Int32} (hv : v < 0 ∨ nI 6 ≤ v) : MtX l E 2 MX8_choosesJoint [.ref x, .int v] I J P 0 I J P := by
  have hw' := hw.f
  have hl' := hw.le.f
  have hru := hw.le.r.f
  have hS := hw'.1
  refine MtX.of hE MX8_choosesJoint_ok (Nat.le_of_ble_eq_true rfl) (fun pg e s m args below meth c C hno hT => zt_seg (M := MX8_choosesJoint) C ?_)
  show Gp E.2.2.1 E.2.2.2.1 true MX8_choosesJoint _ 0 [some (.ref x), some (.int v)] [] I J P
  have hco := hw.co.1
  simp only [g_X8_choosesJoint_0, g_X8_choosesJoint_1, g_X8_choosesJoint_4, g_X8_choosesJoint_5, g_X8_choosesJoint_8, g_X8_choosesJoint_9, g_X8_choosesJoint_10, hw', hl', hru, hco, true_and, and_true, rf_s, not_true_eq_false, not_false_eq_true, true_implies, false_implies, kl_i, kl_n, kl_l, kl_r, Option.toList, List.cons_append, List.nil_append, if_true, if_false, u2s, lt00, lt01, lt02, lt03, le10, le20, le30, ne10, ne20, ne30, eq00]
  refine gs_X8_choosesJoint_11 ?_
  intro H locs ls hW hL
  exact sg_cX (M := MX8_requirePartner) (As := [.int v]) (b := x) C hno hT hL (d := 1) ⟨by show _ ≤ _ + 6; omega, by show _ ≤ 60 * _ + 120; omega, Nat.le_refl _, Nat.le_refl _⟩ dX8_choosesJoint_11 rfl rfl rfl hS (by rw [hS]; decide) (Nat.le_of_ble_eq_true rfl) rfl (t_requirePartner1 hE hfl hw hv) hW
end TH

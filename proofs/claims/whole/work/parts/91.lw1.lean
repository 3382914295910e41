/-! the law's loop: calls in its frame, one case after another -/
theorem rt_any {M : MR} {S N : Nat → Nat} {cl : CL} {nat : Prop} {r : Option Value} {I' : IM} {J' : JM} {P' : PM} : ∀ (n : Nat) (x : Stt), tx_Run S N cl nat M (fun r0 I0 J0 P0 => r0 = r ∧ I0 = I' ∧ J0 = J' ∧ P0 = P') n x → ∃ i st, tx_rt M.2.2.2.1 i st r
  | 0, _, h => h.elim
  | n + 1, x, h => by
    rcases h with ⟨i, r0, -, -, h1, rfl, -⟩ | ⟨y, -, h⟩
    · exact ⟨i, _, h1⟩
    · exact rt_any n y h
theorem rt_int {rt : Option FieldType} (hrt : rt = some .int ∨ rt = some .boolean) {i : Instr} {st : List Value} {r : Option Value} (h : tx_rt rt i st r) : ∃ v, r = some (.int v) := by
  unfold tx_rt at h
  split at h
  · exact ⟨_, h.2⟩
  · obtain ⟨h1, -⟩ := h
    rw [h1] at hrt
    rcases hrt with z | z <;> cases z
  · obtain ⟨⟨n, h1⟩, -⟩ := h
    rw [h1] at hrt
    rcases hrt with z | z <;> cases z
  · obtain ⟨h1, -⟩ := h
    rw [h1] at hrt
    rcases hrt with z | z <;> cases z
  · exact h.elim
theorem rt_none {rt : Option FieldType} (hrt : rt = none) {i : Instr} {st : List Value} {r : Option Value} (h : tx_rt rt i st r) : r = none := by
  subst hrt
  unfold tx_rt at h
  split at h
  · obtain ⟨⟨ty, h1, -⟩, -⟩ := h
    cases h1
  · cases h.1
  · obtain ⟨⟨n, h1⟩, -⟩ := h
    cases h1
  · exact h.2
  · exact h.elim
section CWT
variable {S N : Nat → Nat} {d : Nat} {M : MR} {As : List Value} {I I' : IM} {J J' : JM} {P P' : PM} {r : Option Value}
theorem cw_rt (h : CWp S N d M As I J P (Qe r I' J' P')) : ∃ i st, tx_rt M.2.2.2.1 i st r := by
  obtain ⟨r1, I1, J1, P1, h1, rfl, -⟩ := h
  cases d with
  | zero =>
    obtain ⟨-, n, h2⟩ := h1
    exact rt_any n _ h2
  | succ d =>
    obtain ⟨-, n, h2⟩ := h1
    exact rt_any n _ h2
theorem cw_int (h : CWp S N d M As I J P (Qe r I' J' P')) (hrt : M.2.2.2.1 = some .int ∨ M.2.2.2.1 = some .boolean) : ∃ v, r = some (.int v) := by
  obtain ⟨i, st, h1⟩ := cw_rt h
  exact rt_int hrt h1
theorem cw_none (h : CWp S N d M As I J P (Qe r I' J' P')) (hrt : M.2.2.2.1 = none) : r = none := by
  obtain ⟨i, st, h1⟩ := cw_rt h
  exact rt_none hrt h1
end CWT
theorem and63 (v : Int32) : ∃ k, k < 64 ∧ v &&& 63 = nI k := by
  refine ⟨(v &&& 63).toBitVec.toNat, ?_, ?_⟩
  · have h1 : (v &&& 63).toBitVec = v.toBitVec &&& 63#32 := rfl
    rw [h1, BitVec.toNat_and]
    have := Nat.and_le_right (n := v.toBitVec.toNat) (m := (63#32).toNat)
    have e : (63#32).toNat = 63 := rfl
    omega
  · refine Int32.toBitVec_inj.mp ?_
    show (v &&& 63).toBitVec = BitVec.ofNat 32 _
    rw [BitVec.ofNat_toNat, BitVec.setWidth_eq]
section LWC
variable {p : Program} {l : Launch} {e : Env} {R : Room} {s : State} {m : MethodId} {args : Array Value} {below : List Frame} {meth : Method} {c : Code} {Q : State → Prop}
variable {E : tx_En} {H : Heap} {locs : List Loc} {cells slots : Nat} {nL pc : Nat} {st st' : List Value} {ls : Array Slot} {ll : List (Option Value)} {I I' : IM} {J J' : JM} {P P' : PM} {b L od : Nat} {xs : Nat → Int32}
/-- the law's world: whatever stands since its start is its own -/
abbrev WL (E : tx_En) (s : State) (b L : Nat) (xs : Nat → Int32) (od : Nat) (I : IM) (J : JM) (P : PM) (H : Heap) (locs : List Loc) : Prop := Wl E (fun q => s.heap.size ≤ q) s.heap s b L xs od (fun c => ∃ v, ∃ scr : Cell, c = some scr ∧ s.isArrayOf scr .double ∧ scr.vm ≠ .unknown ∧ scr.slots.size = 1 ∧ scr.slots[0]? = some (.double v)) I J P H locs
theorem sg_cL {pc2 : Nat} (hpc : pc + 3 = pc2) (ov : Option Value) (C : Cx E 10 cL_law nL p s m args meth c) (hL : Lv ls nL ll) {n d b' : Nat} {M : MR} {As : List Value} (hR : d + 1 ≤ R.frames ∧ 60 * d + 40 ≤ R.locals) (hcs : cells ≤ R.cells ∧ slots ≤ R.slots) (hd : decode cL_law pc = .ok (.invokevirtual n, 3)) (hm : mres 10 n = some M) (hs : M.2.2.2.2.2.2 = false) (hn : As.length = M.2.2.2.2.2.1) (hSb : E.2.2.1 b' = M.2.2.2.2.1) (h10 : E.2.2.1 b' < 10) (hst : (st'.map fun v => v.category).sum ≤ 8) (hs2 : st = As.reverse ++ .ref b' :: st') (h : CWp E.2.2.1 E.2.2.2.1 d M (.ref b' :: As) I J P (Qe ov I' J' P')) (hW : WL E s b L xs od I J P H locs)
    (kk : ∀ H1 locs1, WL E s b L xs od I' J' P' H1 locs1 → W p l e R s m args below meth c H1 locs1 cells slots Q (F0 m pc2 ls (ov.toList ++ st'))) : W p l e R s m args below meth c H locs cells slots Q (F0 m pc ls st) :=
  sg_cV C hL hR hcs hd hm hs hn hSb h10 hst hs2 h hW.1 (fun r I1 J1 P1 hq H1 locs1 w1 z1 k1 => by
    obtain ⟨rfl, rfl, rfl, rfl⟩ := hq
    subst hpc
    exact kk H1 locs1 (hW.next w1 z1 k1))
theorem sg_cML {pc2 : Nat} (hpc : pc + 3 = pc2) (C : Cx E 10 cL_law nL p s m args meth c) (hL : Lv ls nL ll) {n d b' : Nat} {M : MR} {As : List Value} {r : Option Value} (hR : d + 1 ≤ R.frames ∧ 60 * d + 40 ≤ R.locals) (hcs : cells ≤ R.cells ∧ slots ≤ R.slots) (hd : decode cL_law pc = .ok (.invokevirtual n, 3)) (hm : mres 10 n = some M) (hs : M.2.2.2.2.2.2 = false) (hn : As.length = M.2.2.2.2.2.1) (hSb : E.2.2.1 b' = M.2.2.2.2.1) (h10 : E.2.2.1 b' < 10) (hst : (st'.map fun v => v.category).sum ≤ 8) (hs2 : st = As.reverse ++ .ref b' :: st') (h : MtM l E d M (.ref b' :: As) I J P r I' J' P') (hW : WL E s b L xs od I J P H locs)
    (kk : ∀ H1 locs1, WL E s b L xs od I' J' P' H1 locs1 → W p l e R s m args below meth c H1 locs1 cells slots Q (F0 m pc2 ls (r.toList ++ st'))) : W p l e R s m args below meth c H locs cells slots Q (F0 m pc ls st) := by
  subst hs2
  subst hpc
  exact sg_callV C hL hR hcs hd hm hs hn hSb h10 hst h hW.1 (fun H1 locs1 w1 z1 k1 => kk H1 locs1 (hW.next w1 z1 k1))
theorem wl_T {U : State} (hT : TX E s) (hEA : ∀ q, q ∈ E.2.2.2.2 → s.heap.size ≤ q) (hW : WL E s b L xs od I J P H locs) (hU : U.heap = H) (hWu : s.WarmedH U.vm) : TX E U := hT.on (fun q h1 h2 => by rw [hU]; exact hW.1.2.2.2.1 q h1 (fun z => absurd h1 (Nat.not_lt.mpr z))) hWu
theorem sg_cWL {pc2 : Nat} (hpc : pc + 3 = pc2) (C : Cx E 10 cL_law nL p s m args meth c) (hT : TX E s) (hEA : ∀ q, q ∈ E.2.2.2.2 → s.heap.size ≤ q) (hL : Lv ls nL ll) {n : Nat} {M : MR} {hh : List (Nat × Nat × Nat × Nat)} {As : List Value} {k : Int32} (hR : 19 ≤ R.frames ∧ 1400 ≤ R.locals) (hcs : cells + 1 ≤ R.cells ∧ slots + 6 ≤ R.slots) (hd : decode cL_law pc = .ok (.invokestatic n, 3)) (hlk : tbG (.methodLink RL n M.1)) (hF : WF M hh) (hn : As.length = M.2.2.2.2.2.1) (hs2 : st = As.reverse ++ []) (hM : MtW l E M hh As I J P (some (.int k)) I' J' P') (hW : WL E s b L xs od I J P H locs)
    (kk : ∀ H1 locs1, WL E s b L xs od I' J' P' H1 locs1 → W p l e R s m args below meth c H1 locs1 (cells + 1) (slots + 6) Q (F0 m pc2 ls [.int k])) : W p l e R s m args below meth c H locs cells slots Q (F0 m pc ls st) := by
  subst hs2
  subst hpc
  exact sg_callW C hT va_S.rf hL (fun U hU hWu => wl_T hT hEA hW hU hWu) hR hcs hd hlk hF hn (Nat.zero_le _) hM hW.1 (fun H1 locs1 w1 z1 k1 => kk H1 locs1 (hW.next w1 z1 k1))
/-- at pc, with the i-th int of the script next -/
def Lp (p : Program) (l : Launch) (e : Env) (R : Room) (s : State) (m : MethodId) (args : Array Value) (below : List Frame) (meth : Method) (c : Code) (Q : State → Prop) (E : tx_En) (b L : Nat) (xs : Nat → Int32) (x m9 w od pc i cells slots : Nat) : Prop :=
  ∀ (I : IM) (J : JM) (P : PM) (H : Heap) (locs : List Loc) (ls : Array Slot) (y6 y7 y8 y9 : Option Value), WL E s b L xs od I J P H locs → Iv E.2.2.1 E.2.2.2.1 x m9 w b xs P I J → Lv ls 10 [some (.ref b), some (.ref x), some (.ref m9), some (.ref w), some (.ref od), some (.int (nI i)), y6, y7, y8, y9] → W p l e R s m args below meth c H locs cells slots Q (F0 m pc ls [])
theorem Lp.up {x m9 w i : Nat} (h : Lp p l e R s m args below meth c Q E b L xs x m9 w od pc i (cells + 1) (slots + 6)) : Lp p l e R s m args below meth c Q E b L xs x m9 w od pc i cells slots := fun I J P H locs ls y6 y7 y8 y9 hW hv hL => W.widen (Nat.le_succ _) (Nat.le_add_right _ _) (h I J P H locs ls y6 y7 y8 y9 hW hv hL)
theorem S2_b {S : Nat → Nat} {b : Nat} : S2 S b b = 10 := by unfold S2; rw [if_pos rfl]
theorem N2_b {N : Nat → Nat} {b L : Nat} : N2 N b L b = L := by unfold N2; rw [if_pos rfl]
theorem S2_o {S : Nat → Nat} {b a : Nat} (h : a ≠ b) : S2 S b a = S a := by unfold S2; rw [if_neg h]
theorem N2_o {N : Nat → Nat} {b L a : Nat} (h : a ≠ b) : N2 N b L a = N a := by unfold N2; rw [if_neg h]
end LWC

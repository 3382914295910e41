/-! the wrapper of averageRate: its answer goes into an array of doubles beside the world -/
def Xd (b : Nat) (v : UInt64) (U : State) (H : Heap) : Prop := ∃ scr : Cell, H[b]? = some scr ∧ U.isArrayOf scr .double ∧ scr.vm ≠ .unknown ∧ scr.slots.size = 1 ∧ scr.slots[0]? = some (.double v)
theorem Xd.kept {b : Nat} {v : UInt64} {U : State} {H H1 : Heap} (h : Xd b v U H) (hq : H1[b]? = H[b]?) : Xd b v U H1 := by
  obtain ⟨scr, h1, h2⟩ := h
  exact ⟨scr, by rw [hq]; exact h1, h2⟩
theorem Xd.moved {b : Nat} {v : UInt64} {u U : State} {H : Heap} (hvm : u.vm.Alike U.vm) (h : Xd b v u H) : Xd b v U H := by
  obtain ⟨scr, h1, h2, h3⟩ := h
  exact ⟨scr, h1, State.isArrayOf_alike hvm h2, h3⟩
theorem Xd.set {b : Nat} {v v1 : UInt64} {U : State} {H H1 : Heap} {scr : Cell} (h : Xd b v U H) (hs : H[b]? = some scr) (h1 : H1[b]? = some (scr.setSlot 0 (.double v1))) : Xd b v1 U H1 := by
  obtain ⟨scr2, e1, e2, e3, e4, e5⟩ := h
  cases Option.some.inj (e1.symm.trans hs)
  refine ⟨_, h1, e2, e3, ?_, ?_⟩
  · simp [Cell.setSlot, e4]
  · simp [Cell.setSlot, Array.getElem?_setIfInBounds, e4]
def PcXD (E : tx_En) (od : Nat) (av : List Value) (I : IM) (J : JM) (P : PM) : Array Value → State → Prop := fun a U => PcX E av I J P a U ∧ od ∉ E.2.2.2.2 ∧ ∃ v, Xd od v U U.heap
theorem PcXD_blind (E : tx_En) (od : Nat) (av : List Value) (I : IM) (J : JM) (P : PM) : FrameBlind (PcXD E od av I J P) := fun a U g mk q => by
  obtain ⟨q0, q1, v, q2⟩ := q
  exact ⟨PcX_blind E av I J P a U g mk q0, q1, v, Xd.moved (u := U) (U := U.calling g mk a) (Vm.Alike.refl U.vm) q2⟩
def QcD (E : tx_En) (od : Nat) (r : Option Value) (dz : Cell → Cell) (I : IM) (J : JM) (P : PM) : Array Value → State → Outcome → State → Prop := fun _ st o t => o = .returned r ∧ va_P E.1 vwCl (tx_W E I J P) t.heap ∧ va_F (fun a => a ∈ E.2.2.2.2 ∨ a = od) st t ∧ ∀ scr, st.heap[od]? = some scr → t.heap[od]? = some (dz scr)
def MtWD (l : Launch) (E : tx_En) (od : Nat) (av : List Value) (I : IM) (J : JM) (P : PM) (k : Int32) (dz : Cell → Cell) (I' : IM) (J' : JM) (P' : PM) : Prop :=
  vx_Met l ML_averageRate.1 (wzW ML_averageRate hL_averageRate) rmw (PcXD E od av I J P) (QcD E od (some (.int k)) dz I' J' P') (fun _ _ _ => False) 1 6 (fun q => q ∈ E.2.2.2.2 ∨ q = od)
theorem MtWD.of {l : Launch} {E : tx_En} (hE : tx_ok E) {od : Nat} {av : List Value} {I I' : IM} {J J' : JM} {P P' : PM} {k : Int32} {dz : Cell → Cell} (hlen : (entl av).length ≤ 4)
    (body : ∀ p e s m args below meth c, Cx E 10 ML_averageRate.2.1 4 p s m args meth c → c.exceptionTable.toList = tableOf hL_averageRate → meth.sig.returnType = some .int → TX E s → od ∉ E.2.2.2.2 → (∃ v, Xd od v s s.heap) → Zt p l e rmw s m args below meth c E (fun q => q ∈ E.2.2.2.2) s.heap 0 0 4 (vx_MQ below (QcD E od (some (.int k)) dz I' J' P') (fun _ _ _ => False) args s 1 6 (fun q => q ∈ E.2.2.2.2 ∨ q = od)) 0 (entL av 4) [] I J P) : MtWD l E od av I J P k dz I' J' P' := by
  have hM := ML_averageRate_ok
  refine vx_ofWH (cc := ML_averageRate.2.1) (maxL := 4) (ret := some .int) (hh := hL_averageRate) hM.1 rfl ?_
  intro p e s m args below meth c s₁ B hml hv
  obtain ⟨⟨rfl, hP, hK, hD, hT⟩, ho, hx⟩ := hv
  have hts := atoms_spec (ws := wzW ML_averageRate hL_averageRate) B.pre
  have hown : s.vm.findClass ML_averageRate.1.cls = some m.cls := findClass_of_methodNamed B.named
  rw [hM.2.2.2.2.2.2.2.1] at hown
  rw [lg_entry_eq]
  exact body p e s m _ below meth c ⟨B.exec, B.bytes, hml, hown, fun w hw => hts w (List.mem_cons_of_mem _ hw), B.notSynchronized, hK, hE⟩ (vx_table (x := ML_averageRate.1) B (hts _ List.mem_cons_self)) B.returns hT ho hx s.heap [] _ ⟨hP, tx_D_L hD, va_S.rf⟩ (Lv_entry av hlen)
theorem tx_W_in {E : tx_En} {I : IM} {J : JM} {P : PM} {k : Nat} {q : Nat × va_E} (hk : (tx_W E I J P)[k]? = some q) : q.1 ∈ E.2.2.2.2 := by
  have h1 := List.mem_of_getElem? hk
  obtain ⟨a, ha, rfl⟩ := List.mem_map.mp h1
  exact ha
section SGD
variable {p : Program} {l : Launch} {e : Env} {R : Room} {s : State} {m : MethodId} {args : Array Value} {below : List Frame} {meth : Method} {c : Code} {Q : State → Prop}
variable {E : tx_En} {A : Nat → Prop} {H0 H : Heap} {locs : List Loc} {cells slots : Nat} {cc : ByteArray} {nL o pc len : Nat} {st st' : List Value} {ls : Array Slot} {ll : List (Option Value)} {I I' : IM} {J J' : JM} {P P' : PM}
theorem Wd.mono {B : Nat → Prop} (h : Wd E A H0 I J P H locs) (hAB : ∀ q, A q → B q) : Wd E B H0 I J P H locs := by
  obtain ⟨h1, h2, h3, h4, h5⟩ := h
  exact ⟨h1, h2.weaken (fun k q hk z => hAB _ z), h3, fun q q1 q2 => h4 q q1 (fun z => q2 (hAB q z)), fun z hz => hAB _ (h5 z hz)⟩
theorem sg_endD {od : Nat} {v : Int32} {dz : Cell → Cell} (C : Cx E 10 ML_averageRate.2.1 nL p s m args meth c) (hr : meth.sig.returnType = some .int) (hW : Wd E (fun q => q ∈ E.2.2.2.2 ∨ q = od) s.heap I J P H locs) (hz : ∀ scr, s.heap[od]? = some scr → H[od]? = some (dz scr)) (hc : cells ≤ 1 ∧ slots ≤ 6) (hd : decode ML_averageRate.2.1 pc = .ok (.ireturn, 1)) : W p l e R s m args below meth c H locs cells slots (vx_MQ below (QcD E od (some (.int v)) dz I J P) (fun _ _ _ => False) args s 1 6 (fun q => q ∈ E.2.2.2.2 ∨ q = od)) (F0 m pc ls [.int v]) := by
  obtain ⟨hx, hb, hml, hown, hts, hlocks, hK, hE⟩ := C
  exact vx_ret (W.widen hc.1 hc.2 (W.iret hx hb hr (fun t ht _ => ⟨rfl, by rw [ht]; exact hW.1, hW.2.2.F ht, fun scr h => by rw [ht]; exact hz scr h⟩) hW.2.2.2.2 hd hlocks))
set_option maxHeartbeats 4000000 in
theorem sg_callWD {od : Nat} (C : Cx E 10 cc nL p s m args meth c) (hL : Lv ls nL ll) {n : Nat} {As : List Value} {k : Int32} {dz : Cell → Cell} (hTk : ∀ U : State, U.heap = H → s.WarmedH U.vm → TX E U) (ho : od ∉ E.2.2.2.2) (hoA : A od) (hX : ∃ v, Xd od v s H) (hR : 19 ≤ R.frames ∧ 1400 ≤ R.locals) (hcs : cells + 1 ≤ R.cells ∧ slots + 6 ≤ R.slots) (hd : decode cc pc = .ok (.invokestatic n, 3)) (hlk : tbG (.methodLink RL n ML_averageRate.1)) (hn : As.length = 3) (hst : (st'.map fun v => v.category).sum ≤ 8) (hM : MtWD l E od As I J P k dz I' J' P') (hW : Wd E A H0 I J P H locs)
    (kk : ∀ H1 locs1, Wd E A H0 I' J' P' H1 locs1 → H.size ≤ H1.size → (∀ q : Nat, q < H.size → q ∉ E.2.2.2.2 → q ≠ od → H1[q]? = H[q]?) → (∀ scr, H[od]? = some scr → H1[od]? = some (dz scr)) → W p l e R s m args below meth c H1 locs1 (cells + 1) (slots + 6) Q (F0 m (pc + 3) ls (.int k :: st'))) : W p l e R s m args below meth c H locs cells slots Q (F0 m pc ls (As.reverse ++ st')) := by
  have hF := ML_averageRate_ok
  obtain ⟨hx, hb, hml, hown, hts, -, hK, hE⟩ := C
  obtain ⟨f1, f2, f3, f4, f5, f6, f7, f8, f9⟩ := id hF
  have hr := vx_runSX (hh := hL_averageRate) (Ts := tz) (H := H) (locs := locs) (cells := cells) (slots := slots) (g := F0 m pc ls (As.reverse ++ st')) (rest := st') (e := e) (below := below) (meth := meth) ⟨hx, hb, hml, hown, hts⟩ hM (vx_cwSW ML_averageRate.2.2.2.2.2.1 hts (wsS_g hlk f7 f3 (wzW_g hF)) rfl rfl rfl ⟨f4.1, f4.2, f5⟩ ⟨by show 18 + 1 ≤ R.frames; omega, by show 8 + (4 + 11) + 1300 ≤ R.locals; omega⟩) ⟨PcXD_blind _ _ _ _ _ _, fun U hU hWu => ⟨⟨rfl, by rw [hU]; exact hW.1, va_K.moved hWu.alike hK, hW.2.1.weaken (fun _ _ _ _ => trivial), hTk U hU hWu⟩, ho, by
      obtain ⟨v, hv⟩ := hX
      exact ⟨v, by rw [hU]; exact hv.moved hWu.alike⟩⟩⟩ rfl hn hL.2.1 rfl (lv_room hst) hd ⟨hcs.1, hcs.2⟩
  intro T hT X
  rcases hr T hT X with ⟨v, st₀, t, T', L, h0, X', hL', e1, e2, ⟨hv, hP1, ⟨hz, hk⟩, hdz⟩, st⟩ | ⟨q, st₀, t, T', L, Ex, ce, -, -, -, -, -, hf, -⟩
  · cases hv
    obtain ⟨hP, hD, hS⟩ := hW
    have hLA : ∀ q, (q ∈ E.2.2.2.2 ∨ q = od) → A q := fun q hq => by
      rcases hq with hq | rfl
      · obtain ⟨i, hi⟩ := va_pl_get (X := []) (f := tx_cell E.2.1 E.2.2.1 E.2.2.2.1 I J P) hq
        exact hD.2 i (q, _) hi
      · exact hoA
    rw [h0] at hz hk hdz
    obtain ⟨t2, a1, b1⟩ := kk T'.heap (locs ++ L) ⟨by rw [e1]; exact hP1, tx_D_any hD, Nat.le_trans hS.1 (by rw [e1]; exact hz), fun q h1 h2 => by
        rw [e1, hk q (Nat.lt_of_lt_of_le h1 hS.1) (fun z => h2 (hLA q z))]
        exact hS.2.1 q h1 h2, fun q hq => by
        rcases List.mem_append.mp hq with h | h
        · exact hS.2.2 q h
        · exact hLA _ (hL' q h)⟩ (by rw [e1]; exact hz) (fun q h1 h2 h3 => by rw [e1]; exact hk q h1 (fun z => z.elim h2 h3)) (fun scr h => by rw [e1]; exact hdz scr h) T' rfl X'
    exact ⟨t2, st t2 a1, b1⟩
  · exact hf.elim
end SGD
section WRD
variable {l : Launch} {E : tx_En} {I I' : IM} {J J' : JM} {P P' : PM} {x od d : Nat}
theorem LWD_ok (hE : tx_ok E) (hSx : E.2.2.1 x = 8) {p0 : Int32} {v : UInt64} (h : MtM l E 8 MX8_averageRate [.ref x, .int p0] I J P (some (.double v)) I' J' P') : MtWD l E od [.ref x, .int p0, .ref od] I J P 0 (fun z => z.setSlot 0 (.double v)) I' J' P' := by
  refine MtWD.of hE (Nat.le_of_ble_eq_true rfl) (fun pg e s m args below meth c C htab hret hT ho hx => zt_seg (M := ML_averageRate) C ?_)
  show Gp E.2.2.1 E.2.2.2.1 true ML_averageRate _ 0 [some (.ref x), some (.int p0), some (.ref od), none] [] I J P
  simp only [g_L_averageRate_0, g_L_averageRate_1, g_L_averageRate_2, g_L_averageRate_3, true_and, and_true, rf_s, not_true_eq_false, not_false_eq_true, true_implies, false_implies, kl_i, kl_n, kl_l, kl_r, Option.toList, List.cons_append, List.nil_append, if_true, if_false, u2s, lt00, lt01, lt02, lt03, le10, le20, le30, ne10, ne20, ne30, eq00]
  refine gs_L_averageRate_4 ?_
  intro H locs ls hW hL
  refine sg_callV (M := MX8_averageRate) (As := [.int p0]) (b := x) (d := 8) (st' := [.int 0, .ref od]) C hL ⟨by show _ ≤ 18; omega, by show _ ≤ 1300; omega⟩ ⟨Nat.zero_le _, Nat.zero_le _⟩ dL_averageRate_4 rfl rfl rfl hSx (by rw [hSx]; decide) (Nat.le_of_ble_eq_true rfl) h hW (fun H1 locs1 hW1 hz1 hk1 => ?_)
  obtain ⟨v0, scr, x1, x2, x3, x4, x5⟩ := hx
  have hlt : od < s.heap.size := (Array.getElem?_eq_some_iff.mp x1).1
  have hc1 : H1[od]? = some scr := by rw [hW1.2.2.2.1 od hlt ho]; exact x1
  refine W.dast (x := v) (j := 0) (rest := []) C.1 C.2.1 hc1 x2 x3 (by rw [x4]; decide) rfl rfl dL_averageRate_7 (fun H2 b1 b2 b3 => ?_)
  have hW2 : Wd E (fun q => q ∈ E.2.2.2.2 ∨ q = od) s.heap I' J' P' H2 (locs1 ++ [⟨od, (0 : Int32).toNatClampNeg⟩]) := by
    obtain ⟨w1, w2, w3, w4, w5⟩ := hW1.mono (B := fun q => q ∈ E.2.2.2.2 ∨ q = od) (fun q z => Or.inl z)
    refine ⟨w1.kept (fun k q hk => b3 _ (fun z => ho (z ▸ tx_W_in hk))), w2, by rw [b2]; exact w3, fun q q1 q2 => by rw [b3 q (fun z => q2 (Or.inr z))]; exact w4 q q1 q2, fun z hz => ?_⟩
    rcases List.mem_append.mp hz with hz | hz
    · exact w5 z hz
    · rcases List.mem_cons.mp hz with rfl | hz
      · exact Or.inr rfl
      · cases hz
  have hz2 : ∀ scr9, s.heap[od]? = some scr9 → H2[od]? = some (scr9.setSlot 0 (.double v)) := fun scr9 h9 => by
    cases Option.some.inj (x1.symm.trans h9)
    exact b1
  show W pg l e rmw s m args below meth c H2 _ 0 0 _ (F0 m 8 ls [])
  refine sg_go (tgt := 17) C dL_averageRate_8 (fun _ _ => rfl) rfl (by decide) ?_
  refine sg_alu C dL_averageRate_17 rfl rfl ?_
  exact sg_endD C hret hW2 hz2 ⟨Nat.zero_le _, Nat.zero_le _⟩ dL_averageRate_18
theorem LWD_x1 (hE : tx_ok E) (hSx : E.2.2.1 x = 8) {p0 : Int32} (hd : d ≤ 11) (h : MtX l E d MX8_averageRate [.ref x, .int p0] I J P 0 I' J' P') : MtWD l E od [.ref x, .int p0, .ref od] I J P 1 (fun z => z) I' J' P' := by
  refine MtWD.of hE (Nat.le_of_ble_eq_true rfl) (fun pg e s m args below meth c C htab hret hT ho hx => zt_seg (M := ML_averageRate) C ?_)
  show Gp E.2.2.1 E.2.2.2.1 true ML_averageRate _ 0 [some (.ref x), some (.int p0), some (.ref od), none] [] I J P
  simp only [g_L_averageRate_0, g_L_averageRate_1, g_L_averageRate_2, g_L_averageRate_3, true_and, and_true, rf_s, not_true_eq_false, not_false_eq_true, true_implies, false_implies, kl_i, kl_n, kl_l, kl_r, Option.toList, List.cons_append, List.nil_append, if_true, if_false, u2s, lt00, lt01, lt02, lt03, le10, le20, le30, ne10, ne20, ne30, eq00]
  refine gs_L_averageRate_4 ?_
  intro H locs ls hW hL
  obtain ⟨v0, scr, x1, -⟩ := hx
  have hlt : od < s.heap.size := (Array.getElem?_eq_some_iff.mp x1).1
  refine sg_callC (M := MX8_averageRate) (As := [.int p0]) (b := x) (d := d) (st' := [.int 0, .ref od]) C hT hL htab (pre := []) (suf := [(0, 8, 14, 114)]) (a0 := 0) (b0 := 8) (hpc := 11) (ct := 25) rfl (fun _ h => absurd h List.not_mem_nil) (by decide) ctl_0 (by decide) (by decide) ⟨by show _ ≤ 18; omega, by show _ ≤ 1300; omega, Nat.le_refl _, Nat.le_refl _⟩ dL_averageRate_4 rfl rfl rfl hSx (by rw [hSx]; decide) (Nat.le_of_ble_eq_true rfl) h hW (fun H1 locs1 q hW1 => seg_ok (M := ML_averageRate) C ?_ hW1 hL)
  simp only [g_L_averageRate_11, g_L_averageRate_12, true_and, and_true, rf_s, not_true_eq_false, not_false_eq_true, true_implies, false_implies, kl_i, kl_n, kl_l, kl_r, Option.toList, List.cons_append, List.nil_append, if_true, if_false, u2s, lt00, lt01, lt02, lt03, le10, le20, le30, ne10, ne20, ne30, eq00]
  refine gs_L_averageRate_13 ?_
  intro H2 locs2 ls2 hW2 hL2
  exact sg_endD C hret (hW2.mono (fun q z => Or.inl z)) (fun scr h => by rw [hW2.2.2.2.1 od hlt ho]; exact h) ⟨Nat.le_refl _, Nat.le_refl _⟩ dL_averageRate_13
theorem LWD_x2 (hE : tx_ok E) (hSx : E.2.2.1 x = 8) {p0 : Int32} (hd : d ≤ 11) (h : MtX l E d MX8_averageRate [.ref x, .int p0] I J P 4 I' J' P') : MtWD l E od [.ref x, .int p0, .ref od] I J P 2 (fun z => z) I' J' P' := by
  refine MtWD.of hE (Nat.le_of_ble_eq_true rfl) (fun pg e s m args below meth c C htab hret hT ho hx => zt_seg (M := ML_averageRate) C ?_)
  show Gp E.2.2.1 E.2.2.2.1 true ML_averageRate _ 0 [some (.ref x), some (.int p0), some (.ref od), none] [] I J P
  simp only [g_L_averageRate_0, g_L_averageRate_1, g_L_averageRate_2, g_L_averageRate_3, true_and, and_true, rf_s, not_true_eq_false, not_false_eq_true, true_implies, false_implies, kl_i, kl_n, kl_l, kl_r, Option.toList, List.cons_append, List.nil_append, if_true, if_false, u2s, lt00, lt01, lt02, lt03, le10, le20, le30, ne10, ne20, ne30, eq00]
  refine gs_L_averageRate_4 ?_
  intro H locs ls hW hL
  obtain ⟨v0, scr, x1, -⟩ := hx
  have hlt : od < s.heap.size := (Array.getElem?_eq_some_iff.mp x1).1
  refine sg_callC (M := MX8_averageRate) (As := [.int p0]) (b := x) (d := d) (st' := [.int 0, .ref od]) C hT hL htab (pre := [(0, 8, 11, 25)]) (suf := []) (a0 := 0) (b0 := 8) (hpc := 14) (ct := 114) rfl (List.forall_mem_cons.mpr ⟨⟨by decide, 0, ctl_0, List.mem_of_getElem? (i := 4) rfl⟩, fun _ h => absurd h List.not_mem_nil⟩) (by decide) ctl_4 (by decide) (by decide) ⟨by show _ ≤ 18; omega, by show _ ≤ 1300; omega, Nat.le_refl _, Nat.le_refl _⟩ dL_averageRate_4 rfl rfl rfl hSx (by rw [hSx]; decide) (Nat.le_of_ble_eq_true rfl) h hW (fun H1 locs1 q hW1 => seg_ok (M := ML_averageRate) C ?_ hW1 hL)
  simp only [g_L_averageRate_14, g_L_averageRate_15, true_and, and_true, rf_s, not_true_eq_false, not_false_eq_true, true_implies, false_implies, kl_i, kl_n, kl_l, kl_r, Option.toList, List.cons_append, List.nil_append, if_true, if_false, u2s, lt00, lt01, lt02, lt03, le10, le20, le30, ne10, ne20, ne30, eq00]
  refine gs_L_averageRate_16 ?_
  intro H2 locs2 ls2 hW2 hL2
  exact sg_endD C hret (hW2.mono (fun q z => Or.inl z)) (fun scr h => by rw [hW2.2.2.2.1 od hlt ho]; exact h) ⟨Nat.le_refl _, Nat.le_refl _⟩ dL_averageRate_16
end WRD

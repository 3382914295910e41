/-! what is thrown: classes by number, texts, words; contracts of methods that throw -/
def exC : Nat → String
  | 0 => "java/lang/IndexOutOfBoundsException"
  | 1 => "java/lang/IllegalArgumentException"
  | 2 => "java/lang/IllegalStateException"
  | 3 => "java/util/NoSuchElementException"
  | _ => "java/lang/ArithmeticException"
def exM : List String := ["java/lang/RuntimeException", "java/lang/Exception"]
def exS : List (Nat × String) := [(289, "a number is out of range"), (71, "the text is full"), (95, "the text has a fault"), (102, "an item is not allowed"), (286, "there is no such index"), (167, "a couple is two people"), (172, "one of them is in a couple"), (291, "the person is in no couple"), (250, "there is no kink above"), (256, "there is no kink at this place"), (265, "the income is 0"), (272, "there is no change to take back"), (282, "nothing was saved")]
def exN : List (Nat × Nat) := [(2, 1), (1, 0), (2, 0), (3, 0), (4, 0)]
/-- the words of throws that are no 'good' words -/
def exW : List Cond := [.castable (exC 0) (exC 0), .castable (exC 1) (exC 1), .castable (exC 2) (exC 2), .castable (exC 3) (exC 3), .castable (exC 4) (exC 4), .declares (Bundle.initS "java/lang/RuntimeException"), .declares (Bundle.initS "java/lang/Exception"), .declares (Bundle.initS Bundle.tN)]
theorem exW_k : ∀ w ∈ exW, w.onTables = true ∧ w.keepsFace = true := List.forall_mem_cons.mpr ⟨⟨rfl, rfl⟩, List.forall_mem_cons.mpr ⟨⟨rfl, rfl⟩, List.forall_mem_cons.mpr ⟨⟨rfl, rfl⟩, List.forall_mem_cons.mpr ⟨⟨rfl, rfl⟩, List.forall_mem_cons.mpr ⟨⟨rfl, rfl⟩, List.forall_mem_cons.mpr ⟨⟨rfl, rfl⟩, List.forall_mem_cons.mpr ⟨⟨rfl, rfl⟩, List.forall_mem_cons.mpr ⟨⟨rfl, rfl⟩, fun _ h => absurd h List.not_mem_nil⟩⟩⟩⟩⟩⟩⟩⟩
theorem face_at {args a' : Array Value} {s U : State} {w : Cond} (hW : s.WarmedH U.vm) (hg : w.onTables = true ∧ w.keepsFace = true) (h : w.before args s = true) : w.before a' U = true := by
  have h1 := Cond.before_shiftedFace (State.Shifted.of_warmed hW) w hg.2 h
  rw [Cond.onTables_vm (A' := a') (U' := U) U.vm w hg.1] at h1
  rwa [State.setVm_self] at h1
/-- what the launch gives for throws, kept by all that is written here -/
def TX (E : tx_En) (U : State) : Prop := vx_Zq Bundle.tN "UNASSIGNED_STACK" Bundle.steD (fun q => q ∈ E.2.2.2.2) U U.heap ∧ vx_Zq Bundle.tN "SUPPRESSED_SENTINEL" Bundle.listD (fun q => q ∈ E.2.2.2.2) U U.heap ∧ (∀ q ∈ exS, ∃ sa, vk_R RX8 q.1 q.2 sa U) ∧ (∀ q ∈ exN, va_Nc (exC q.1) (exC q.2) U) ∧ ∀ w ∈ exW, w.before #[] U = true
theorem TX.on {E : tx_En} {s U : State} (h : TX E s) (hk : ∀ q : Nat, q < s.heap.size → ¬ q ∈ E.2.2.2.2 → U.heap[q]? = s.heap[q]?) (hW : s.WarmedH U.vm) : TX E U :=
  ⟨vx_Zq.moved hW.alike (h.1.kept hk), vx_Zq.moved hW.alike (h.2.1.kept hk), fun q hq => by
    obtain ⟨sa, h1⟩ := h.2.2.1 q hq
    exact ⟨sa, vk_R.warm hW h1⟩, fun q hq => va_Nc.moved hW.alike (h.2.2.2.1 q hq), fun w hw => face_at hW (exW_k w hw) (h.2.2.2.2 w hw)⟩
theorem TX.same {E : tx_En} {s U : State} (h : TX E s) (hv : U.vm = s.vm) (hh : U.heap = s.heap) : TX E U :=
  ⟨by rw [hh]; exact vx_Zq.moved (show s.vm.Alike U.vm by rw [hv]; exact Vm.Alike.refl s.vm) h.1, by rw [hh]; exact vx_Zq.moved (show s.vm.Alike U.vm by rw [hv]; exact Vm.Alike.refl s.vm) h.2.1, fun q hq => by
    obtain ⟨sa, h1⟩ := h.2.2.1 q hq
    exact ⟨sa, vk_R.same (u := s) (U := U) hv h1⟩, fun q hq => va_Nc.moved (show s.vm.Alike U.vm by rw [hv]; exact Vm.Alike.refl s.vm) (h.2.2.2.1 q hq), fun w hw => va_tabs (exW_k w hw).1 hv.symm (h.2.2.2.2 w hw)⟩
def rmx (d : Nat) : Room := { frames := d + 6, cells := 1, slots := 6, locals := 60 * d + 120 }
def PcX (E : tx_En) (av : List Value) (I : IM) (J : JM) (P : PM) : Array Value → State → Prop := va_Pc av (fun U => va_P E.1 vwCl (tx_W E I J P) U.heap ∧ va_K E.1 vwCl (tx_tys E.2.1) U ∧ va_D (fun _ => True) (tx_W E I J P) ∧ TX E U)
theorem PcX_blind (E : tx_En) (av : List Value) (I : IM) (J : JM) (P : PM) : FrameBlind (PcX E av I J P) := fun a U g mk q => by
  obtain ⟨q0, qP, qK, qD, qT⟩ := q
  exact ⟨q0, qP, va_K.moved (u := U) (U := U.calling g mk a) (Vm.Alike.refl U.vm) qK, qD, qT.same rfl rfl⟩
def XcM (E : tx_En) (X : Nat) (I : IM) (J : JM) (P : PM) : String → State → State → Prop := fun Ex st t => Ex = exC X ∧ va_P E.1 vwCl (tx_W E I J P) t.heap ∧ va_F (fun a => a ∈ E.2.2.2.2) st t
/-- a method's contract where it throws -/
def MtX (l : Launch) (E : tx_En) (d : Nat) (M : MR) (av : List Value) (I : IM) (J : JM) (P : PM) (X : Nat) (I' : IM) (J' : JM) (P' : PM) : Prop :=
  vx_Met l M.1 (wz M) (rmx d) (PcX E av I J P) (fun _ _ _ _ => False) (XcM E X I' J' P') 1 6 (fun q => q ∈ E.2.2.2.2)
abbrev QX (E : tx_En) (X : Nat) (I : IM) (J : JM) (P : PM) (below : List Frame) (args : Array Value) (s : State) : State → Prop := vx_MQ below (fun _ _ _ _ => False) (XcM E X I J P) args s 1 6 (fun q => q ∈ E.2.2.2.2)
theorem MtX.of {l : Launch} {E : tx_En} (hE : tx_ok E) {d : Nat} {M : MR} {av : List Value} {I I' : IM} {J J' : JM} {P P' : PM} {X : Nat} (hM : MF M) (hlen : (entl av).length ≤ M.2.2.1)
    (body : ∀ p e s m args below meth c, Cx E M.2.2.2.2.1 M.2.1 M.2.2.1 p s m args meth c → (∀ x ∈ c.exceptionTable.toList, False) → TX E s → Zt p l e (rmx d) s m args below meth c E (fun q => q ∈ E.2.2.2.2) s.heap 0 0 M.2.2.1 (QX E X I' J' P' below args s) 0 (entL av M.2.2.1) [] I J P) : MtX l E d M av I J P X I' J' P' := by
  refine vx_ofW (cc := M.2.1) (maxL := M.2.2.1) (ret := M.2.2.2.1) hM.1 rfl ?_
  intro p e s m args below meth c s₁ B hml hno hv
  obtain ⟨rfl, hP, hK, hD, hT⟩ := hv
  have hts := atoms_spec (ws := wz M) B.pre
  have hown : s.vm.findClass M.1.cls = some m.cls := findClass_of_methodNamed B.named
  rw [tx_Rc hM] at hown
  rw [lg_entry_eq]
  exact body p e s m _ below meth c ⟨B.exec, B.bytes, hml, hown, fun w hw => hts w (List.mem_cons_of_mem _ hw), B.notSynchronized, hK, hE⟩ hno hT s.heap [] _ ⟨hP, tx_D_L hD, va_S.rf⟩ (Lv_entry av hlen)
section SGX
variable {p : Program} {l : Launch} {e : Env} {R : Room} {s : State} {m : MethodId} {args : Array Value} {below : List Frame} {meth : Method} {c : Code} {Q : State → Prop}
variable {E : tx_En} {H : Heap} {locs : List Loc} {cc : ByteArray} {nL o pc len : Nat} {st' : List Value} {ls : Array Slot} {ll : List (Option Value)} {I I' : IM} {J J' : JM} {P P' : PM}
set_option maxHeartbeats 4000000 in
/-- a call that throws, in a method without handlers -/
theorem sg_callX (C : Cx E o cc nL p s m args meth c) (hno : ∀ x ∈ c.exceptionTable.toList, False) (hT : TX E s) (hL : Lv ls nL ll) {n d b X : Nat} {M : MR} {As : List Value} (hR : d + 7 ≤ R.frames ∧ 60 * d + 160 ≤ R.locals ∧ 1 ≤ R.cells ∧ 6 ≤ R.slots) (hd : decode cc pc = .ok (.invokevirtual n, 3)) (hm : mres o n = some M) (hs : M.2.2.2.2.2.2 = false) (hn : As.length = M.2.2.2.2.2.1) (hSb : E.2.2.1 b = M.2.2.2.2.1) (h10 : E.2.2.1 b < 10) (hst : (st'.map fun v => v.category).sum ≤ 8) (hM : MtX l E d M (.ref b :: As) I J P X I' J' P') (hW : Wd E (fun q => q ∈ E.2.2.2.2) s.heap I J P H locs) : W p l e R s m args below meth c H locs 0 0 (QX E X I' J' P' below args s) (F0 m pc ls (As.reverse ++ .ref b :: st')) := by
  obtain ⟨hx, hb, hml, hown, hts, hlocks, hK, hE⟩ := C
  obtain ⟨g1, g2⟩ := mt_ok o _ (tb_res hm)
  dsimp only at g1 g2
  obtain ⟨f1, f2, f3, f4, f5, f6, f7, f8, f9, f10⟩ := id g2
  obtain ⟨f7a, f7b⟩ := f7 hs
  obtain ⟨q0, hq0⟩ := tx_at (I := I) (J := J) (P := P) hE (show E.2.2.1 b < 15 by omega)
  rw [tx_cell_o rfl h10] at hq0
  have hcls : M.1.cls = tx_R (E.2.2.1 b) := by rw [tx_Rc g2, hSb]
  have hr := vx_runV (C := M.1.cls) (Ts := tz) (H := H) (locs := locs) (cells := 0) (slots := 0) (g := F0 m pc ls (As.reverse ++ .ref b :: st')) (rest := st') (e := e) (below := below) (meth := meth) ⟨hx, hb, hml, hown, hts⟩ hM (cwV M.2.2.2.2.2.1 hts (wsV_g g1 f7a f7b f3 (wz_g g2)) rfl rfl rfl ⟨rfl, f4.1, f4.2, f5⟩ ⟨by show d + 6 + 1 ≤ R.frames; omega, by show 8 + (M.2.2.1 + 11) + (60 * d + 120) ≤ R.locals; omega⟩) ⟨PcX_blind _ _ _ _ _, by rw [hcls]; exact va_recv hK hW.1 (tx_cl _ h10) hq0, fun U hU hWu => ⟨rfl, by rw [hU]; exact hW.1, va_K.moved hWu.alike hK, hW.2.1.weaken (fun _ _ _ _ => trivial), hT.on (fun q h1 h2 => by rw [hU]; exact hW.2.2.2.1 q h1 h2) hWu⟩⟩ rfl hn hL.2.1 rfl (lv_room hst) hd ⟨by omega, by omega⟩
  intro T hT' X0
  rcases hr T hT' X0 with ⟨v, st₀, t, T', L, -, -, -, -, -, hf, -⟩ | ⟨q, st₀, t, T', L, Ex, ce, h0, X', hL', e1, e2, ⟨rfl, hP1, hz, hk⟩, hce, hcv, hcl, st⟩
  · exact hf.elim
  · rw [h0] at hz hk
    obtain ⟨t2, a1, b1⟩ := vx_out (Qc := fun _ _ _ _ => False) (XC := XcM E X I' J' P') (pc := pc) (ls := ls) (rest := st') (H := T'.heap) (locs := locs ++ L) (cells := 0 + 1) (slots := 0 + 6) (mc := 1) (ms := 6) (free := fun q => q ∈ E.2.2.2.2) (fun x hx => (hno x hx).elim) hlocks (by rw [e1]; exact hce) hcv hcl (fun t3 ht3 _ => ⟨rfl, by rw [ht3, e1]; exact hP1, by rw [ht3, e1]; exact Nat.le_trans hW.2.2.1 hz, fun q h1 h2 => by
        rw [ht3, e1, hk q (Nat.lt_of_lt_of_le h1 hW.2.2.1) h2]
        exact hW.2.2.2.1 q h1 h2⟩) (fun z hz => by
        rcases List.mem_append.mp hz with h | h
        · exact hW.2.2.2.2 z h
        · exact hL' z h) (Nat.le_refl _) (Nat.le_refl _) T' rfl X'
    exact ⟨t2, st.trans a1, b1⟩
/-- what a throw's place needs of the tables -/
def ThW (X ik ic : Nat) : Prop := tbG (.classLink RX8 ik (exC X)) ∧ tbG (.initialized (exC X)) ∧ (∀ w ∈ vx_atS RX8 ic (exC X) exM, tbG w ∨ w ∈ exW) ∧ Bundle.fit (exC X) = true
theorem tbG_ot {w : Cond} (h : tbG w) : vx_ot w = true := by
  unfold vx_ot
  rw [h.2, Bool.or_true]
theorem exM_fit : ∀ n ∈ exM, Bundle.fit n = true := List.forall_mem_cons.mpr ⟨by decide +kernel, List.forall_mem_cons.mpr ⟨by decide +kernel, fun _ h => absurd h List.not_mem_nil⟩⟩
set_option maxHeartbeats 4000000 in
theorem sg_newS (C : Cx E 8 cc nL p s m args meth c) (hl : l.stackTraces = false) (hno : ∀ x ∈ c.exceptionTable.toList, False) (hT : TX E s) (hL : Lv ls nL ll) {X ik ic is : Nat} {text : String} (hw : ThW X ik ic) (hi : (is, text) ∈ exS) (hst : (st'.map fun v => v.category).sum ≤ 8) (hR : 6 ≤ R.frames ∧ 100 ≤ R.locals ∧ 1 ≤ R.cells ∧ 6 ≤ R.slots)
    (d0 : decode cc pc = .ok (.new ik, 3)) (d3 : decode cc (pc + 3) = .ok (.dup, 1)) (d4 : decode cc (pc + 4) = .ok (.ldc is, 2)) (d6 : decode cc (pc + 6) = .ok (.invokespecial ic, 3)) (d9 : decode cc (pc + 9) = .ok (.athrow, 1))
    (hW : Wd E (fun q => q ∈ E.2.2.2.2) s.heap I J P H locs) : W p l e R s m args below meth c H locs 0 0 (QX E X I J P below args s) (F0 m pc ls st') := by
  obtain ⟨hx, hb, hml, hown, hts, hlocks, hK, hE⟩ := C
  obtain ⟨w1, w2, w3, w4⟩ := hw
  obtain ⟨sa, hsa⟩ := hT.2.2.1 _ hi
  refine vx_throwS (names := exM) (A := fun q => q ∈ E.2.2.2.2) hx hb hl hown w4 exM_fit (hts _ (tz_mem w1)) (hts _ (tz_mem w2)) hsa (fun w hw => (w3 w hw).elim (fun h => hts _ (tz_mem h)) (fun h => va_tabs (exW_k w h).1 rfl (hT.2.2.2.2 w h))) (fun w hw => ?_) hT.1 hT.2.1 hW.2.2 (by rw [hL.2.1, hml]) d0 d3 d4 d6 d9 (fun x hx => (hno x hx).elim) (by show 2 + 3 < R.frames; omega) (by show _ + (13 * (2 + 1) + 43) ≤ R.locals; omega) (by omega) (by omega) hlocks (fun t _ h1 h2 => ⟨rfl, ?_, ?_⟩) (fun z hz => hW.2.2.2.2 z hz) (Nat.le_refl _) (Nat.le_refl _)
  · rcases List.mem_cons.mp hw with rfl | hw
    · exact tbG_ot w1
    · rcases List.mem_cons.mp hw with rfl | hw
      · exact tbG_ot w2
      · exact (w3 w hw).elim tbG_ot (fun h => by unfold vx_ot; rw [(exW_k w h).1, Bool.true_or])
  · exact hW.1.kept (fun k q hk => h2 _ (vx_lt hW.1 hk))
  · exact ⟨Nat.le_trans hW.2.2.1 h1, fun q g1 g2 => by rw [h2 q (Nat.lt_of_lt_of_le g1 hW.2.2.1)]; exact hW.2.2.2.1 q g1 g2⟩
set_option maxHeartbeats 4000000 in
theorem sg_newW (C : Cx E 8 cc nL p s m args meth c) (hl : l.stackTraces = false) (hno : ∀ x ∈ c.exceptionTable.toList, False) (hT : TX E s) (hL : Lv ls nL ll) {X ik ic is : Nat} {text : String} (hw : ThW X ik ic) (hi : (is, text) ∈ exS) (hst : (st'.map fun v => v.category).sum ≤ 8) (hR : 6 ≤ R.frames ∧ 100 ≤ R.locals ∧ 1 ≤ R.cells ∧ 6 ≤ R.slots)
    (d0 : decode cc pc = .ok (.new ik, 3)) (d3 : decode cc (pc + 3) = .ok (.dup, 1)) (d4 : decode cc (pc + 4) = .ok (.ldc_w is, 3)) (d6 : decode cc (pc + 7) = .ok (.invokespecial ic, 3)) (d9 : decode cc (pc + 10) = .ok (.athrow, 1))
    (hW : Wd E (fun q => q ∈ E.2.2.2.2) s.heap I J P H locs) : W p l e R s m args below meth c H locs 0 0 (QX E X I J P below args s) (F0 m pc ls st') := by
  obtain ⟨hx, hb, hml, hown, hts, hlocks, hK, hE⟩ := C
  obtain ⟨w1, w2, w3, w4⟩ := hw
  obtain ⟨sa, hsa⟩ := hT.2.2.1 _ hi
  refine vx_throwSW (names := exM) (A := fun q => q ∈ E.2.2.2.2) hx hb hl hown w4 exM_fit (hts _ (tz_mem w1)) (hts _ (tz_mem w2)) hsa (fun w hw => (w3 w hw).elim (fun h => hts _ (tz_mem h)) (fun h => va_tabs (exW_k w h).1 rfl (hT.2.2.2.2 w h))) (fun w hw => ?_) hT.1 hT.2.1 hW.2.2 (by rw [hL.2.1, hml]) d0 d3 d4 d6 d9 (fun x hx => (hno x hx).elim) (by show 2 + 3 < R.frames; omega) (by show _ + (13 * (2 + 1) + 43) ≤ R.locals; omega) (by omega) (by omega) hlocks (fun t _ h1 h2 => ⟨rfl, ?_, ?_⟩) (fun z hz => hW.2.2.2.2 z hz) (Nat.le_refl _) (Nat.le_refl _)
  · rcases List.mem_cons.mp hw with rfl | hw
    · exact tbG_ot w1
    · rcases List.mem_cons.mp hw with rfl | hw
      · exact tbG_ot w2
      · exact (w3 w hw).elim tbG_ot (fun h => by unfold vx_ot; rw [(exW_k w h).1, Bool.true_or])
  · exact hW.1.kept (fun k q hk => h2 _ (vx_lt hW.1 hk))
  · exact ⟨Nat.le_trans hW.2.2.1 h1, fun q g1 g2 => by rw [h2 q (Nat.lt_of_lt_of_le g1 hW.2.2.1)]; exact hW.2.2.2.1 q g1 g2⟩
end SGX
/-- words by their places in the tables -/
theorem tb_pl {ws : List Cond} (ps : List Nat) (hp : ws = ps.filterMap (fun i => tables_1[i]?)) (h : ws.all (fun w => goodWord w || decide (w ∈ exW)) = true) : ∀ w ∈ ws, tbG w ∨ w ∈ exW := by
  intro w hw
  have h1 := List.all_eq_true.mp h w hw
  rw [Bool.or_eq_true, decide_eq_true_eq] at h1
  refine h1.elim (fun h2 => Or.inl ⟨?_, h2⟩) Or.inr
  rw [hp] at hw
  obtain ⟨i, -, hi⟩ := List.mem_filterMap.mp hw
  exact List.mem_append_right _ (List.mem_of_getElem? hi)
theorem thw_0 : ThW 0 284 288 := ⟨⟨List.mem_append_right _ (List.mem_of_getElem? (i := 677) (by decide +kernel)), by decide +kernel⟩, ⟨List.mem_append_right _ (List.mem_of_getElem? (i := 17) (by decide +kernel)), by decide +kernel⟩, tb_pl [11, 503, 512, 519, 522, 524, 504, 505, 29, 30, 506, 511, 520, 540, 493, 541, 495, 542, 497, 507, 509, 499, 536, 537, 539, 499, 650, 651, 652, 530, 485, 530, 531, 532, 533, 487, 533, 534, 535, 536, 489, 687, 678, 679, 680, 517, 681, 682, 683, 684, 502, 501, 685] (by decide +kernel) (by decide +kernel), by decide +kernel⟩
theorem thw_1 : ThW 1 93 97 := ⟨⟨List.mem_append_right _ (List.mem_of_getElem? (i := 481) (by decide +kernel)), by decide +kernel⟩, ⟨List.mem_append_right _ (List.mem_of_getElem? (i := 14) (by decide +kernel)), by decide +kernel⟩, tb_pl [11, 503, 512, 519, 522, 524, 504, 505, 29, 30, 506, 511, 520, 540, 493, 541, 495, 542, 497, 507, 509, 499, 536, 537, 539, 499, 527, 528, 529, 530, 485, 530, 531, 532, 533, 487, 533, 534, 535, 536, 489, 526, 482, 483, 490, 491, 492, 494, 496, 498, 502, 501, 500] (by decide +kernel) (by decide +kernel), by decide +kernel⟩
theorem thw_2 : ThW 2 69 73 := ⟨⟨List.mem_append_right _ (List.mem_of_getElem? (i := 552) (by decide +kernel)), by decide +kernel⟩, ⟨List.mem_append_right _ (List.mem_of_getElem? (i := 15) (by decide +kernel)), by decide +kernel⟩, tb_pl [11, 503, 512, 519, 522, 524, 504, 505, 29, 30, 506, 511, 520, 540, 493, 541, 495, 542, 497, 507, 509, 499, 536, 537, 539, 499, 563, 564, 565, 530, 485, 530, 531, 532, 533, 487, 533, 534, 535, 536, 489, 562, 553, 554, 555, 516, 556, 557, 558, 559, 502, 501, 560] (by decide +kernel) (by decide +kernel), by decide +kernel⟩
theorem thw_4 : ThW 4 263 267 := ⟨⟨List.mem_append_right _ (List.mem_of_getElem? (i := 966) (by decide +kernel)), by decide +kernel⟩, ⟨List.mem_append_right _ (List.mem_of_getElem? (i := 22) (by decide +kernel)), by decide +kernel⟩, tb_pl [11, 503, 512, 519, 522, 524, 504, 505, 29, 30, 506, 511, 520, 540, 493, 541, 495, 542, 497, 507, 509, 499, 536, 537, 539, 499, 949, 950, 951, 530, 485, 530, 531, 532, 533, 487, 533, 534, 535, 536, 489, 968, 948, 959, 960, 514, 954, 955, 957, 953, 502, 501, 952] (by decide +kernel) (by decide +kernel), by decide +kernel⟩

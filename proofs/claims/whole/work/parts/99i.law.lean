/-! THE CLAIM OUT OF ONE WALK OF THE LAW'S BODY. Your part is whole_start (and what it stands on); all else here is the same for every law, but numbers. -/
def R_law : String := "TaxWorkbenchLaw"
def lw_P (b : Addr) (xs : List Int32) (args : Array Value) (s : State) : Prop := args = #[.ref b] ∧ s.IntsAt b xs ∧ xs.length ≤ 2560 ∧ (Jvm.Cond.and given_1 narrow_1).before args s = true
/-- what a walk over the start with the record d0 says of its end, said of the start itself -/
theorem lw_closed {s t : State} {o : Outcome} {d0 : Drawn} {L : List Loc} {k n : Nat} (hd0 : s.drawn.sameBut d0 lw_cs) (hv : ∃ v, o = .returned v) (hW : (s.setDrawn d0).WarmedH t.vm) (hs : (s.setDrawn d0).sameButNew ({ t with vm := s.vm } : State) L k n) : State.butDraws s t lw_cs (fun t1 => Framed s o t1 L k n) := by
  have h2 : t.drawn = d0 := congrArg State.drawn hs.1
  refine ⟨⟨hv, hW, State.sameButNew.setDrawn hs s.drawn⟩, ?_, by decide⟩
  rw [h2]
  exact hd0
def lw_Q (_ : Array Value) (s : State) (o : Outcome) (t : State) : Prop := o = .returned (some (.int 1)) ∧ State.butDraws s t lw_cs (fun t1 => Framed s o t1 [] 603072 7194730)
def lw_Z (below : List Frame) (a : Array Value) (s : State) : State → Prop := fun t => ∃ o, t.status = .running ∧ Ended t below o ∧ lw_Q a s o t
/-- the law's own end, with 1 on the stack, nothing written that was there before, its room as the claim has it; d0: the record of draws at this point (at the entry s.drawn: begin with 'refine W.base ?_' and 'have hd0 := Drawn.sameBut.refl s.drawn lw_cs') -/
theorem lw_ret {p : Program} {l : Launch} {e : Env} {s : State} {m : MethodId} {below : List Frame} {meth : Method} {c : Code} {b : Nat} {d0 : Drawn} (hd0 : s.drawn.sameBut d0 lw_cs) (hx : p.tables.exec = Jvm.exec) (hb : c.code = code) (hr : meth.sig.returnType = ret) (hlocks : meth.locks = false) {pc : Nat} {H : Heap} {ls : Array Slot} (hdg : decode code pc = .ok (.ireturn, 1)) : W p l e room_1 (s.setDrawn d0) m #[Value.ref b] below meth c H [] 603072 7194730 (lw_Z below #[Value.ref b] s) (F0 m pc ls [.int 1]) := by
  intro T hT X
  obtain ⟨fs, hret, hrun, hended, hW, hframe⟩ := X.leave (v := some (.int 1)) (hlocks := hlocks) (fun h => by rw [hr] at h; cases h)
  have hmeth' : T.vm.method? m = some meth := X.method'
  refine ⟨T.setFrames fs, ?_, .returned (some (.int 1)), hrun, hended, rfl, lw_closed hd0 ⟨_, rfl⟩ hW hframe⟩
  jvm_step X.here [X.here.top, hx, hb, hdg, hmeth', hr, ret, narrow_b1]
  (try refine ⟨rfl, ?_⟩); (try refine ⟨rfl, ?_⟩)
  first | (intro acts; rw [hret _ acts rfl rfl rfl]) | rw [hret _ _ rfl rfl rfl]
  exact Steps.refl _
/-- what holds at the law's entry: the machine, the code, the tables' words (any of lw_tbl by 'hts w (by decide +kernel)'), the script of L ints xs at the cell b, what the Statement gives of the start (any of its parts by flat_of_before) -/
def lw_At (p : Program) (s : State) (m : MethodId) (meth : Method) (c : Code) (b L : Nat) (xs : Nat → Int32) : Prop :=
  p.tables.exec = Jvm.exec ∧ c.code = code ∧ meth.sig.returnType = ret ∧ c.maxLocals = 10 ∧ s.vm.findClass R_law = some m.cls ∧ (∀ w ∈ lw_tbl, w.before #[Value.ref b] s = true) ∧ va_X b L xs s s.heap ∧ b < s.heap.size ∧ meth.locks = false ∧ (Jvm.Cond.and given_1 narrow_1).before #[Value.ref b] s = true

def E0 (D : va_G) (G : tx_G) (x : Nat) : tx_En := (D, G, fun z => ((lAll[z - x]?).map Prod.fst).getD 99, fun z => ((lAll[z - x]?).map Prod.snd).getD 0, [])
theorem E0_sh (D : va_G) (G : tx_G) (x : Nat) : ShL (E0 D G x) x lAll := by
  intro k s n hk
  have e : x + k - x = k := Nat.add_sub_cancel_left ..
  refine ⟨?_, ?_⟩
  · show ((lAll[x + k - x]?).map Prod.fst).getD 99 = s
    rw [e, hk]
    rfl
  · show ((lAll[x + k - x]?).map Prod.snd).getD 0 = n
    rw [e, hk]
    rfl
theorem es_sh {E : tx_En} {a n : Nat} {ss : List (Nat × Nat)} (h : ShL E a ss) (hn : ss.length ≤ n) : ShL (Es E a n) a ss := by
  intro k s z hk
  have hlt := (List.getElem?_eq_some_iff.mp hk).1
  obtain ⟨h1, h2⟩ := h k s z hk
  exact ⟨(eS_in (Nat.le_add_right _ _) (by omega)).trans h1, h2⟩
theorem es_chg {E : tx_En} {A : Nat → Prop} {H0 H : Heap} {I I' : IM} {J : JM} {P : PM} {locs : List Loc} {a n : Nat} (hA : ∀ z, a ≤ z → A z) (hW : Wd (Es E a n) A H0 I J P H locs) (h : ∀ z, a ≤ z → z < a + n → I' z = I z) : Wd (Es E a n) A H0 I' J P H locs :=
  ⟨esP.mpr (fun z h1 h2 => by
    have h3 := esP.mp hW.1 z h1 h2
    unfold tx_cell at h3 ⊢
    rw [h z h1 h2]
    exact h3), es_D hA, hW.2.2⟩
theorem lAll_len : lAll.length = 319 := by decide +kernel
set_option maxRecDepth 100000 in
set_option maxHeartbeats 4000000 in
theorem law_start {p : Program} {e : Env} {s : State} {m : MethodId} {below : List Frame} {meth : Method} {c : Code} (l : Launch) (hflags : l.flags = flags0) {b L : Nat} {xs : Nat → Int32} (hLN : L ≤ 2560) (C0 : lw_At p s m meth c b L xs) : W p l e room_1 s m #[Value.ref b] below meth c s.heap [] 0 0 (lw_Z below #[Value.ref b] s) (entryFrame m ([Value.ref b] : List Value).toArray 10) := by
  obtain ⟨hx, hb, hr, hml, hown, hts, hX, hbl, hlocks, hgv⟩ := id C0
  obtain ⟨D, G, hK⟩ := st_K hts
  have hAO := st_AO hts
  have hA2 : ∀ q : Nat, s.heap.size ≤ q → s.heap.size ≤ q := fun q h => h
  have hSA := E0_sh D G s.heap.size
  have hS8 : ShL (E0 D G s.heap.size) s.heap.size lWb := shl_sub hSA (q := 0) (by decide +kernel)
  have hS9 : ShL (E0 D G s.heap.size) (s.heap.size + 303) lMd := shl_sub hSA (q := 303) (by decide +kernel)
  have C : ∀ n, Cx (Es (E0 D G s.heap.size) s.heap.size n) 10 cL_law 10 p s m #[Value.ref b] meth c := fun n => ⟨hx, hb, hml, hown, fun w hw => hts w (tz_of hw).1, hlocks, hK, es_ok _ _ _⟩
  have hL0 := Lv_entry [Value.ref b] (n := 10) (show 1 ≤ 10 by decide)
  rw [lg_entry_eq]
  generalize (lg_sl [Value.ref b] ++ List.replicate (10 - (lg_sl [Value.ref b]).length) Slot.unset).toArray = ls at hL0 ⊢
  have hL' : Lv ls 10 [some (.ref b), none, none, none, none, none, none, none, none, none] := hL0
  have hb0 : ∀ (α : Type) (k : Nat), ([] : DL α).getD k [] = [] := fun α k => by cases k <;> rfl
  have hW : Wd (Es (E0 D G s.heap.size) s.heap.size 0) (fun q => s.heap.size ≤ q) s.heap (IL s.heap.size []) J0 (PL s.heap.size []) s.heap [] := ⟨fun k q hk => (by cases k <;> cases hk), ⟨fun i j p q hk => (by cases i <;> cases hk), fun k q hk => (by cases k <;> cases hk)⟩, va_S.rf⟩
  refine gr_newO (n := 0) (k := 8) (C 0) (by decide) rfl (hS8 0 8 0 rfl).1 (IL_end (by decide)) rfl (PL_end (by decide)) ⟨List.mem_append_right _ (List.mem_of_getElem? (i := 23) (by decide +kernel)), by decide +kernel⟩ ⟨List.mem_append_right _ (List.mem_of_getElem? (i := 24) (by decide +kernel)), by decide +kernel⟩ ⟨List.mem_append_right _ (List.mem_of_getElem? (i := 1) (by decide +kernel)), by decide +kernel⟩ hA2 ⟨Nat.le_of_ble_eq_true rfl, Nat.le_of_ble_eq_true rfl⟩ dL_law_0 hW (fun H hz _ hW => ?_)
  refine sg_alu (C 1) dL_law_3 rfl rfl ?_
  refine gr_ctor (n := 0) (k := 302) (sl := 1709) (d := 9) (C 1) hAO hL' CF8 (cm8 hS8) rfl (IL_end (by decide)) rfl (PL_end (by decide)) ⟨List.mem_append_right _ (List.mem_of_getElem? (i := 25) (by decide +kernel)), by decide +kernel⟩ hA2 (Nat.le_of_ble_eq_true rfl) ⟨Nat.le_of_ble_eq_true rfl, Nat.le_of_ble_eq_true rfl⟩ ⟨Nat.le_of_ble_eq_true rfl, Nat.le_of_ble_eq_true rfl⟩ dL_law_4 hW (fun I1 J1 P1 H locs hF hW => ?_)
  obtain ⟨rfl, rfl, rfl⟩ := hF
  have hW : Wd (Es (E0 D G s.heap.size) s.heap.size 303) (fun q => s.heap.size ≤ q) s.heap (IL s.heap.size ([] ++ wI8)) J0 (PL s.heap.size ([] ++ wP8.sh 0)) H locs := by
    have e1 : mrg (s.heap.size + 0) (IL s.heap.size []) (IL (s.heap.size + 0) wI8) = IL s.heap.size ([] ++ wI8) := IL_mrg (n := 0) rfl
    have e2 : mrg (s.heap.size + 0) (PL s.heap.size []) (PL (s.heap.size + 0) wP8) = PL s.heap.size ([] ++ wP8.sh 0) := PL_mrg (n := 0) rfl
    rw [e1, e2, J0_mrg] at hW
    exact hW
  refine sg_sto (C 303) dL_law_7 rfl hL' rfl (Nat.le_of_ble_eq_true rfl) (fun ls hL => ?_)
  have hL : Lv ls 10 [some (.ref b), some (.ref s.heap.size), none, none, none, none, none, none, none, none] := hL
  refine gr_newO2 (n := 303) (k := 9) (C 303) (by decide) (by decide) rfl (hSA 303 9 0 (by decide +kernel)).1 (IL_end (by decide +kernel)) rfl (PL_end (by decide +kernel)) ⟨List.mem_append_right _ (List.mem_of_getElem? (i := 989) (by decide +kernel)), by decide +kernel⟩ ⟨List.mem_append_right _ (List.mem_of_getElem? (i := 990) (by decide +kernel)), by decide +kernel⟩ ⟨List.mem_append_right _ (List.mem_of_getElem? (i := 10) (by decide +kernel)), by decide +kernel⟩ hA2 ⟨Nat.le_of_ble_eq_true rfl, Nat.le_of_ble_eq_true rfl⟩ dL_law_8 hW (fun H hW => ?_)
  refine sg_alu (C 304) dL_law_11 rfl rfl ?_
  refine gr_ctor (n := 303) (k := 14) (sl := 1235) (d := 1) (C 304) hAO hL CF9 (cm9 hS9) rfl (IL_end (by decide +kernel)) rfl (PL_end (by decide +kernel)) ⟨List.mem_append_right _ (List.mem_of_getElem? (i := 991) (by decide +kernel)), by decide +kernel⟩ hA2 (Nat.le_of_ble_eq_true rfl) ⟨Nat.le_of_ble_eq_true rfl, Nat.le_of_ble_eq_true rfl⟩ ⟨Nat.le_of_ble_eq_true rfl, Nat.le_of_ble_eq_true rfl⟩ dL_law_12 hW (fun I1 J1 P1 H locs hF hW => ?_)
  obtain ⟨rfl, rfl, rfl⟩ := hF
  have hW : Wd (Es (E0 D G s.heap.size) s.heap.size 318) (fun q => s.heap.size ≤ q) s.heap (IL s.heap.size sI) J0 (PL s.heap.size sP) H locs := by
    have e1 : mrg (s.heap.size + 303) (IL s.heap.size ([] ++ wI8)) (IL (s.heap.size + 303) fI9) = IL s.heap.size sI := IL_mrg (n := 303) (by decide +kernel)
    have e2 : mrg (s.heap.size + 303) (PL s.heap.size ([] ++ wP8.sh 0)) (PL (s.heap.size + 303) fP9) = PL s.heap.size sP := PL_mrg (n := 303) (by decide +kernel)
    rw [e1, e2, J0_mrg] at hW
    exact hW
  refine sg_sto (C 318) dL_law_15 rfl hL rfl (Nat.le_of_ble_eq_true rfl) (fun ls hL => ?_)
  have hL : Lv ls 10 [some (.ref b), some (.ref s.heap.size), some (.ref (s.heap.size + 303)), none, none, none, none, none, none, none] := hL
  refine sg_alu (C 318) dL_law_16 rfl rfl ?_
  refine gr_newJ2 (n := 318) (N' := 1) (C 318) (by decide) rfl (hSA 318 11 1 (by decide +kernel)).1 (hSA 318 11 1 (by decide +kernel)).2 rfl cArJ hA2 (by decide) (by decide) (by decide) ⟨Nat.le_of_ble_eq_true rfl, Nat.le_of_ble_eq_true rfl⟩ dL_law_17 hW (fun H hW => ?_)
  refine sg_sto (C 319) dL_law_19 rfl hL rfl (Nat.le_of_ble_eq_true rfl) (fun ls hL => ?_)
  have hL : Lv ls 10 [some (.ref b), some (.ref s.heap.size), some (.ref (s.heap.size + 303)), some (.ref (s.heap.size + 318)), none, none, none, none, none, none] := hL
  refine sg_alu (C 319) dL_law_20 rfl rfl ?_
  refine gr_size (fun hup => ?_)
  have hlow := gr_low (n := 319) (by decide) hW
  have hH : H.size = s.heap.size + 319 := Nat.le_antisymm hup hlow
  refine va_newaK (atype := .double) (N := 1) hx hb (hts _ (List.mem_append_right _ (List.mem_of_getElem? (i := 1407) (by decide +kernel)))) rfl dL_law_21 rfl (by decide) (by decide) (by decide) (Nat.le_of_ble_eq_true rfl) (Nat.le_of_ble_eq_true rfl) hH (fun H1 cA e1 z1 o1 hAr hNm => ?_)
  have hA3 : ∀ z : Nat, s.heap.size ≤ z → (fun q => s.heap.size ≤ q) z := fun z h => h
  have hW1 : Wd (Es (E0 D G s.heap.size) s.heap.size 319) (fun q => s.heap.size ≤ q) s.heap (IL s.heap.size sI) J0 (PL s.heap.size sP) H1 locs := ⟨hW.1.kept (fun k q hq => o1 q.1 (by have h9 := (hW.1 k q hq).lt; rw [hH] at h9; exact h9)), hW.2.1, by rw [z1]; omega, fun q h1 h2 => (o1 q (by omega)).trans (hW.2.2.2.1 q h1 h2), hW.2.2.2.2⟩
  have hW2 := es_chg (I' := Iini s.heap.size b xs) hA3 hW1 (fun z h1 h2 => by
    unfold Iini
    rw [if_neg (by omega)])
  have hWL : WL (Es (E0 D G s.heap.size) s.heap.size 319) s b L xs (s.heap.size + 319) (Iini s.heap.size b xs) J0 (PL s.heap.size sP) H1 locs :=
    ⟨hW2, hX.kept (hW1.2.2.2.1 b hbl (Nat.not_le.mpr hbl)), ⟨_, _, e1, hAr 1 _, by first | (intro h; cases h; done) | simp [arrV], arrV_size _ _ _, arrV_read _ _ (by decide)⟩, ⟨fun h => by have h9 := List.mem_range'_1.mp h; omega, fun h => by have h9 := List.mem_range'_1.mp h; omega⟩, by rw [z1]; omega, by rw [z1]; omega⟩
  show W p l e room_1 s m #[Value.ref b] below meth c H1 locs _ _ (lw_Z below #[Value.ref b] s) (F0 m 23 ls [.ref (s.heap.size + 319)])
  refine sg_sto (C 319) dL_law_23 rfl hL rfl (Nat.le_of_ble_eq_true rfl) (fun ls hL => ?_)
  have hL : Lv ls 10 [some (.ref b), some (.ref s.heap.size), some (.ref (s.heap.size + 303)), some (.ref (s.heap.size + 318)), some (.ref (s.heap.size + 319)), none, none, none, none, none] := hL
  refine sg_alu (C 319) dL_law_25 rfl rfl ?_
  refine sg_sto (C 319) dL_law_26 rfl hL rfl (Nat.le_of_ble_eq_true rfl) (fun ls hL => ?_)
  have hL : Lv ls 10 [some (.ref b), some (.ref s.heap.size), some (.ref (s.heap.size + 303)), some (.ref (s.heap.size + 318)), some (.ref (s.heap.size + 319)), some (.int 0), none, none, none, none] := hL
  rw [show (0 : Int32) = nI 0 from nI_0.symm] at hL
  refine sg_lod (C 319) dL_law_28 rfl hL rfl rfl ?_
  refine sg_lod (C 319) dL_law_30 rfl hL rfl rfl ?_
  have hST : ShL (Es (E0 D G s.heap.size) s.heap.size 319) s.heap.size lAll := es_sh hSA (by rw [lAll_len]; decide)
  have hEA : ∀ q : Nat, q ∈ (Es (E0 D G s.heap.size) s.heap.size 319).2.2.2.2 → s.heap.size ≤ q := fun q h => (List.mem_range'_1.mp h).1
  refine law_loop (CC := 603072) (SS := 7194730) (b := b) (L := L) (xs := xs) (od := s.heap.size + 319) (x := s.heap.size) (m9 := s.heap.size + 303) (w := s.heap.size + 318) (C 319) (st_TX hts hgv (fun a h1 h2 => absurd (hEA a h2) (Nat.not_le.mpr h1))) hEA (Nat.le_add_right _ _) hbl (by unfold Launch.stackTraces; rw [hflags]; decide) ⟨Nat.le_of_ble_eq_true rfl, Nat.le_of_ble_eq_true rfl⟩ ⟨Nat.le_refl _, Nat.le_refl _⟩ hLN (fun H locs ls k n hl hk hn => va_forget hl (W.widen hk hn ?_)) 512 0 _ _ (Nat.zero_le _) (by omega) (by exact Nat.le_of_ble_eq_true rfl) (by exact Nat.le_of_ble_eq_true rfl) _ _ _ _ _ _ _ _ _ _ hWL (iv_start hST hbl) hL
  exact lw_ret (d0 := s.drawn) (Drawn.sameBut.refl s.drawn lw_cs) hx hb hr hlocks dL_law_2233

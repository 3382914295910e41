/-! the law's own methods, which catch; the script's cell; calls in the law's frame -/
/-- facts of a method with handlers -/
def WF (M : MR) (hh : List (Nat × Nat × Nat × Nat)) : Prop := plainName M.1.cls = true ∧ tbG (.codeWith M.1 M.2.1 M.2.2.1 M.2.2.2.1 hh) ∧ tbG (.initialized M.1.cls) ∧ (M.1.cls ≠ "java/lang/invoke/MethodHandle" ∧ M.1.cls ≠ "java/lang/invoke/VarHandle") ∧ (parseMethodDescriptor M.1.desc).map (fun d => d.parameters.length) = some M.2.2.2.2.2.1 ∧ M.2.2.1 ≤ 20 ∧ tbG (.static M.1) ∧ M.1.cls = RL ∧ M.2.2.2.2.1 = 10
def wzW (M : MR) (hh : List (Nat × Nat × Nat × Nat)) : List Cond := .codeWith M.1 M.2.1 M.2.2.1 M.2.2.2.1 hh :: tz
theorem wzW_g {M : MR} {hh : List (Nat × Nat × Nat × Nat)} (h : WF M hh) : ∀ w ∈ wzW M hh, tbG w := by
  intro w hw
  rcases List.mem_cons.mp hw with rfl | hw
  · exact h.2.1
  · exact tz_of hw
def rmw : Room := { frames := 18, cells := 1, slots := 6, locals := 1300 }
/-- the contract of one of the law's own methods: it returns, with one new cell at most -/
def MtW (l : Launch) (E : tx_En) (M : MR) (hh : List (Nat × Nat × Nat × Nat)) (av : List Value) (I : IM) (J : JM) (P : PM) (r : Option Value) (I' : IM) (J' : JM) (P' : PM) : Prop :=
  vx_Met l M.1 (wzW M hh) rmw (PcX E av I J P) (QcM E r I' J' P') (fun _ _ _ => False) 1 6 (fun q => q ∈ E.2.2.2.2)
abbrev QW (E : tx_En) (r : Option Value) (I : IM) (J : JM) (P : PM) (below : List Frame) (args : Array Value) (s : State) : State → Prop := vx_MQ below (QcM E r I J P) (fun _ _ _ => False) args s 1 6 (fun q => q ∈ E.2.2.2.2)
theorem MtW.of {l : Launch} {E : tx_En} (hE : tx_ok E) {M : MR} {hh : List (Nat × Nat × Nat × Nat)} {av : List Value} {I I' : IM} {J J' : JM} {P P' : PM} {r : Option Value} (hM : WF M hh) (hlen : (entl av).length ≤ M.2.2.1)
    (body : ∀ p e s m args below meth c, Cx E 10 M.2.1 M.2.2.1 p s m args meth c → c.exceptionTable.toList = tableOf hh → meth.sig.returnType = M.2.2.2.1 → TX E s → Zt p l e rmw s m args below meth c E (fun q => q ∈ E.2.2.2.2) s.heap 0 0 M.2.2.1 (QW E r I' J' P' below args s) 0 (entL av M.2.2.1) [] I J P) : MtW l E M hh av I J P r I' J' P' := by
  refine vx_ofWH (cc := M.2.1) (maxL := M.2.2.1) (ret := M.2.2.2.1) (hh := hh) hM.1 rfl ?_
  intro p e s m args below meth c s₁ B hml hv
  obtain ⟨rfl, hP, hK, hD, hT⟩ := hv
  have hts := atoms_spec (ws := wzW M hh) B.pre
  have hown : s.vm.findClass M.1.cls = some m.cls := findClass_of_methodNamed B.named
  rw [hM.2.2.2.2.2.2.2.1] at hown
  rw [lg_entry_eq]
  exact body p e s m _ below meth c ⟨B.exec, B.bytes, hml, hown, fun w hw => hts w (List.mem_cons_of_mem _ hw), B.notSynchronized, hK, hE⟩ (vx_table (x := M.1) B (hts _ List.mem_cons_self)) B.returns hT s.heap [] _ ⟨hP, tx_D_L hD, va_S.rf⟩ (Lv_entry av hlen)
section SGW
variable {p : Program} {l : Launch} {e : Env} {R : Room} {s : State} {m : MethodId} {args : Array Value} {below : List Frame} {meth : Method} {c : Code} {Q : State → Prop}
variable {E : tx_En} {A : Nat → Prop} {H0 H : Heap} {locs : List Loc} {cells slots : Nat} {cc : ByteArray} {nL o pc len : Nat} {st st' : List Value} {ls : Array Slot} {ll : List (Option Value)} {I I' : IM} {J J' : JM} {P P' : PM}
/-- the end of one of the law's own methods -/
theorem sg_endW {M : MR} {v : Int32} (C : Cx E 10 M.2.1 nL p s m args meth c) (hr : meth.sig.returnType = some .int) (hW : Wd E (fun q => q ∈ E.2.2.2.2) s.heap I J P H locs) (hc : cells ≤ 1 ∧ slots ≤ 6) (hd : decode M.2.1 pc = .ok (.ireturn, 1)) : W p l e R s m args below meth c H locs cells slots (QW E (some (.int v)) I J P below args s) (F0 m pc ls [.int v]) := by
  obtain ⟨hx, hb, hml, hown, hts, hlocks, hK, hE⟩ := C
  exact vx_ret (W.widen hc.1 hc.2 (W.iret hx hb hr (fun t ht _ => ⟨rfl, by rw [ht]; exact hW.1, hW.2.2.F ht⟩) hW.2.2.2.2 hd hlocks))
set_option maxHeartbeats 4000000 in
/-- a call that throws, caught: it goes on at the handler, with the exception alone on the stack -/
theorem sg_callC (C : Cx E 10 cc nL p s m args meth c) (hT : TX E s) (hL : Lv ls nL ll) {n d b X : Nat} {M : MR} {As : List Value} {hh pre suf : List (Nat × Nat × Nat × Nat)} {a0 b0 hpc ct : Nat} (htab : c.exceptionTable.toList = tableOf hh) (hsp : hh = pre ++ (a0, b0, hpc, ct) :: suf) (hpre : ∀ z ∈ pre, z.2.2.2 ≠ 0 ∧ ∃ Y, tbG (.classLink RL z.2.2.2 (exC Y)) ∧ (X, Y) ∈ exN) (hct : ct ≠ 0) (hlink : tbG (.classLink RL ct (exC X))) (hX : X < 5) (hcov : covers ⟨a0, b0, hpc, ct⟩ pc = true)
    (hR : d + 7 ≤ R.frames ∧ 60 * d + 160 ≤ R.locals ∧ cells + 1 ≤ R.cells ∧ slots + 6 ≤ R.slots) (hd : decode cc pc = .ok (.invokevirtual n, 3)) (hm : mres 10 n = some M) (hs : M.2.2.2.2.2.2 = false) (hn : As.length = M.2.2.2.2.2.1) (hSb : E.2.2.1 b = M.2.2.2.2.1) (h10 : E.2.2.1 b < 10) (hst : (st'.map fun v => v.category).sum ≤ 8) (hM : MtX l E d M (.ref b :: As) I J P X I' J' P') (hW : Wd E (fun q => q ∈ E.2.2.2.2) s.heap I J P H locs)
    (kk : ∀ H1 locs1 q, Wd E (fun q => q ∈ E.2.2.2.2) s.heap I' J' P' H1 locs1 → W p l e R s m args below meth c H1 locs1 (cells + 1) (slots + 6) Q (F0 m hpc ls [.ref q])) : W p l e R s m args below meth c H locs cells slots Q (F0 m pc ls (As.reverse ++ .ref b :: st')) := by
  obtain ⟨hx, hb, hml, hown, hts, hlocks, hK, hE⟩ := C
  obtain ⟨g1, g2⟩ := mt_ok 10 _ (tb_res hm)
  dsimp only at g1 g2
  obtain ⟨f1, f2, f3, f4, f5, f6, f7, f8, f9, f10⟩ := id g2
  obtain ⟨f7a, f7b⟩ := f7 hs
  obtain ⟨q0, hq0⟩ := tx_at (I := I) (J := J) (P := P) hE (show E.2.2.1 b < 15 by omega)
  rw [tx_cell_o rfl h10] at hq0
  have hcls : M.1.cls = tx_R (E.2.2.1 b) := by rw [tx_Rc g2, hSb]
  have hr := vx_runV (C := M.1.cls) (Ts := tz) (H := H) (locs := locs) (cells := cells) (slots := slots) (g := F0 m pc ls (As.reverse ++ .ref b :: st')) (rest := st') (e := e) (below := below) (meth := meth) ⟨hx, hb, hml, hown, hts⟩ hM (cwV M.2.2.2.2.2.1 hts (wsV_g g1 f7a f7b f3 (wz_g g2)) rfl rfl rfl ⟨rfl, f4.1, f4.2, f5⟩ ⟨by show d + 6 + 1 ≤ R.frames; omega, by show 8 + (M.2.2.1 + 11) + (60 * d + 120) ≤ R.locals; omega⟩) ⟨PcX_blind _ _ _ _ _, by rw [hcls]; exact va_recv hK hW.1 (tx_cl _ h10) hq0, fun U hU hWu => ⟨rfl, by rw [hU]; exact hW.1, va_K.moved hWu.alike hK, hW.2.1.weaken (fun _ _ _ _ => trivial), hT.on (fun q h1 h2 => by rw [hU]; exact hW.2.2.2.1 q h1 h2) hWu⟩⟩ rfl hn hL.2.1 rfl (lv_room hst) hd ⟨hR.2.2.1, hR.2.2.2⟩
  intro T hT' X0
  rcases hr T hT' X0 with ⟨v, st₀, t, T', L, -, -, -, -, -, hf, -⟩ | ⟨q, st₀, t, T', L, Ex, ce, h0, X', hL', e1, e2, ⟨rfl, hP1, hz, hk⟩, hce, hcv, hcl, st⟩
  · exact hf.elim
  · rw [h0] at hz hk
    have hcast : (Cond.castable (exC X) (exC X)).before args s = true := by
      have hin : Cond.castable (exC X) (exC X) ∈ exW := by
        rcases (show X = 0 ∨ X = 1 ∨ X = 2 ∨ X = 3 ∨ X = 4 by omega) with rfl | rfl | rfl | rfl | rfl <;> simp [exW]
      exact va_tabs (exW_k _ hin).1 rfl (hT.2.2.2.2 _ hin)
    obtain ⟨t2, a1, b1⟩ := vx_catch (Q := Q) (name := exC X) (own := RL) (H := T'.heap) (locs := locs ++ L) (cells := cells + 1) (slots := slots + 6) (pc := pc) (ls := ls) (rest := st') hown (tableOf pre) ⟨a0, b0, hpc, ct⟩ (tableOf suf) (by rw [htab, hsp]; simp [tableOf]) (fun z hz => by
        obtain ⟨y, hy, rfl⟩ := List.mem_map.mp hz
        obtain ⟨y1, Y, y2, y3⟩ := hpre y hy
        exact Or.inr ⟨y1, exC Y, hts _ (tz_mem y2), hT.2.2.2.1 _ y3⟩) hcov hct (hts _ (tz_mem hlink)) hcast (by rw [e1]; exact hce) hcv hcl
      (kk T'.heap (locs ++ L) q ⟨by rw [e1]; exact hP1, tx_D_any hW.2.1, by rw [e1]; exact Nat.le_trans hW.2.2.1 hz, fun q h1 h2 => by
        rw [e1, hk q (Nat.lt_of_lt_of_le h1 hW.2.2.1) h2]
        exact hW.2.2.2.1 q h1 h2, fun z hz => by
        rcases List.mem_append.mp hz with h | h
        · exact hW.2.2.2.2 z h
        · exact hL' z h⟩) T' rfl X'
    exact ⟨t2, st.trans a1, b1⟩
/-! in the law's frame: the script's cell and one cell more stay beside the world -/
/-- the law's world: the cells of E, the script b, and what is said of the cell od -/
def Wl (E : tx_En) (A : Nat → Prop) (H0 : Heap) (U : State) (b L : Nat) (xs : Nat → Int32) (od : Nat) (D0 : Option Cell → Prop) (I : IM) (J : JM) (P : PM) (H : Heap) (locs : List Loc) : Prop := Wd E A H0 I J P H locs ∧ va_X b L xs U H ∧ D0 (H[od]?) ∧ (b ∉ E.2.2.2.2 ∧ od ∉ E.2.2.2.2) ∧ b < H.size ∧ od < H.size
theorem Wl.next {U : State} {b L od : Nat} {xs : Nat → Int32} {D0 : Option Cell → Prop} {H1 : Heap} {locs1 : List Loc} (h : Wl E A H0 U b L xs od D0 I J P H locs) (hW : Wd E A H0 I' J' P' H1 locs1) (hz : H.size ≤ H1.size) (hk : ∀ q : Nat, q < H.size → q ∉ E.2.2.2.2 → H1[q]? = H[q]?) : Wl E A H0 U b L xs od D0 I' J' P' H1 locs1 := by
  obtain ⟨h1, h2, h3, h4, h5, h6⟩ := h
  exact ⟨hW, h2.kept (hk b h5 h4.1), by rw [hk od h6 h4.2]; exact h3, h4, Nat.lt_of_lt_of_le h5 hz, Nat.lt_of_lt_of_le h6 hz⟩
/-- the shapes with the script's -/
def S2 (S : Nat → Nat) (b : Nat) : Nat → Nat := fun a => if a = b then 10 else S a
def N2 (N : Nat → Nat) (b L : Nat) : Nat → Nat := fun a => if a = b then L else N a
set_option maxHeartbeats 4000000 in
theorem segB_run {I0 : IM} {J0 : JM} {P0 : PM} {b L : Nat} {xs : Nat → Int32} (C : Cx E o cc nL p s m args meth c) (hW : Wd E A H0 I0 J0 P0 H locs) (hX : va_X b L xs s H) (hbE : b ∉ E.2.2.2.2) (hI : I0 b = xs) : ∀ (n : Nat) (x : Stt), gR (S2 E.2.2.1 b) (N2 E.2.2.2.1 b L) false o cc (Zl p l e R s m args below meth c H locs cells slots nL Q I0 J0 P0) n x → Zl p l e R s m args below meth c H locs cells slots nL Q I0 J0 P0 x.1 x.2.1 x.2.2.1 x.2.2.2.1 x.2.2.2.2.1 x.2.2.2.2.2 := by
  have hE : tx_ok E := C.2.2.2.2.2.2.2
  have hSb : ¬ E.2.2.1 b < 15 := fun z => hbE (hE b z)
  have hS2 : ∀ {a k : Nat}, S2 E.2.2.1 b a = k → a ≠ b → E.2.2.1 a = k := fun {a k} h hne => by
    unfold S2 at h
    rwa [if_neg hne] at h
  intro n
  induction n with
  | zero => intro x h; exact h.elim
  | succ n ih =>
    intro x h
    rcases h with ⟨i, len, -, -, h⟩ | ⟨y, h, hz, hr⟩
    · exact h
    · have kk := ih y hr
      clear ih hr
      rintro ⟨e1, e2, e3⟩ ls hL
      obtain ⟨pc, ll, st, I, J, P⟩ := x
      dsimp only at e1 e2 e3
      subst e1; subst e2; subst e3
      dsimp only at hL hz ⊢
      obtain ⟨i, len, hd, h⟩ := h
      dsimp only at hd h
      have hz := hz rfl i len hd
      rcases h with ⟨-, h1, st', h2, rfl⟩ | ⟨-, k, t, v, h1, h2, h3, rfl⟩ | ⟨-, k, t, v, st', h1, h2, h3, h4, rfl⟩ | ⟨-, rfl, k, n, v, rfl, h2, rfl⟩ | ⟨-, rfl, b, off, st', tgt, h1, h2, h3⟩ | ⟨-, h0, off, st', tgt, h1, h2, rfl⟩ | ⟨-, rfl, n, k, j, t, a, st', rfl, h1, h2, h3, h4, rfl⟩ | ⟨hk, -⟩ | ⟨-, rfl, bb, st', h1, h2, rfl⟩ | ⟨hk, -⟩ | ⟨-, -, hn, -⟩ | ⟨-, -, hn, -⟩ | ⟨-, -, hn, -⟩
      · exact sg_alu C hd h1 h2 (kk ⟨rfl, rfl, rfl⟩ ls hL)
      · exact sg_lod C hd h1 hL h2 h3 (kk ⟨rfl, rfl, rfl⟩ ls hL)
      · rw [h2]
        exact sg_sto C hd h1 hL h3 h4 (fun ls' h' => kk ⟨rfl, rfl, rfl⟩ ls' h')
      · exact sg_inc C hd hL h2 (fun ls' h' => kk ⟨rfl, rfl, rfl⟩ ls' h')
      · rcases h3 with ⟨h3, rfl⟩ | ⟨h3, rfl⟩
        · exact sg_br C hd h1 h2 (fun _ => kk ⟨rfl, rfl, rfl⟩ ls hL) (fun q => absurd h3 q)
        · exact sg_br C hd h1 h2 (fun q => absurd q h3) (fun _ => kk ⟨rfl, rfl, rfl⟩ ls hL)
      · exact sg_go C hd h0 h1 h2 (kk ⟨rfl, rfl, rfl⟩ ls hL)
      · have hk9 : k < 10 := (ft_ok o _ (tb_res h1)).1
        have hne : a ≠ b := fun z => by
          unfold S2 at h3
          rw [if_pos z] at h3
          omega
        rw [h2]
        exact sg_getf C hd h1 (hS2 h3 hne) h4 hW (kk ⟨rfl, rfl, rfl⟩ ls hL)
      · exact absurd hk hz.1
      · obtain ⟨hx, hb, -, -, -, -, -, -⟩ := id C
        unfold tx_ald at h1
        split at h1
        · next ix a st =>
          cases h1
          by_cases hab : a = b
          · subst hab
            have hin : vp_in ix L := by
              have := h2.2
              unfold N2 at this
              rwa [if_pos rfl] at this
            obtain ⟨scr, a1, a2, a3, a4, a5⟩ := hX
            have hlt : ix.toNatClampNeg < L := Nat.not_le.mp fun q => hin (Or.inr q)
            have k9 := kk ⟨rfl, rfl, rfl⟩ ls hL
            rw [hI] at k9
            exact W.iald (v := .int (xs ix.toNatClampNeg)) hx hb a1 a2 a3 (by rw [a4]; exact hin) (a5 _ hlt) rfl rfl hd k9
          · refine sg_ald (i := .iaload) (st := .int ix :: .ref a :: st) (b := E.2.2.1 a = 10 ∧ vp_in ix (E.2.2.2.1 a)) C hd rfl ⟨hS2 h2.1 hab, ?_⟩ hW (kk ⟨rfl, rfl, rfl⟩ ls hL)
            have := h2.2
            unfold N2 at this
            rwa [if_neg hab] at this
        · next ix a st =>
          cases h1
          have hab : a ≠ b := fun z => by
            have := h2.1
            unfold S2 at this
            rw [if_pos z] at this
            cases this
          refine sg_ald (i := .laload) (st := .int ix :: .ref a :: st) (b := E.2.2.1 a = 11 ∧ vp_in ix (E.2.2.2.1 a)) C hd rfl ⟨hS2 h2.1 hab, ?_⟩ hW (kk ⟨rfl, rfl, rfl⟩ ls hL)
          have := h2.2
          unfold N2 at this
          rwa [if_neg hab] at this
        · next ix a st =>
          cases h1
          have hab : a ≠ b := fun z => by
            have := h2.1
            unfold S2 at this
            rw [if_pos z] at this
            rcases this with q | q | q <;> cases q
          refine sg_ald (i := .aaload) (st := .int ix :: .ref a :: st) (b := (E.2.2.1 a = 12 ∨ E.2.2.1 a = 13 ∨ E.2.2.1 a = 14) ∧ vp_in ix (E.2.2.2.1 a)) C hd rfl ⟨?_, ?_⟩ hW (kk ⟨rfl, rfl, rfl⟩ ls hL)
          · rcases h2.1 with q | q | q
            · exact Or.inl (hS2 q hab)
            · exact Or.inr (Or.inl (hS2 q hab))
            · exact Or.inr (Or.inr (hS2 q hab))
          · have := h2.2
            unfold N2 at this
            rwa [if_neg hab] at this
        · cases h1
      · exact absurd hk hz.2
      · exact hn.elim
      · exact hn.elim
      · exact hn.elim
/-- a segment of the law -/
theorem segB_ok {M : MR} {b L od : Nat} {xs : Nat → Int32} {D0 : Option Cell → Prop} (C : Cx E M.2.2.2.2.1 M.2.1 nL p s m args meth c) (hW : Wl E A H0 s b L xs od D0 I J P H locs) (hI : I b = xs) (h : Gp (S2 E.2.2.1 b) (N2 E.2.2.2.1 b L) false M (Zl p l e R s m args below meth c H locs cells slots nL Q I J P) pc ll st I J P) (hL : Lv ls nL ll) : W p l e R s m args below meth c H locs cells slots Q (F0 m pc ls st) := by
  obtain ⟨n, h⟩ := h
  exact segB_run C hW.1 hW.2.1 hW.2.2.2.1.1 hI n _ h ⟨rfl, rfl, rfl⟩ ls hL
/-- the script's length -/
theorem sg_len {M : MR} {b L od : Nat} {xs : Nat → Int32} {D0 : Option Cell → Prop} (C : Cx E o cc nL p s m args meth c) (hW : Wl E A H0 s b L xs od D0 I J P H locs) (hd : decode cc pc = .ok (.arraylength, 1)) (kk : W p l e R s m args below meth c H locs cells slots Q (F0 m (pc + 1) ls (.int (nI L) :: st))) : W p l e R s m args below meth c H locs cells slots Q (F0 m pc ls (.ref b :: st)) := by
  obtain ⟨hx, hb, -, -, -, -, -, -⟩ := C
  obtain ⟨scr, a1, a2, a3, a4, a5⟩ := hW.2.1
  exact W.alen (n := nI L) hx hb a1 a2 (by rw [a4] <;> rfl) rfl rfl hd kk
set_option maxHeartbeats 4000000 in
/-- a call of one of the law's own methods -/
theorem sg_callW (C : Cx E 10 cc nL p s m args meth c) (hT : TX E s) (hSE : va_S (fun q => q ∈ E.2.2.2.2) s.heap s.heap []) (hL : Lv ls nL ll) {n : Nat} {M : MR} {hh : List (Nat × Nat × Nat × Nat)} {As : List Value} {r : Option Value} (hTk : ∀ U : State, U.heap = H → s.WarmedH U.vm → TX E U) (hR : 19 ≤ R.frames ∧ 1400 ≤ R.locals) (hcs : cells + 1 ≤ R.cells ∧ slots + 6 ≤ R.slots) (hd : decode cc pc = .ok (.invokestatic n, 3)) (hlk : tbG (.methodLink RL n M.1)) (hF : WF M hh) (hn : As.length = M.2.2.2.2.2.1) (hst : (st'.map fun v => v.category).sum ≤ 8) (hM : MtW l E M hh As I J P r I' J' P') (hW : Wd E A H0 I J P H locs)
    (kk : ∀ H1 locs1, Wd E A H0 I' J' P' H1 locs1 → H.size ≤ H1.size → (∀ q : Nat, q < H.size → q ∉ E.2.2.2.2 → H1[q]? = H[q]?) → W p l e R s m args below meth c H1 locs1 (cells + 1) (slots + 6) Q (F0 m (pc + 3) ls (r.toList ++ st'))) : W p l e R s m args below meth c H locs cells slots Q (F0 m pc ls (As.reverse ++ st')) := by
  obtain ⟨hx, hb, hml, hown, hts, -, hK, hE⟩ := C
  obtain ⟨f1, f2, f3, f4, f5, f6, f7, f8, f9⟩ := id hF
  have hr := vx_runSX (hh := hh) (Ts := tz) (H := H) (locs := locs) (cells := cells) (slots := slots) (g := F0 m pc ls (As.reverse ++ st')) (rest := st') (e := e) (below := below) (meth := meth) ⟨hx, hb, hml, hown, hts⟩ hM (vx_cwSW M.2.2.2.2.2.1 hts (wsS_g hlk f7 f3 (wzW_g hF)) rfl rfl rfl ⟨f4.1, f4.2, f5⟩ ⟨by show 18 + 1 ≤ R.frames; omega, by show 8 + (M.2.2.1 + 11) + 1300 ≤ R.locals; omega⟩) ⟨PcX_blind _ _ _ _ _, fun U hU hWu => ⟨rfl, by rw [hU]; exact hW.1, va_K.moved hWu.alike hK, hW.2.1.weaken (fun _ _ _ _ => trivial), hTk U hU hWu⟩⟩ rfl hn hL.2.1 rfl (lv_room hst) hd ⟨hcs.1, hcs.2⟩
  refine sg_back (a := As.toArray) (mc := 1) (ms := 6) hE hW (fun T hT X => ?_) kk
  rcases hr T hT X with ⟨v, st₀, t, T', L, h⟩ | ⟨q, st₀, t, T', L, Ex, ce, -, -, -, -, -, hf, -⟩
  · exact ⟨v, st₀, t, T', L, h⟩
  · exact hf.elim
end SGW

def ML_appendCharacter : MR := (yL_appendCharacter, cL_appendCharacter, 4, some .int, 10, 3, true)
def hL_appendCharacter : List (Nat × Nat × Nat × Nat) := [(0, 9, 12, 13), (0, 9, 15, 15)]
theorem ML_appendCharacter_ok : WF ML_appendCharacter hL_appendCharacter := ⟨by decide +kernel, ⟨tb2 230 (by decide +kernel), by decide +kernel⟩, ⟨tb1 0 (by decide +kernel), by decide +kernel⟩, ⟨by decide +kernel, by decide +kernel⟩, by decide +kernel, by decide +kernel, ⟨tb2 229 (by decide +kernel), by decide +kernel⟩, rfl, rfl⟩
def ML_addRules : MR := (yL_addRules, cL_addRules, 3, some .int, 10, 2, true)
def hL_addRules : List (Nat × Nat × Nat × Nat) := [(0, 8, 11, 13), (0, 8, 14, 15)]
theorem ML_addRules_ok : WF ML_addRules hL_addRules := ⟨by decide +kernel, ⟨tb3 90 (by decide +kernel), by decide +kernel⟩, ⟨tb1 0 (by decide +kernel), by decide +kernel⟩, ⟨by decide +kernel, by decide +kernel⟩, by decide +kernel, by decide +kernel, ⟨tb3 89 (by decide +kernel), by decide +kernel⟩, rfl, rfl⟩
def ML_bracket : MR := (yL_bracket, cL_bracket, 5, some .int, 10, 4, true)
def hL_bracket : List (Nat × Nat × Nat × Nat) := [(0, 10, 13, 25), (0, 10, 17, 13)]
theorem ML_bracket_ok : WF ML_bracket hL_bracket := ⟨by decide +kernel, ⟨tb3 164 (by decide +kernel), by decide +kernel⟩, ⟨tb1 0 (by decide +kernel), by decide +kernel⟩, ⟨by decide +kernel, by decide +kernel⟩, by decide +kernel, by decide +kernel, ⟨tb3 163 (by decide +kernel), by decide +kernel⟩, rfl, rfl⟩
def ML_allowance : MR := (yL_allowance, cL_allowance, 4, some .int, 10, 3, true)
def hL_allowance : List (Nat × Nat × Nat × Nat) := [(0, 9, 12, 13)]
theorem ML_allowance_ok : WF ML_allowance hL_allowance := ⟨by decide +kernel, ⟨tb3 212 (by decide +kernel), by decide +kernel⟩, ⟨tb1 0 (by decide +kernel), by decide +kernel⟩, ⟨by decide +kernel, by decide +kernel⟩, by decide +kernel, by decide +kernel, ⟨tb3 211 (by decide +kernel), by decide +kernel⟩, rfl, rfl⟩
def ML_charge : MR := (yL_charge, cL_charge, 5, some .int, 10, 4, true)
def hL_charge : List (Nat × Nat × Nat × Nat) := [(0, 10, 13, 25), (0, 10, 17, 13)]
theorem ML_charge_ok : WF ML_charge hL_charge := ⟨by decide +kernel, ⟨tb3 219 (by decide +kernel), by decide +kernel⟩, ⟨tb1 0 (by decide +kernel), by decide +kernel⟩, ⟨by decide +kernel, by decide +kernel⟩, by decide +kernel, by decide +kernel, ⟨tb3 218 (by decide +kernel), by decide +kernel⟩, rfl, rfl⟩
def ML_credit : MR := (yL_credit, cL_credit, 5, some .int, 10, 4, true)
def hL_credit : List (Nat × Nat × Nat × Nat) := [(0, 10, 13, 25), (0, 10, 17, 13)]
theorem ML_credit_ok : WF ML_credit hL_credit := ⟨by decide +kernel, ⟨tb3 226 (by decide +kernel), by decide +kernel⟩, ⟨tb1 0 (by decide +kernel), by decide +kernel⟩, ⟨by decide +kernel, by decide +kernel⟩, by decide +kernel, by decide +kernel, ⟨tb3 225 (by decide +kernel), by decide +kernel⟩, rfl, rfl⟩
def ML_removeCredit : MR := (yL_removeCredit, cL_removeCredit, 4, some .int, 10, 3, true)
def hL_removeCredit : List (Nat × Nat × Nat × Nat) := [(0, 9, 12, 25)]
theorem ML_removeCredit_ok : WF ML_removeCredit hL_removeCredit := ⟨by decide +kernel, ⟨tb3 233 (by decide +kernel), by decide +kernel⟩, ⟨tb1 0 (by decide +kernel), by decide +kernel⟩, ⟨by decide +kernel, by decide +kernel⟩, by decide +kernel, by decide +kernel, ⟨tb3 232 (by decide +kernel), by decide +kernel⟩, rfl, rfl⟩
def ML_moveCredit : MR := (yL_moveCredit, cL_moveCredit, 4, some .int, 10, 3, true)
def hL_moveCredit : List (Nat × Nat × Nat × Nat) := [(0, 6, 9, 25)]
theorem ML_moveCredit_ok : WF ML_moveCredit hL_moveCredit := ⟨by decide +kernel, ⟨tb4 8 (by decide +kernel), by decide +kernel⟩, ⟨tb1 0 (by decide +kernel), by decide +kernel⟩, ⟨by decide +kernel, by decide +kernel⟩, by decide +kernel, by decide +kernel, ⟨tb4 7 (by decide +kernel), by decide +kernel⟩, rfl, rfl⟩
def ML_setPerson : MR := (yL_setPerson, cL_setPerson, 6, some .int, 10, 5, true)
def hL_setPerson : List (Nat × Nat × Nat × Nat) := [(0, 9, 12, 25), (0, 9, 16, 13)]
theorem ML_setPerson_ok : WF ML_setPerson hL_setPerson := ⟨by decide +kernel, ⟨tb4 16 (by decide +kernel), by decide +kernel⟩, ⟨tb1 0 (by decide +kernel), by decide +kernel⟩, ⟨by decide +kernel, by decide +kernel⟩, by decide +kernel, by decide +kernel, ⟨tb4 15 (by decide +kernel), by decide +kernel⟩, rfl, rfl⟩
def ML_personData : MR := (yL_personData, cL_personData, 5, some .int, 10, 4, true)
def hL_personData : List (Nat × Nat × Nat × Nat) := [(0, 10, 13, 25), (0, 10, 17, 13)]
theorem ML_personData_ok : WF ML_personData hL_personData := ⟨by decide +kernel, ⟨tb4 23 (by decide +kernel), by decide +kernel⟩, ⟨tb1 0 (by decide +kernel), by decide +kernel⟩, ⟨by decide +kernel, by decide +kernel⟩, by decide +kernel, by decide +kernel, ⟨tb4 22 (by decide +kernel), by decide +kernel⟩, rfl, rfl⟩
def ML_marry : MR := (yL_marry, cL_marry, 4, some .int, 10, 3, true)
def hL_marry : List (Nat × Nat × Nat × Nat) := [(0, 6, 9, 25), (0, 6, 12, 13), (0, 6, 15, 15)]
theorem ML_marry_ok : WF ML_marry hL_marry := ⟨by decide +kernel, ⟨tb4 30 (by decide +kernel), by decide +kernel⟩, ⟨tb1 0 (by decide +kernel), by decide +kernel⟩, ⟨by decide +kernel, by decide +kernel⟩, by decide +kernel, by decide +kernel, ⟨tb4 29 (by decide +kernel), by decide +kernel⟩, rfl, rfl⟩
def ML_part : MR := (yL_part, cL_part, 4, some .int, 10, 3, true)
def hL_part : List (Nat × Nat × Nat × Nat) := [(0, 9, 12, 25), (0, 9, 15, 56)]
theorem ML_part_ok : WF ML_part hL_part := ⟨by decide +kernel, ⟨tb4 39 (by decide +kernel), by decide +kernel⟩, ⟨tb1 0 (by decide +kernel), by decide +kernel⟩, ⟨by decide +kernel, by decide +kernel⟩, by decide +kernel, by decide +kernel, ⟨tb4 38 (by decide +kernel), by decide +kernel⟩, rfl, rfl⟩
def ML_partner : MR := (yL_partner, cL_partner, 4, some .int, 10, 3, true)
def hL_partner : List (Nat × Nat × Nat × Nat) := [(0, 9, 12, 25), (0, 9, 15, 56)]
theorem ML_partner_ok : WF ML_partner hL_partner := ⟨by decide +kernel, ⟨tb4 67 (by decide +kernel), by decide +kernel⟩, ⟨tb1 0 (by decide +kernel), by decide +kernel⟩, ⟨by decide +kernel, by decide +kernel⟩, by decide +kernel, by decide +kernel, ⟨tb4 66 (by decide +kernel), by decide +kernel⟩, rfl, rfl⟩
def ML_tax : MR := (yL_tax, cL_tax, 4, some .int, 10, 3, true)
def hL_tax : List (Nat × Nat × Nat × Nat) := [(0, 8, 11, 25)]
theorem ML_tax_ok : WF ML_tax hL_tax := ⟨by decide +kernel, ⟨tb4 74 (by decide +kernel), by decide +kernel⟩, ⟨tb1 0 (by decide +kernel), by decide +kernel⟩, ⟨by decide +kernel, by decide +kernel⟩, by decide +kernel, by decide +kernel, ⟨tb4 73 (by decide +kernel), by decide +kernel⟩, rfl, rfl⟩
def ML_taxPart : MR := (yL_taxPart, cL_taxPart, 5, some .int, 10, 4, true)
def hL_taxPart : List (Nat × Nat × Nat × Nat) := [(0, 9, 12, 25), (0, 9, 16, 13)]
theorem ML_taxPart_ok : WF ML_taxPart hL_taxPart := ⟨by decide +kernel, ⟨tb4 81 (by decide +kernel), by decide +kernel⟩, ⟨tb1 0 (by decide +kernel), by decide +kernel⟩, ⟨by decide +kernel, by decide +kernel⟩, by decide +kernel, by decide +kernel, ⟨tb4 80 (by decide +kernel), by decide +kernel⟩, rfl, rfl⟩
def ML_creditPart : MR := (yL_creditPart, cL_creditPart, 6, some .int, 10, 5, true)
def hL_creditPart : List (Nat × Nat × Nat × Nat) := [(0, 11, 14, 25), (0, 11, 18, 13)]
theorem ML_creditPart_ok : WF ML_creditPart hL_creditPart := ⟨by decide +kernel, ⟨tb4 88 (by decide +kernel), by decide +kernel⟩, ⟨tb1 0 (by decide +kernel), by decide +kernel⟩, ⟨by decide +kernel, by decide +kernel⟩, by decide +kernel, by decide +kernel, ⟨tb4 87 (by decide +kernel), by decide +kernel⟩, rfl, rfl⟩
def ML_carried : MR := (yL_carried, cL_carried, 5, some .int, 10, 4, true)
def hL_carried : List (Nat × Nat × Nat × Nat) := [(0, 9, 12, 25)]
theorem ML_carried_ok : WF ML_carried hL_carried := ⟨by decide +kernel, ⟨tb4 95 (by decide +kernel), by decide +kernel⟩, ⟨tb1 0 (by decide +kernel), by decide +kernel⟩, ⟨by decide +kernel, by decide +kernel⟩, by decide +kernel, by decide +kernel, ⟨tb4 94 (by decide +kernel), by decide +kernel⟩, rfl, rfl⟩
def ML_jointTax : MR := (yL_jointTax, cL_jointTax, 4, some .int, 10, 3, true)
def hL_jointTax : List (Nat × Nat × Nat × Nat) := [(0, 8, 11, 25), (0, 8, 14, 56)]
theorem ML_jointTax_ok : WF ML_jointTax hL_jointTax := ⟨by decide +kernel, ⟨tb4 102 (by decide +kernel), by decide +kernel⟩, ⟨tb1 0 (by decide +kernel), by decide +kernel⟩, ⟨by decide +kernel, by decide +kernel⟩, by decide +kernel, by decide +kernel, ⟨tb4 101 (by decide +kernel), by decide +kernel⟩, rfl, rfl⟩
def ML_separateTax : MR := (yL_separateTax, cL_separateTax, 4, some .int, 10, 3, true)
def hL_separateTax : List (Nat × Nat × Nat × Nat) := [(0, 8, 11, 25), (0, 8, 14, 56)]
theorem ML_separateTax_ok : WF ML_separateTax hL_separateTax := ⟨by decide +kernel, ⟨tb4 109 (by decide +kernel), by decide +kernel⟩, ⟨tb1 0 (by decide +kernel), by decide +kernel⟩, ⟨by decide +kernel, by decide +kernel⟩, by decide +kernel, by decide +kernel, ⟨tb4 108 (by decide +kernel), by decide +kernel⟩, rfl, rfl⟩
def ML_division : MR := (yL_division, cL_division, 4, some .int, 10, 3, true)
def hL_division : List (Nat × Nat × Nat × Nat) := [(0, 9, 12, 25), (0, 9, 15, 56)]
theorem ML_division_ok : WF ML_division hL_division := ⟨by decide +kernel, ⟨tb4 116 (by decide +kernel), by decide +kernel⟩, ⟨tb1 0 (by decide +kernel), by decide +kernel⟩, ⟨by decide +kernel, by decide +kernel⟩, by decide +kernel, by decide +kernel, ⟨tb4 115 (by decide +kernel), by decide +kernel⟩, rfl, rfl⟩
def ML_choosesJoint : MR := (yL_choosesJoint, cL_choosesJoint, 4, some .int, 10, 3, true)
def hL_choosesJoint : List (Nat × Nat × Nat × Nat) := [(0, 16, 19, 25), (0, 16, 22, 56)]
theorem ML_choosesJoint_ok : WF ML_choosesJoint hL_choosesJoint := ⟨by decide +kernel, ⟨tb4 123 (by decide +kernel), by decide +kernel⟩, ⟨tb1 0 (by decide +kernel), by decide +kernel⟩, ⟨by decide +kernel, by decide +kernel⟩, by decide +kernel, by decide +kernel, ⟨tb4 122 (by decide +kernel), by decide +kernel⟩, rfl, rfl⟩
def ML_householdTax : MR := (yL_householdTax, cL_householdTax, 4, some .int, 10, 3, true)
def hL_householdTax : List (Nat × Nat × Nat × Nat) := [(0, 8, 11, 25)]
theorem ML_householdTax_ok : WF ML_householdTax hL_householdTax := ⟨by decide +kernel, ⟨tb4 130 (by decide +kernel), by decide +kernel⟩, ⟨tb1 0 (by decide +kernel), by decide +kernel⟩, ⟨by decide +kernel, by decide +kernel⟩, by decide +kernel, by decide +kernel, ⟨tb4 129 (by decide +kernel), by decide +kernel⟩, rfl, rfl⟩
def ML_curve : MR := (yL_curve, cL_curve, 5, some .int, 10, 4, true)
def hL_curve : List (Nat × Nat × Nat × Nat) := [(0, 9, 12, 25), (0, 9, 16, 13)]
theorem ML_curve_ok : WF ML_curve hL_curve := ⟨by decide +kernel, ⟨tb4 137 (by decide +kernel), by decide +kernel⟩, ⟨tb1 0 (by decide +kernel), by decide +kernel⟩, ⟨by decide +kernel, by decide +kernel⟩, by decide +kernel, by decide +kernel, ⟨tb4 136 (by decide +kernel), by decide +kernel⟩, rfl, rfl⟩
def ML_marginalRate : MR := (yL_marginalRate, cL_marginalRate, 5, some .int, 10, 4, true)
def hL_marginalRate : List (Nat × Nat × Nat × Nat) := [(0, 9, 12, 25), (0, 9, 16, 13)]
theorem ML_marginalRate_ok : WF ML_marginalRate hL_marginalRate := ⟨by decide +kernel, ⟨tb4 158 (by decide +kernel), by decide +kernel⟩, ⟨tb1 0 (by decide +kernel), by decide +kernel⟩, ⟨by decide +kernel, by decide +kernel⟩, by decide +kernel, by decide +kernel, ⟨tb4 157 (by decide +kernel), by decide +kernel⟩, rfl, rfl⟩
def ML_kinks : MR := (yL_kinks, cL_kinks, 4, some .int, 10, 3, true)
def hL_kinks : List (Nat × Nat × Nat × Nat) := [(0, 9, 12, 25)]
theorem ML_kinks_ok : WF ML_kinks hL_kinks := ⟨by decide +kernel, ⟨tb4 165 (by decide +kernel), by decide +kernel⟩, ⟨tb1 0 (by decide +kernel), by decide +kernel⟩, ⟨by decide +kernel, by decide +kernel⟩, by decide +kernel, by decide +kernel, ⟨tb4 164 (by decide +kernel), by decide +kernel⟩, rfl, rfl⟩
def ML_nextKink : MR := (yL_nextKink, cL_nextKink, 5, some .int, 10, 4, true)
def hL_nextKink : List (Nat × Nat × Nat × Nat) := [(0, 10, 13, 25), (0, 10, 17, 56)]
theorem ML_nextKink_ok : WF ML_nextKink hL_nextKink := ⟨by decide +kernel, ⟨tb4 182 (by decide +kernel), by decide +kernel⟩, ⟨tb1 0 (by decide +kernel), by decide +kernel⟩, ⟨by decide +kernel, by decide +kernel⟩, by decide +kernel, by decide +kernel, ⟨tb4 181 (by decide +kernel), by decide +kernel⟩, rfl, rfl⟩
def ML_kinkCause : MR := (yL_kinkCause, cL_kinkCause, 5, some .int, 10, 4, true)
def hL_kinkCause : List (Nat × Nat × Nat × Nat) := [(0, 10, 13, 25), (0, 10, 17, 56)]
theorem ML_kinkCause_ok : WF ML_kinkCause hL_kinkCause := ⟨by decide +kernel, ⟨tb4 191 (by decide +kernel), by decide +kernel⟩, ⟨tb1 0 (by decide +kernel), by decide +kernel⟩, ⟨by decide +kernel, by decide +kernel⟩, by decide +kernel, by decide +kernel, ⟨tb4 190 (by decide +kernel), by decide +kernel⟩, rfl, rfl⟩
def ML_steepest : MR := (yL_steepest, cL_steepest, 4, some .int, 10, 3, true)
def hL_steepest : List (Nat × Nat × Nat × Nat) := [(0, 9, 12, 25)]
theorem ML_steepest_ok : WF ML_steepest hL_steepest := ⟨by decide +kernel, ⟨tb4 215 (by decide +kernel), by decide +kernel⟩, ⟨tb1 0 (by decide +kernel), by decide +kernel⟩, ⟨by decide +kernel, by decide +kernel⟩, by decide +kernel, by decide +kernel, ⟨tb4 214 (by decide +kernel), by decide +kernel⟩, rfl, rfl⟩
def ML_averageRate : MR := (yL_averageRate, cL_averageRate, 4, some .int, 10, 3, true)
def hL_averageRate : List (Nat × Nat × Nat × Nat) := [(0, 8, 11, 25), (0, 8, 14, 114)]
theorem ML_averageRate_ok : WF ML_averageRate hL_averageRate := ⟨by decide +kernel, ⟨tb4 226 (by decide +kernel), by decide +kernel⟩, ⟨tb1 0 (by decide +kernel), by decide +kernel⟩, ⟨by decide +kernel, by decide +kernel⟩, by decide +kernel, by decide +kernel, ⟨tb4 225 (by decide +kernel), by decide +kernel⟩, rfl, rfl⟩
def ML_undo : MR := (yL_undo, cL_undo, 3, some .int, 10, 2, true)
def hL_undo : List (Nat × Nat × Nat × Nat) := [(0, 8, 11, 15)]
theorem ML_undo_ok : WF ML_undo hL_undo := ⟨by decide +kernel, ⟨tb5 11 (by decide +kernel), by decide +kernel⟩, ⟨tb1 0 (by decide +kernel), by decide +kernel⟩, ⟨by decide +kernel, by decide +kernel⟩, by decide +kernel, by decide +kernel, ⟨tb5 10 (by decide +kernel), by decide +kernel⟩, rfl, rfl⟩
def ML_restore : MR := (yL_restore, cL_restore, 2, some .int, 10, 1, true)
def hL_restore : List (Nat × Nat × Nat × Nat) := [(0, 4, 7, 15)]
theorem ML_restore_ok : WF ML_restore hL_restore := ⟨by decide +kernel, ⟨tb5 23 (by decide +kernel), by decide +kernel⟩, ⟨tb1 0 (by decide +kernel), by decide +kernel⟩, ⟨by decide +kernel, by decide +kernel⟩, by decide +kernel, by decide +kernel, ⟨tb5 22 (by decide +kernel), by decide +kernel⟩, rfl, rfl⟩
theorem lk_appendCharacter : tbG (.methodLink RL 126 ML_appendCharacter.1) := ⟨tb2 228 (by decide +kernel), by decide +kernel⟩
theorem lk_addRules : tbG (.methodLink RL 135 ML_addRules.1) := ⟨tb3 88 (by decide +kernel), by decide +kernel⟩
theorem lk_bracket : tbG (.methodLink RL 151 ML_bracket.1) := ⟨tb3 162 (by decide +kernel), by decide +kernel⟩
theorem lk_allowance : tbG (.methodLink RL 155 ML_allowance.1) := ⟨tb3 210 (by decide +kernel), by decide +kernel⟩
theorem lk_charge : tbG (.methodLink RL 162 ML_charge.1) := ⟨tb3 217 (by decide +kernel), by decide +kernel⟩
theorem lk_credit : tbG (.methodLink RL 169 ML_credit.1) := ⟨tb3 224 (by decide +kernel), by decide +kernel⟩
theorem lk_removeCredit : tbG (.methodLink RL 172 ML_removeCredit.1) := ⟨tb3 231 (by decide +kernel), by decide +kernel⟩
theorem lk_moveCredit : tbG (.methodLink RL 175 ML_moveCredit.1) := ⟨tb4 6 (by decide +kernel), by decide +kernel⟩
theorem lk_setPerson : tbG (.methodLink RL 179 ML_setPerson.1) := ⟨tb4 14 (by decide +kernel), by decide +kernel⟩
theorem lk_personData : tbG (.methodLink RL 183 ML_personData.1) := ⟨tb4 21 (by decide +kernel), by decide +kernel⟩
theorem lk_marry : tbG (.methodLink RL 186 ML_marry.1) := ⟨tb4 28 (by decide +kernel), by decide +kernel⟩
theorem lk_part : tbG (.methodLink RL 189 ML_part.1) := ⟨tb4 37 (by decide +kernel), by decide +kernel⟩
theorem lk_partner : tbG (.methodLink RL 192 ML_partner.1) := ⟨tb4 65 (by decide +kernel), by decide +kernel⟩
theorem lk_tax : tbG (.methodLink RL 195 ML_tax.1) := ⟨tb4 72 (by decide +kernel), by decide +kernel⟩
theorem lk_taxPart : tbG (.methodLink RL 198 ML_taxPart.1) := ⟨tb4 79 (by decide +kernel), by decide +kernel⟩
theorem lk_creditPart : tbG (.methodLink RL 201 ML_creditPart.1) := ⟨tb4 86 (by decide +kernel), by decide +kernel⟩
theorem lk_carried : tbG (.methodLink RL 205 ML_carried.1) := ⟨tb4 93 (by decide +kernel), by decide +kernel⟩
theorem lk_jointTax : tbG (.methodLink RL 208 ML_jointTax.1) := ⟨tb4 100 (by decide +kernel), by decide +kernel⟩
theorem lk_separateTax : tbG (.methodLink RL 211 ML_separateTax.1) := ⟨tb4 107 (by decide +kernel), by decide +kernel⟩
theorem lk_division : tbG (.methodLink RL 214 ML_division.1) := ⟨tb4 114 (by decide +kernel), by decide +kernel⟩
theorem lk_choosesJoint : tbG (.methodLink RL 217 ML_choosesJoint.1) := ⟨tb4 121 (by decide +kernel), by decide +kernel⟩
theorem lk_householdTax : tbG (.methodLink RL 220 ML_householdTax.1) := ⟨tb4 128 (by decide +kernel), by decide +kernel⟩
theorem lk_curve : tbG (.methodLink RL 236 ML_curve.1) := ⟨tb4 135 (by decide +kernel), by decide +kernel⟩
theorem lk_marginalRate : tbG (.methodLink RL 239 ML_marginalRate.1) := ⟨tb4 156 (by decide +kernel), by decide +kernel⟩
theorem lk_kinks : tbG (.methodLink RL 242 ML_kinks.1) := ⟨tb4 163 (by decide +kernel), by decide +kernel⟩
theorem lk_nextKink : tbG (.methodLink RL 245 ML_nextKink.1) := ⟨tb4 180 (by decide +kernel), by decide +kernel⟩
theorem lk_kinkCause : tbG (.methodLink RL 248 ML_kinkCause.1) := ⟨tb4 189 (by decide +kernel), by decide +kernel⟩
theorem lk_steepest : tbG (.methodLink RL 251 ML_steepest.1) := ⟨tb4 213 (by decide +kernel), by decide +kernel⟩
theorem lk_averageRate : tbG (.methodLink RL 254 ML_averageRate.1) := ⟨tb4 224 (by decide +kernel), by decide +kernel⟩
theorem lk_undo : tbG (.methodLink RL 263 ML_undo.1) := ⟨tb5 9 (by decide +kernel), by decide +kernel⟩
theorem lk_restore : tbG (.methodLink RL 270 ML_restore.1) := ⟨tb5 21 (by decide +kernel), by decide +kernel⟩
theorem ctl_0 : tbG (.classLink RL 25 (exC 0)) := ⟨tb3 165 (by decide +kernel), by decide +kernel⟩
theorem ctl_1 : tbG (.classLink RL 13 (exC 1)) := ⟨tb2 231 (by decide +kernel), by decide +kernel⟩
theorem ctl_2 : tbG (.classLink RL 15 (exC 2)) := ⟨tb2 232 (by decide +kernel), by decide +kernel⟩
theorem ctl_3 : tbG (.classLink RL 56 (exC 3)) := ⟨tb4 40 (by decide +kernel), by decide +kernel⟩
theorem ctl_4 : tbG (.classLink RL 114 (exC 4)) := ⟨tb4 227 (by decide +kernel), by decide +kernel⟩

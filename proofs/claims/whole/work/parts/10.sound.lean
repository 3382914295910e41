/-! THE PURE MACHINE IS SOUND: what tx_Cl says of a method, the JVM does: a contract -/
section TXZ
variable {p : Program} {l : Launch} {e : Env} {R : Room} {s : State} {m : MethodId} {args : Array Value} {below : List Frame} {meth : Method} {c : Code} {Q : State → Prop}
variable {E : tx_En} {A : Nat → Prop} {H0 : Heap} {cc : ByteArray} {nL o : Nat}
set_option maxHeartbeats 4000000 in
theorem tx_step_ok {cl : CL} {nat : Prop} {d : Nat} (C : Cx E o cc nL p s m args meth c) (hR : nat → d + 1 ≤ R.frames ∧ 60 * d + 40 ≤ R.locals) (hcl : ∀ M av I J P r I' J' P', MF M → cl M av I J P r I' J' P' → MtM l E d M av I J P r I' J' P') {x y : Stt} (h : tx_N E.2.2.1 E.2.2.2.1 cl nat o cc x y)
    (kk : ∀ H locs ls, Wd E A H0 y.2.2.2.1 y.2.2.2.2.1 y.2.2.2.2.2 H locs → Lv ls nL y.2.1 → W p l e R s m args below meth c H locs 0 0 Q (F0 m y.1 ls y.2.2.1)) {H : Heap} {locs : List Loc} {ls : Array Slot} (hW : Wd E A H0 x.2.2.2.1 x.2.2.2.2.1 x.2.2.2.2.2 H locs) (hL : Lv ls nL x.2.1) : W p l e R s m args below meth c H locs 0 0 Q (F0 m x.1 ls x.2.2.1) := by
  obtain ⟨pc, ll, st, I, J, P⟩ := x
  dsimp only at hW hL ⊢
  obtain ⟨i, len, hd, h⟩ := h
  dsimp only at hd h
  rcases h with ⟨-, h1, st', h2, rfl⟩ | ⟨-, k, t, v, h1, h2, h3, rfl⟩ | ⟨-, k, t, v, st', h1, h2, h3, h4, rfl⟩ | ⟨-, rfl, k, n, v, rfl, h2, rfl⟩ | ⟨-, rfl, b, off, st', tgt, h1, h2, h3⟩ | ⟨-, h0, off, st', tgt, h1, h2, rfl⟩ | ⟨-, rfl, n, k, j, t, a, st', rfl, h1, h2, h3, h4, rfl⟩ | ⟨-, rfl, n, k, j, v, a, st', b, I', J', P', rfl, h1, h2, h3, h4, h5, h6, rfl⟩ | ⟨-, rfl, b, st', h1, h2, rfl⟩ | ⟨-, rfl, b, st', I', J', P', h1, h2, rfl⟩ | ⟨-, rfl, hn, n, M, b, As, st', r, I', J', P', rfl, h1, h2, h3, h4, h5, h6, h7, h8, rfl⟩ | ⟨-, rfl, hn, n, M, As, st', r, I', J', P', rfl, h1, h2, h3, h4, h5, h6, rfl⟩ | ⟨-, rfl, hn, n, w, b, st', I', J', rfl, -, h1, h2, h3, h4, rfl⟩
  · exact st_alu C hd h1 h2 (kk H locs ls hW hL)
  · exact st_lod C hd h1 hL h2 h3 (kk H locs ls hW hL)
  · rw [h2]
    exact st_sto C hd h1 hL h3 h4 (fun ls' h' => kk H locs ls' hW h')
  · exact st_inc C hd hL h2 (fun ls' h' => kk H locs ls' hW h')
  · rcases h3 with ⟨h3, rfl⟩ | ⟨h3, rfl⟩
    · exact st_br C hd h1 h2 (fun _ => kk H locs ls hW hL) (fun q => absurd h3 q)
    · exact st_br C hd h1 h2 (fun q => absurd q h3) (fun _ => kk H locs ls hW hL)
  · exact st_go C hd h0 h1 h2 (kk H locs ls hW hL)
  · rw [h2]
    exact st_getf C hd h1 h3 h4 hW (kk H locs ls hW hL)
  · rw [h2]
    exact st_putf C hd h1 h3 h4 h5 h6 hW (fun H1 locs1 h' => kk H1 locs1 ls h' hL)
  · exact st_ald C hd h1 h2 hW (kk H locs ls hW hL)
  · exact st_ast C hd h1 h2 hW (fun H1 locs1 h' => kk H1 locs1 ls h' hL)
  · rw [h3]
    have hMF : MF M := (mt_ok o _ (tb_res h1)).2
    exact st_callV C hL (hR hn) hd h1 h2 h4 h5 h6 h7 (hcl M _ _ _ _ _ _ _ _ hMF h8) hW (fun H1 locs1 h' => kk H1 locs1 ls h' hL)
  · rw [h3]
    have hMF : MF M := (mt_ok o _ (tb_res h1)).2
    exact st_callS C hL (hR hn) hd h1 h2 h4 h5 (hcl M _ _ _ _ _ _ _ _ hMF h6) hW (fun H1 locs1 h' => kk H1 locs1 ls h' hL)
  · exact st_nat C hL ⟨by have := (hR hn).1; omega, by have := (hR hn).2; omega⟩ hd h1 h2 h3 h4 hW (fun H1 locs1 h' => kk H1 locs1 ls h' hL)
set_option maxHeartbeats 4000000 in
theorem tx_run_ok {cl : CL} {nat : Prop} {d : Nat} {M : MR} {r : Option Value} {I' : IM} {J' : JM} {P' : PM} (C : Cx E M.2.2.2.2.1 M.2.1 nL p s m args meth c) (hret : meth.sig.returnType = M.2.2.2.1) (hR : nat → d + 1 ≤ R.frames ∧ 60 * d + 40 ≤ R.locals) (hcl : ∀ M av I J P r I' J' P', MF M → cl M av I J P r I' J' P' → MtM l E d M av I J P r I' J' P') : ∀ (n : Nat) (x : Stt), tx_Run E.2.2.1 E.2.2.2.1 cl nat M (fun r0 I0 J0 P0 => r0 = r ∧ I0 = I' ∧ J0 = J' ∧ P0 = P') n x → ∀ {H : Heap} {locs : List Loc} {ls : Array Slot}, Wd E (fun q => q ∈ E.2.2.2.2) s.heap x.2.2.2.1 x.2.2.2.2.1 x.2.2.2.2.2 H locs → Lv ls nL x.2.1 → W p l e R s m args below meth c H locs 0 0 (MQ below (QcM E r I' J' P') args s 0 0 (fun q => q ∈ E.2.2.2.2)) (F0 m x.1 ls x.2.2.1) := by
  intro n
  induction n with
  | zero => intro x h; exact h.elim
  | succ n ih =>
    intro x h H locs ls hW hL
    rcases h with ⟨i, r0, hd, -, hrt, rfl, rfl, rfl, rfl⟩ | ⟨y, hy, hr⟩
    · obtain ⟨pc, ll, st, I, J, P⟩ := x
      dsimp only at hd hrt hW hL ⊢
      obtain ⟨hx, hb, hml, hown, hts, hlocks, hK, hE⟩ := C
      unfold tx_rt at hrt
      split at hrt
      · obtain ⟨⟨ty, q1, q2⟩, rfl⟩ := hrt
        exact W.zret hx hb (hret.trans q1) q2 (fun t ht _ => ⟨rfl, by rw [ht]; exact hW.1, hW.2.2.F ht⟩) hW.2.2.2.2 hd hlocks
      · obtain ⟨q1, rfl⟩ := hrt
        exact W.lret hx hb (hret.trans q1) (fun t ht _ => ⟨rfl, by rw [ht]; exact hW.1, hW.2.2.F ht⟩) hW.2.2.2.2 hd hlocks
      · obtain ⟨⟨nn, q1⟩, rfl⟩ := hrt
        exact W.aret hx hb (hret.trans q1) (Or.inl ⟨nn, rfl⟩) (Or.inr ⟨_, rfl⟩) (fun t ht _ => ⟨rfl, by rw [ht]; exact hW.1, hW.2.2.F ht⟩) hW.2.2.2.2 hd hlocks
      · obtain ⟨q1, rfl⟩ := hrt
        exact W.vret hx hb (hret.trans q1) (fun t ht _ => ⟨rfl, by rw [ht]; exact hW.1, hW.2.2.F ht⟩) hW.2.2.2.2 hd hlocks
      · exact hrt.elim
    · exact tx_step_ok C hR hcl hy (fun H locs ls hW hL => ih y hr hW hL) hW hL
end TXZ
theorem tx_D_L {L : List Nat} {f : Nat → va_E} (h : va_D (fun _ => True) (va_pl L f)) : va_D (fun q => q ∈ L) (va_pl L f) := ⟨h.1, fun k q hk => by
  obtain ⟨a, ha, rfl⟩ := List.mem_map.mp (List.mem_of_getElem? hk)
  exact ha⟩
set_option maxHeartbeats 4000000 in
theorem tx_sound1 (l : Launch) (E : tx_En) (hE : tx_ok E) {cl : CL} {nat : Prop} {d d1 : Nat} (hR : nat → d1 + 1 ≤ d) (hcl : ∀ M av I J P r I' J' P', MF M → cl M av I J P r I' J' P' → MtM l E d1 M av I J P r I' J' P') {M : MR} {av : List Value} {I : IM} {J : JM} {P : PM} {r : Option Value} {I' : IM} {J' : JM} {P' : PM} (hM : MF M) (hlen : (entl av).length ≤ M.2.2.1) {n : Nat} (h : tx_Run E.2.2.1 E.2.2.2.1 cl nat M (fun r0 I0 J0 P0 => r0 = r ∧ I0 = I' ∧ J0 = J' ∧ P0 = P') n (0, entL av M.2.2.1, [], I, J, P)) : MtM l E d M av I J P r I' J' P' := by
  refine Met.ofW (cc := M.2.1) (maxL := M.2.2.1) (ret := M.2.2.2.1) hM.1 rfl ?_
  intro p e s m args below meth c s₁ B hml hv
  obtain ⟨rfl, hP, hK, hD⟩ := hv
  have hts := atoms_spec (ws := wz M) B.pre
  have hown : s.vm.findClass M.1.cls = some m.cls := findClass_of_methodNamed B.named
  rw [tx_Rc hM] at hown
  rw [lg_entry_eq]
  exact tx_run_ok (M := M) ⟨B.exec, B.bytes, hml, hown, fun w hw => hts w (List.mem_cons_of_mem _ hw), B.notSynchronized, hK, hE⟩ B.returns (fun hn => ⟨hR hn, by have := hR hn; show 60 * d1 + 40 ≤ 60 * d; omega⟩) hcl n _ h ⟨hP, tx_D_L hD, va_S.rf⟩ (Lv_entry av hlen)
theorem tx_sound (l : Launch) (E : tx_En) (hE : tx_ok E) : ∀ (d : Nat) (M : MR) (av : List Value) (I : IM) (J : JM) (P : PM) (r : Option Value) (I' : IM) (J' : JM) (P' : PM), MF M → tx_Cl E.2.2.1 E.2.2.2.1 d M av I J P r I' J' P' → MtM l E d M av I J P r I' J' P'
  | 0, M, av, I, J, P, r, I', J', P', hM, ⟨hl, n, h⟩ => tx_sound1 (d1 := 0) l E hE (fun q => q.elim) (fun _ _ _ _ _ _ _ _ _ _ q => q.elim) hM hl h
  | d + 1, M, av, I, J, P, r, I', J', P', hM, ⟨hl, n, h⟩ => tx_sound1 (d1 := d) l E hE (fun _ => Nat.le_refl _) (fun M av I J P r I' J' P' hM h => tx_sound l E hE d M av I J P r I' J' P' hM h) hM hl h

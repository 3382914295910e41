/-! averages: floats that are never NaN -/
section FLA
variable {p : Program} {l : Launch} {e : Env} {R : Room} {s : State} {m : MethodId} {args : Array Value} {below : List Frame} {meth : Method} {c : Code} {Q : State → Prop}
variable {E : tx_En} {A : Nat → Prop} {H0 H : Heap} {locs : List Loc} {cells slots : Nat} {cc : ByteArray} {nL o pc len : Nat} {st st' rest : List Value} {ls : Array Slot} {ll : List (Option Value)} {I I' : IM} {J J' : JM} {P P' : PM}
theorem MtM.of {d : Nat} (hE : tx_ok E) {M : MR} {av : List Value} {r : Option Value} (hM : MF M) (hlen : (entl av).length ≤ M.2.2.1)
    (body : ∀ p e s m args below meth c, Cx E M.2.2.2.2.1 M.2.1 M.2.2.1 p s m args meth c → meth.sig.returnType = M.2.2.2.1 → Zt p l e (rmd d) s m args below meth c E (fun q => q ∈ E.2.2.2.2) s.heap 0 0 M.2.2.1 (MQ below (QcM E r I' J' P') args s 0 0 (fun q => q ∈ E.2.2.2.2)) 0 (entL av M.2.2.1) [] I J P) : MtM l E d M av I J P r I' J' P' := by
  refine Met.ofW (cc := M.2.1) (maxL := M.2.2.1) (ret := M.2.2.2.1) hM.1 rfl ?_
  intro p e s m args below meth c s₁ B hml hv
  obtain ⟨rfl, hP, hK, hD⟩ := hv
  have hts := atoms_spec (ws := wz M) B.pre
  have hown : s.vm.findClass M.1.cls = some m.cls := findClass_of_methodNamed B.named
  rw [tx_Rc hM] at hown
  rw [lg_entry_eq]
  exact body p e s m _ below meth c ⟨B.exec, B.bytes, hml, hown, fun w hw => hts w (List.mem_cons_of_mem _ hw), B.notSynchronized, hK, hE⟩ B.returns s.heap [] _ ⟨hP, tx_D_L hD, va_S.rf⟩ (Lv_entry av hlen)
theorem sg_retD {v : UInt64} (C : Cx E o cc nL p s m args meth c) (hr : meth.sig.returnType = some .double) (hW : Wd E (fun q => q ∈ E.2.2.2.2) s.heap I J P H locs) (hd : decode cc pc = .ok (.dreturn, 1)) : W p l e R s m args below meth c H locs 0 0 (MQ below (QcM E (some (.double v)) I J P) args s 0 0 (fun q => q ∈ E.2.2.2.2)) (F0 m pc ls [.double v]) := by
  obtain ⟨hx, hb, hml, hown, hts, hlocks, hK, hE⟩ := C
  exact W.dret hx hb hr (fun t ht _ => ⟨rfl, by rw [ht]; exact hW.1, hW.2.2.F ht⟩) hW.2.2.2.2 hd hlocks
theorem sg_retF {v : UInt32} (C : Cx E o cc nL p s m args meth c) (hr : meth.sig.returnType = some .float) (hW : Wd E (fun q => q ∈ E.2.2.2.2) s.heap I J P H locs) (hd : decode cc pc = .ok (.freturn, 1)) : W p l e R s m args below meth c H locs 0 0 (MQ below (QcM E (some (.float v)) I J P) args s 0 0 (fun q => q ∈ E.2.2.2.2)) (F0 m pc ls [.float v]) := by
  obtain ⟨hx, hb, hml, hown, hts, hlocks, hK, hE⟩ := C
  exact W.fret hx hb hr (fun t ht _ => ⟨rfl, by rw [ht]; exact hW.1, hW.2.2.F ht⟩) hW.2.2.2.2 hd hlocks
theorem sg_l2d {v : Int64} (C : Cx E o cc nL p s m args meth c) (hd : decode cc pc = .ok (.l2d, 1)) (k : W p l e R s m args below meth c H locs cells slots Q (F0 m (pc + 1) ls (.double (FP.l2d v) :: rest))) : W p l e R s m args below meth c H locs cells slots Q (F0 m pc ls (.long v :: rest)) := lv_l2d C.1 C.2.1 hd k
theorem sg_i2f {v : Int32} (C : Cx E o cc nL p s m args meth c) (hd : decode cc pc = .ok (.i2f, 1)) (k : W p l e R s m args below meth c H locs cells slots Q (F0 m (pc + 1) ls (.float (FP.i2f v) :: rest))) : W p l e R s m args below meth c H locs cells slots Q (F0 m pc ls (.int v :: rest)) := lv_i2f C.1 C.2.1 hd k
theorem sg_ddiv {u v : UInt64} (C : Cx E o cc nL p s m args meth c) (hn : Jvm.Free.Fl.NoNaN64 (FP.ddiv u v)) (hd : decode cc pc = .ok (.ddiv, 1)) (k : W p l e R s m args below meth c H locs cells slots Q (F0 m (pc + 1) ls (.double (FP.ddiv u v) :: rest))) : W p l e R s m args below meth c H locs cells slots Q (F0 m pc ls (.double v :: .double u :: rest)) := lv_ddiv C.1 C.2.1 hd hn k
theorem sg_fdiv {u v : UInt32} (C : Cx E o cc nL p s m args meth c) (hn : Jvm.Free.Fl.NoNaN32 (FP.fdiv u v)) (hd : decode cc pc = .ok (.fdiv, 1)) (k : W p l e R s m args below meth c H locs cells slots Q (F0 m (pc + 1) ls (.float (FP.fdiv u v) :: rest))) : W p l e R s m args below meth c H locs cells slots Q (F0 m pc ls (.float v :: .float u :: rest)) := lv_fdiv C.1 C.2.1 hd hn k
theorem lv_ldcwf (hexec : p.tables.exec = Jvm.exec) (hb : c.code = cc) {own : String} {index : Nat} {v : UInt32} (hown : s.vm.findClass own = some m.cls) (hconst : (Jvm.Cond.constantFloat own index v).before args s = true) (hdg : decode cc pc = .ok (.ldc_w index, 3)) (k : W p l e R s m args below meth c H locs cells slots Q (F0 m (pc + 3) ls (.float v :: rest))) : W p l e R s m args below meth c H locs cells slots Q (F0 m pc ls rest) := by
  intro T hT X
  obtain ⟨t, a, b⟩ := k T hT X
  obtain ⟨k0, cf, hk, hcf, hcp⟩ := Cond.constantFloat_spec hown hconst
  obtain ⟨k', hk', he⟩ := X.warmed.alike.2.2 _ _ hk
  refine ⟨t, ?_, b⟩
  have hdg' : decode c.code pc = .ok (.ldc_w index, 3) := by rw [hb]; exact hdg
  jvm_step X.here [hexec, hdg', Jvm.Op.ldc_w.wp_float (s := T) (f := F0 m pc ls rest) X.here.top hk' (by rw [he]; exact hcf) hcp]
  exact a
theorem sg_cSE {pc2 : Nat} (hpc : pc + 3 = pc2) (ov : Option Value) (C : Cx E o cc nL p s m args meth c) (hL : Lv ls nL ll) {n d : Nat} {M : MR} {As : List Value} (hR : d + 1 ≤ R.frames ∧ 60 * d + 40 ≤ R.locals) (hcs : cells ≤ R.cells ∧ slots ≤ R.slots) (hd : decode cc pc = .ok (.invokestatic n, 3)) (hm : mres o n = some M) (hs : M.2.2.2.2.2.2 = true) (hn : As.length = M.2.2.2.2.2.1) (hst : (st'.map fun v => v.category).sum ≤ 8) (hs2 : st = As.reverse ++ st') (h : CWp E.2.2.1 E.2.2.2.1 d M As I J P (Qe ov I' J' P')) (hW : Wd E A H0 I J P H locs)
    (kk : Zt p l e R s m args below meth c E A H0 cells slots nL Q pc2 ll (ov.toList ++ st') I' J' P') : W p l e R s m args below meth c H locs cells slots Q (F0 m pc ls st) := by
  obtain ⟨r, I1, J1, P1, h1, rfl, rfl, rfl, rfl⟩ := h
  subst hs2
  subst hpc
  exact sg_callS C hL hR hcs hd hm hs hn hst (tx_sound _ E C.2.2.2.2.2.2.2 d M _ _ _ _ _ _ _ _ (mt_ok o _ (tb_res hm)).2 h1) hW (fun H1 locs1 hW1 _ _ => kk H1 locs1 ls hW1 hL)
end FLA
theorem inc0 {k : Nat} (hk : k ≤ 19998) : (1000000 : Int64) * (nI k).toInt64 = 0 ↔ k = 0 := by
  constructor
  · intro h
    have h1 := congrArg Int64.toInt h
    rw [Int64.toInt_mul, Int32.toInt_toInt64, nI_toInt (by omega)] at h1
    have e1 : (1000000 : Int64).toInt = 1000000 := rfl
    have e2 : (0 : Int64).toInt = 0 := rfl
    rw [e1, e2] at h1
    unfold Int.bmod at h1
    simp only [] at h1
    split at h1 <;> omega
  · rintro rfl
    decide
theorem rate_nn {a b : Int64} (h : ¬ b = 0) : Jvm.Free.Fl.NoNaN64 (FP.ddiv (FP.l2d a) (FP.l2d b)) := Jvm.Free.Fl.ddiv_out (by
  have h1 := Jvm.Free.Fl.l2d_fin a
  unfold Jvm.Free.Fl.Fin64 at h1
  unfold Jvm.Free.Fl.NoNaN64
  exact UInt64.le_of_lt h1) (Jvm.Free.Fl.l2d_fin b) (Jvm.Free.Fl.l2d_nz h)
theorem dep_nn (a : Int32) : Jvm.Free.Fl.NoNaN32 (FP.fdiv (FP.i2f a) 1086324736) := Jvm.Free.Fl.fdiv_out (by
  have h1 := Jvm.Free.Fl.i2f_fin a
  unfold Jvm.Free.Fl.Fin32 at h1
  unfold Jvm.Free.Fl.NoNaN32
  exact UInt32.le_of_lt h1) (by unfold Jvm.Free.Fl.Fin32; decide) (by unfold Jvm.Free.Fl.Nz32; decide)

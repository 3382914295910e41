/-! array steps, calls, natives -/
theorem nt_sys : tbG (.initialized "java/lang/System") := ⟨tb1 16 (by decide +kernel), by decide +kernel⟩
section TXT
variable {p : Program} {l : Launch} {e : Env} {R : Room} {s : State} {m : MethodId} {args : Array Value} {below : List Frame} {meth : Method} {c : Code} {Q : State → Prop}
variable {E : tx_En} {A : Nat → Prop} {H0 H : Heap} {locs : List Loc} {cc : ByteArray} {nL o pc len : Nat} {i : Instr} {st st' : List Value} {ls : Array Slot} {ll : List (Option Value)} {I I' : IM} {J J' : JM} {P P' : PM}
set_option maxHeartbeats 4000000 in
theorem st_ald (C : Cx E o cc nL p s m args meth c) {b : Prop} (hd : decode cc pc = .ok (i, 1)) (h : tx_ald E.2.2.1 E.2.2.2.1 I J P i st = some (b, st')) (hbb : b) (hW : Wd E A H0 I J P H locs) (kk : W p l e R s m args below meth c H locs 0 0 Q (F0 m (pc + 1) ls st')) : W p l e R s m args below meth c H locs 0 0 Q (F0 m pc ls st) := by
  obtain ⟨hx, hb, -, hown, hts, -, hK, hE⟩ := C
  obtain ⟨hP, hD, hSS⟩ := hW
  unfold tx_ald at h
  split at h
  · next ix a st =>
    cases h
    obtain ⟨h1, h2⟩ := hbb
    obtain ⟨q0, hq0⟩ := tx_at (I := I) (J := J) (P := P) hE (show E.2.2.1 a < 15 by omega)
    rw [show tx_cell E.2.1 E.2.2.1 E.2.2.2.1 I J P a = .inl (E.2.1.1, E.2.2.2.1 a, .inl (I a)) by simp [tx_cell, tx_E, h1]] at hq0
    exact va_iald hx hb hK hP q0 0 hq0 rfl h2 hd kk
  · next ix a st =>
    cases h
    obtain ⟨h1, h2⟩ := hbb
    obtain ⟨q0, hq0⟩ := tx_at (I := I) (J := J) (P := P) hE (show E.2.2.1 a < 15 by omega)
    rw [show tx_cell E.2.1 E.2.2.1 E.2.2.2.1 I J P a = .inl (E.2.1.2.1, E.2.2.2.1 a, .inr (.inl (J a))) by simp [tx_cell, tx_E, h1]] at hq0
    exact va_lald hx hb hK hP q0 1 hq0 rfl h2 hd kk
  · next ix a st =>
    cases h
    obtain ⟨h1, h2⟩ := hbb
    obtain ⟨q0, hq0⟩ := tx_at (I := I) (J := J) (P := P) hE (show E.2.2.1 a < 15 by omega)
    rcases h1 with h1 | h1 | h1
    · rw [show tx_cell E.2.1 E.2.2.1 E.2.2.2.1 I J P a = .inl (E.2.1.2.2.1, E.2.2.2.1 a, .inr (.inr (.inr (.inr (P a))))) by simp [tx_cell, tx_E, h1]] at hq0
      exact tx_aald hx hb hK hP q0 2 hq0 rfl rfl h2 hd kk
    · rw [show tx_cell E.2.1 E.2.2.1 E.2.2.2.1 I J P a = .inl (E.2.1.2.2.2.1, E.2.2.2.1 a, .inr (.inr (.inr (.inr (P a))))) by simp [tx_cell, tx_E, h1]] at hq0
      exact tx_aald hx hb hK hP q0 3 hq0 rfl rfl h2 hd kk
    · rw [show tx_cell E.2.1 E.2.2.1 E.2.2.2.1 I J P a = .inl (E.2.1.2.2.2.2, E.2.2.2.1 a, .inr (.inr (.inr (.inr (P a))))) by simp [tx_cell, tx_E, h1]] at hq0
      exact tx_aald hx hb hK hP q0 4 hq0 rfl rfl h2 hd kk
  · cases h
set_option maxHeartbeats 4000000 in
theorem st_ast (C : Cx E o cc nL p s m args meth c) {b : Prop} (hd : decode cc pc = .ok (i, 1)) (h : tx_ast E.2.2.1 E.2.2.2.1 I J P i st = some (b, st', I', J', P')) (hbb : b) (hW : Wd E A H0 I J P H locs) (kk : ∀ H1 locs1, Wd E A H0 I' J' P' H1 locs1 → W p l e R s m args below meth c H1 locs1 0 0 Q (F0 m (pc + 1) ls st')) : W p l e R s m args below meth c H locs 0 0 Q (F0 m pc ls st) := by
  obtain ⟨hx, hb, -, hown, hts, -, hK, hE⟩ := C
  obtain ⟨hP, hD, hSS⟩ := hW
  unfold tx_ast at h
  split at h
  · next v ix a st =>
    cases h
    obtain ⟨h1, h2⟩ := hbb
    have h15 : E.2.2.1 a < 15 := by omega
    obtain ⟨q0, hq0⟩ := tx_at (I := I) (J := J) (P := P) hE h15
    have hq1 := hq0
    rw [show tx_cell E.2.1 E.2.2.1 E.2.2.2.1 I J P a = .inl (E.2.1.1, E.2.2.2.1 a, .inl (I a)) by simp [tx_cell, tx_E, h1]] at hq0
    refine va_iast hx hb hK hP hD hSS q0 0 hq0 rfl h2 hd (fun H1 locs1 g1 g2 g3 => ?_)
    rw [tx_set (I' := u2 I a ix.toNatClampNeg v) (J' := J) (P' := P) hE hD h15 hq1 _ (by simp only [tx_cell, tx_E, h1, u2_row]; rfl) (fun b hb => ⟨(u2_off I _ v hb).symm, rfl, rfl⟩)] at g1 g2
    exact kk H1 locs1 ⟨g1, g2, g3⟩
  · next v ix a st =>
    cases h
    obtain ⟨h1, h2⟩ := hbb
    have h15 : E.2.2.1 a < 15 := by omega
    obtain ⟨q0, hq0⟩ := tx_at (I := I) (J := J) (P := P) hE h15
    have hq1 := hq0
    rw [show tx_cell E.2.1 E.2.2.1 E.2.2.2.1 I J P a = .inl (E.2.1.2.1, E.2.2.2.1 a, .inr (.inl (J a))) by simp [tx_cell, tx_E, h1]] at hq0
    refine va_last hx hb hK hP hD hSS q0 1 hq0 rfl h2 hd (fun H1 locs1 g1 g2 g3 => ?_)
    rw [tx_set (I' := I) (J' := u2 J a ix.toNatClampNeg v) (P' := P) hE hD h15 hq1 _ (by simp only [tx_cell, tx_E, h1, u2_row]; rfl) (fun b hb => ⟨rfl, (u2_off J _ v hb).symm, rfl⟩)] at g1 g2
    exact kk H1 locs1 ⟨g1, g2, g3⟩
  · next v ix a st =>
    cases h
    obtain ⟨h1, h2⟩ := hbb
    have h15 : E.2.2.1 a < 15 := by omega
    obtain ⟨q0, hq0⟩ := tx_at (I := I) (J := J) (P := P) hE h15
    have hq1 := hq0
    rcases h1 with ⟨h1, h3⟩ | ⟨h1, h3⟩
    · obtain ⟨qk, hqk⟩ := tx_at (I := I) (J := J) (P := P) hE (show E.2.2.1 v < 15 by omega)
      rw [tx_cell_o h3 (by decide)] at hqk
      rw [show tx_cell E.2.1 E.2.2.1 E.2.2.2.1 I J P a = .inl (E.2.1.2.2.1, E.2.2.2.1 a, .inr (.inr (.inr (.inr (P a))))) by simp [tx_cell, tx_E, h1]] at hq0
      refine va_astq hx hb hK hP hD hSS q0 2 qk 4 hq0 (r := (RX2, TX2, 2)) rfl hqk rfl h2 hd (fun H1 locs1 g1 g2 g3 => ?_)
      rw [tx_set (I' := I) (J' := J) (P' := u2 P a ix.toNatClampNeg (some v)) hE hD h15 hq1 _ (by simp only [tx_cell, tx_E, h1, u2_row]; rfl) (fun b hb => ⟨rfl, rfl, (u2_off P _ _ hb).symm⟩)] at g1 g2
      exact kk H1 locs1 ⟨g1, g2, g3⟩
    · obtain ⟨qk, hqk⟩ := tx_at (I := I) (J := J) (P := P) hE (show E.2.2.1 v < 15 by omega)
      rw [tx_cell_o h3 (by decide)] at hqk
      rw [show tx_cell E.2.1 E.2.2.1 E.2.2.2.1 I J P a = .inl (E.2.1.2.2.2.1, E.2.2.2.1 a, .inr (.inr (.inr (.inr (P a))))) by simp [tx_cell, tx_E, h1]] at hq0
      refine va_astq hx hb hK hP hD hSS q0 3 qk 7 hq0 (r := (RX5, TX5, 6)) rfl hqk rfl h2 hd (fun H1 locs1 g1 g2 g3 => ?_)
      rw [tx_set (I' := I) (J' := J) (P' := u2 P a ix.toNatClampNeg (some v)) hE hD h15 hq1 _ (by simp only [tx_cell, tx_E, h1, u2_row]; rfl) (fun b hb => ⟨rfl, rfl, (u2_off P _ _ hb).symm⟩)] at g1 g2
      exact kk H1 locs1 ⟨g1, g2, g3⟩
  · cases h
/-- an own method's contract, as calls take it -/
def MtM (l : Launch) (E : tx_En) (d : Nat) (M : MR) (av : List Value) (I : IM) (J : JM) (P : PM) (r : Option Value) (I' : IM) (J' : JM) (P' : PM) : Prop :=
  Met l M.1 (wz M) (rmd d) (PcM E av I J P) (QcM E r I' J' P') 0 0 (fun q => q ∈ E.2.2.2.2)
set_option maxHeartbeats 4000000 in
theorem st_callV (C : Cx E o cc nL p s m args meth c) (hL : Lv ls nL ll) {n d b : Nat} {M : MR} {As : List Value} {r : Option Value} (hR : d + 1 ≤ R.frames ∧ 60 * d + 40 ≤ R.locals) (hd : decode cc pc = .ok (.invokevirtual n, 3)) (hm : mres o n = some M) (hs : M.2.2.2.2.2.2 = false) (hn : As.length = M.2.2.2.2.2.1) (hSb : E.2.2.1 b = M.2.2.2.2.1) (h10 : E.2.2.1 b < 10) (hst : (st'.map fun v => v.category).sum ≤ 8) (hM : MtM l E d M (.ref b :: As) I J P r I' J' P') (hW : Wd E A H0 I J P H locs)
    (kk : ∀ H1 locs1, Wd E A H0 I' J' P' H1 locs1 → W p l e R s m args below meth c H1 locs1 0 0 Q (F0 m (pc + 3) ls (r.toList ++ st'))) : W p l e R s m args below meth c H locs 0 0 Q (F0 m pc ls (As.reverse ++ .ref b :: st')) := by
  obtain ⟨hx, hb, hml, hown, hts, -, hK, hE⟩ := C
  obtain ⟨g1, g2⟩ := mt_ok o _ (tb_res hm)
  dsimp only at g1 g2
  obtain ⟨f1, f2, f3, f4, f5, f6, f7, f8, f9, f10⟩ := id g2
  obtain ⟨f7a, f7b⟩ := f7 hs
  obtain ⟨q0, hq0⟩ := tx_at (I := I) (J := J) (P := P) hE (show E.2.2.1 b < 15 by omega)
  rw [tx_cell_o rfl h10] at hq0
  have hcls : M.1.cls = tx_R (E.2.2.1 b) := by rw [tx_Rc g2, hSb]
  refine tx_back hE hW (va_runV (C := M.1.cls) (Ts := tz) ⟨hx, hb, hml, hown, hts⟩ hM (cwV M.2.2.2.2.2.1 hts (wsV_g g1 f7a f7b f3 (wz_g g2)) rfl rfl rfl ⟨rfl, f4.1, f4.2, f5⟩ ⟨hR.1, by show 8 + (M.2.2.1 + 11) + 60 * d ≤ R.locals; omega⟩) ⟨PcM_blind _ _ _ _ _, by rw [hcls]; exact va_recv hK hW.1 (tx_cl _ h10) hq0, fun U hU hWu => ⟨rfl, by rw [hU]; exact hW.1, va_K.moved hWu.alike hK, hW.2.1.weaken (fun _ _ _ _ => trivial)⟩⟩ rfl hn hL.2.1 rfl (lv_room hst) hd ⟨Nat.zero_le _, Nat.zero_le _⟩) kk
set_option maxHeartbeats 4000000 in
theorem st_callS (C : Cx E o cc nL p s m args meth c) (hL : Lv ls nL ll) {n d : Nat} {M : MR} {As : List Value} {r : Option Value} (hR : d + 1 ≤ R.frames ∧ 60 * d + 40 ≤ R.locals) (hd : decode cc pc = .ok (.invokestatic n, 3)) (hm : mres o n = some M) (hs : M.2.2.2.2.2.2 = true) (hn : As.length = M.2.2.2.2.2.1) (hst : (st'.map fun v => v.category).sum ≤ 8) (hM : MtM l E d M As I J P r I' J' P') (hW : Wd E A H0 I J P H locs)
    (kk : ∀ H1 locs1, Wd E A H0 I' J' P' H1 locs1 → W p l e R s m args below meth c H1 locs1 0 0 Q (F0 m (pc + 3) ls (r.toList ++ st'))) : W p l e R s m args below meth c H locs 0 0 Q (F0 m pc ls (As.reverse ++ st')) := by
  obtain ⟨hx, hb, hml, hown, hts, -, hK, hE⟩ := C
  obtain ⟨g1, g2⟩ := mt_ok o _ (tb_res hm)
  dsimp only at g1 g2
  obtain ⟨f1, f2, f3, f4, f5, f6, f7, f8, f9, f10⟩ := id g2
  refine tx_back hE hW (va_runS (Ts := tz) ⟨hx, hb, hml, hown, hts⟩ hM (va_cwS M.2.2.2.2.2.1 hts (wsS_g g1 (f8 hs) f3 (wz_g g2)) rfl rfl rfl ⟨f4.1, f4.2, f5⟩ ⟨hR.1, by show 8 + (M.2.2.1 + 11) + 60 * d ≤ R.locals; omega⟩) ⟨PcM_blind _ _ _ _ _, fun U hU hWu => ⟨rfl, by rw [hU]; exact hW.1, va_K.moved hWu.alike hK, hW.2.1.weaken (fun _ _ _ _ => trivial)⟩⟩ rfl hn hL.2.1 rfl (lv_room hst) hd ⟨Nat.zero_le _, Nat.zero_le _⟩) kk
set_option maxHeartbeats 4000000 in
theorem st_nat (C : Cx E o cc nL p s m args meth c) (hL : Lv ls nL ll) {n w : Nat} {b : Prop} (hR : 1 ≤ R.frames ∧ 40 ≤ R.locals) (hd : decode cc pc = .ok (.invokestatic n, 3)) (hm : nres o n = some w) (h : tx_nat E.2.2.1 E.2.2.2.1 I J w st = some (b, st', I', J')) (hbb : b) (hst : (st'.map fun v => v.category).sum ≤ 8) (hW : Wd E A H0 I J P H locs)
    (kk : ∀ H1 locs1, Wd E A H0 I' J' P H1 locs1 → W p l e R s m args below meth c H1 locs1 0 0 Q (F0 m (pc + 3) ls st')) : W p l e R s m args below meth c H locs 0 0 Q (F0 m pc ls st) := by
  obtain ⟨hx, hb, hml, hown, hts, -, hK, hE⟩ := C
  have g1 := nt_ok o _ (tb_res hm)
  dsimp only at g1
  have hml2 : c.maxLocals = ls.size := by rw [hml, hL.2.1]
  obtain ⟨k1, k2, k3, k4, k5, k6, k7⟩ := nt_st
  obtain ⟨c1, c2, c3, c4⟩ := nt_co
  unfold tx_nat at h
  split at h
  · cases h
    simp only [List.map_cons, List.sum_cons] at hst
    exact va_mmax hx hb hml2 hown (hts _ (tz_mem g1)) (hts _ (tz_mem k1)) (hts _ (tz_mem k7)) (hts _ (tz_mem c1)) hR.1 (by omega) (Nat.zero_le _) (Nat.zero_le _) hd (kk H locs hW)
  · cases h
    simp only [List.map_cons, List.sum_cons] at hst
    exact va_mmin hx hb hml2 hown (hts _ (tz_mem g1)) (hts _ (tz_mem k2)) (hts _ (tz_mem k7)) (hts _ (tz_mem c2)) hR.1 (by omega) (Nat.zero_le _) (Nat.zero_le _) hd (kk H locs hW)
  · cases h
    simp only [List.map_cons, List.sum_cons] at hst
    exact va_mmax_long hx hb hml2 hown (hts _ (tz_mem g1)) (hts _ (tz_mem k3)) (hts _ (tz_mem k7)) (hts _ (tz_mem c3)) hR.1 (by omega) (Nat.zero_le _) (Nat.zero_le _) hd (kk H locs hW)
  · cases h
    simp only [List.map_cons, List.sum_cons] at hst
    exact va_mmin_long hx hb hml2 hown (hts _ (tz_mem g1)) (hts _ (tz_mem k4)) (hts _ (tz_mem k7)) (hts _ (tz_mem c4)) hR.1 (by omega) (Nat.zero_le _) (Nat.zero_le _) hd (kk H locs hW)
  · next nn dp a sp a0 st =>
    obtain ⟨hP, hD, hSS⟩ := hW
    have hsys : (Cond.initialized "java/lang/System").before args s = true := hts _ (tz_mem nt_sys)
    have hloc : (st'.map fun v => v.category).sum + (nativeFrameWords "java/lang/System" "arraycopy" 5 + 11) ≤ R.locals := by
      have h9 : nativeFrameWords "java/lang/System" "arraycopy" 5 + 11 ≤ 32 := by decide +kernel
      omega
    split at h
    · next hS =>
      cases h
      obtain ⟨b1, b2, b3, b4, b5, b6⟩ := hbb
      have h15 : E.2.2.1 a < 15 := by omega
      obtain ⟨q1, hq1⟩ := tx_at (I := I) (J := J) (P := P) hE h15
      have hq1' := hq1
      obtain ⟨q0, hq0⟩ := tx_at (I := I) (J := J) (P := P) hE (show E.2.2.1 a0 < 15 by omega)
      rw [show tx_cell E.2.1 E.2.2.1 E.2.2.2.1 I J P a = .inl (E.2.1.1, E.2.2.2.1 a, .inl (I a)) by simp [tx_cell, tx_E, hS]] at hq1
      rw [show tx_cell E.2.1 E.2.2.1 E.2.2.2.1 I J P a0 = .inl (E.2.1.1, E.2.2.2.1 a0, .inl (I a0)) by simp [tx_cell, tx_E, b1]] at hq0
      refine va_copyi hx hb hml2 hown (hts _ (tz_mem g1)) (hts _ (tz_mem k6)) (hts _ (tz_mem k5)) hsys hK hP hD hSS q0 q1 0 0 hq0 hq1 rfl rfl rfl b2 b3 b4 b5 b6 (fun _ _ => rfl) hR.1 hloc hd (fun H1 locs1 g1 g2 g3 => ?_)
      rw [tx_set (I' := uA I a (va_cpy (I a0) (I a) sp.toNatClampNeg dp.toNatClampNeg nn.toNatClampNeg)) (J' := J) (P' := P) hE hD h15 hq1' _ (by simp only [tx_cell, tx_E, hS, uA_row]; rfl) (fun b hb => ⟨(uA_off I _ hb).symm, rfl, rfl⟩)] at g1 g2
      exact kk H1 locs1 ⟨g1, g2, g3⟩
    · cases h
      obtain ⟨b0, b1, b2, b3, b4, b5, b6⟩ := hbb
      have h15 : E.2.2.1 a < 15 := by omega
      obtain ⟨q1, hq1⟩ := tx_at (I := I) (J := J) (P := P) hE h15
      have hq1' := hq1
      obtain ⟨q0, hq0⟩ := tx_at (I := I) (J := J) (P := P) hE (show E.2.2.1 a0 < 15 by omega)
      rw [show tx_cell E.2.1 E.2.2.1 E.2.2.2.1 I J P a = .inl (E.2.1.2.1, E.2.2.2.1 a, .inr (.inl (J a))) by simp [tx_cell, tx_E, b0]] at hq1
      rw [show tx_cell E.2.1 E.2.2.1 E.2.2.2.1 I J P a0 = .inl (E.2.1.2.1, E.2.2.2.1 a0, .inr (.inl (J a0))) by simp [tx_cell, tx_E, b1]] at hq0
      refine va_copyl hx hb hml2 hown (hts _ (tz_mem g1)) (hts _ (tz_mem k6)) (hts _ (tz_mem k5)) hsys hK hP hD hSS q0 q1 1 1 hq0 hq1 rfl rfl rfl b2 b3 b4 b5 b6 (fun _ _ => rfl) hR.1 hloc hd (fun H1 locs1 g1 g2 g3 => ?_)
      rw [tx_set (I' := I) (J' := uA J a (va_cpy (J a0) (J a) sp.toNatClampNeg dp.toNatClampNeg nn.toNatClampNeg)) (P' := P) hE hD h15 hq1' _ (by simp only [tx_cell, tx_E, b0, uA_row]; rfl) (fun b hb => ⟨rfl, (uA_off J _ hb).symm, rfl⟩)] at g1 g2
      exact kk H1 locs1 ⟨g1, g2, g3⟩
  · cases h
end TXT

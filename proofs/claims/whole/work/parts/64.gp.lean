/-! SEGMENTS: runs of the pure machine without calls, up to a stop; over the JVM with any count of cells and slots -/
section SGT
variable {p : Program} {l : Launch} {e : Env} {R : Room} {s : State} {m : MethodId} {args : Array Value} {below : List Frame} {meth : Method} {c : Code} {Q : State → Prop}
variable {E : tx_En} {A : Nat → Prop} {H0 H : Heap} {locs : List Loc} {cells slots : Nat} {cc : ByteArray} {nL o pc len : Nat} {i : Instr} {st st' : List Value} {ls : Array Slot} {ll : List (Option Value)} {I I' : IM} {J J' : JM} {P P' : PM}
theorem sg_aald {D : va_G} {cl : List vw_C} {tys : List (ClassId × FieldType)} {ws : va_W} {a : Nat} {rest : List Value} (hexec : p.tables.exec = Jvm.exec) (hb : c.code = cc) (hK : va_K D cl tys s) (hP : va_P D cl ws H) (q0 t0 : Nat) {cA : ClassId} {ty : FieldType} {n : Nat} {f : Nat → Option Nat} (ha : ws[q0]? = some (a, .inl (cA, n, .inr (.inr (.inr (.inr f)))))) (ht : tys[t0]? = some (cA, ty)) (hty : ty.isReference = true) {i : Int32} (hin : vp_in i n) (hdg : decode cc pc = .ok (.aaload, 1))
    (kk : W p l e R s m args below meth c H locs cells slots Q (F0 m (pc + 1) ls (va_rf (f i.toNatClampNeg) :: rest))) : W p l e R s m args below meth c H locs cells slots Q (F0 m pc ls (.int i :: .ref a :: rest)) := by
  have hlt : i.toNatClampNeg < n := Nat.not_le.mp fun q => hin (Or.inr q)
  exact W.aald (v := va_rf (f i.toNatClampNeg)) (ty := ty) hexec hb (hP q0 _ ha) ((hK.2 t0 _ ht).1 n (fun j => va_rf (f j))) hty (fun q => by cases q) (by show ¬ (i < 0 ∨ (arrV _ _ _).slots.size ≤ _); rw [arrV_size]; exact hin) (by show (arrV _ _ _).slots[_]? = _; rw [arrV_read _ _ hlt]) rfl rfl hdg kk

set_option maxHeartbeats 4000000 in
theorem sg_alu (C : Cx E o cc nL p s m args meth c) (hd : decode cc pc = .ok (i, len)) (hl : len = tx_len1 i) (h : tx_alu (cres o) i st = some st') (kk : W p l e R s m args below meth c H locs cells slots Q (F0 m (pc + len) ls st')) : W p l e R s m args below meth c H locs cells slots Q (F0 m pc ls st) := by
  obtain ⟨hx, hb, -, hown, hts, -, -, -⟩ := C
  subst hl
  unfold tx_alu at h
  split at h
  · cases h; exact lv_iconst hx hb hd rfl kk
  · cases h; exact lv_bipush hx hb hd rfl kk
  · cases h; exact lv_sipush hx hb hd rfl kk
  · cases h; exact lv_lconst hx hb hd rfl kk
  · obtain ⟨v, hc, rfl⟩ := Option.map_eq_some_iff.mp h
    exact lv_ldc2 hx hb hown (hts _ (tz_mem (ct_ok o _ (tb_res hc)))) hd kk
  · cases h; exact lv_iadd hx hb hd kk
  · cases h; exact lv_isub hx hb hd kk
  · cases h; exact lv_imul hx hb hd kk
  · cases h; exact lv_iand hx hb hd kk
  · cases h; exact lv_ishr hx hb hd kk
  · split at h
    · cases h
    · next hne => cases h; exact lv_irem hx hb hd hne kk
  · split at h
    · cases h
    · next hne => cases h; exact lv_idiv hx hb hd hne kk
  · cases h; exact lv_ladd hx hb hd kk
  · cases h; exact lv_lsub hx hb hd kk
  · cases h; exact lv_lmul hx hb hd kk
  · split at h
    · cases h
    · next hne => cases h; exact lv_ldiv hx hb hd hne kk
  · cases h; exact lv_i2l hx hb hd rfl kk
  · cases h; exact W.lcmp hx hb hd kk
  · cases h; exact lv_dup hx hb hd rfl kk
  · cases h; exact lv_dup hx hb hd rfl kk
  · cases h; exact lv_dup2_11 hx hb hd rfl rfl kk
  · cases h; exact lv_dup2_2 hx hb hd rfl kk
  · cases h; exact lv_pop hx hb hd rfl kk
  · cases h; exact lv_pop2_2 hx hb hd rfl kk
  · cases h

set_option maxHeartbeats 4000000 in
theorem sg_lod (C : Cx E o cc nL p s m args meth c) (hd : decode cc pc = .ok (i, len)) {k t : Nat} {v : Value} (h : tx_lod i = some (k, t, len)) (hL : Lv ls nL ll) (hv : ll[k]? = some (some v)) (ht : tx_tc v = t) (kk : W p l e R s m args below meth c H locs cells slots Q (F0 m (pc + len) ls (v :: st))) : W p l e R s m args below meth c H locs cells slots Q (F0 m pc ls st) := by
  obtain ⟨hx, hb, -, hown, hts, -, -, -⟩ := C
  unfold tx_lod at h
  split at h
  · cases h; cases v <;> first | exact lv_iload_n hx hb hd rfl (hL.get hv) kk | exact absurd ht (by simp [tx_tc])
  · cases h; cases v <;> first | exact lv_iload hx hb hd (hL.get hv) kk | exact absurd ht (by simp [tx_tc])
  · cases h; cases v <;> first | exact lv_lload_n hx hb hd rfl (hL.get hv) kk | exact absurd ht (by simp [tx_tc])
  · cases h; cases v <;> first | exact lv_lload hx hb hd (hL.get hv) kk | exact absurd ht (by simp [tx_tc])
  · cases h; cases v <;> first | exact lv_aload_n hx hb hd rfl (hL.get hv) kk | exact absurd ht (by simp [tx_tc])
  · cases h; cases v <;> first | exact lv_aload hx hb hd (hL.get hv) kk | exact absurd ht (by simp [tx_tc])
  · cases h

set_option maxHeartbeats 4000000 in
theorem sg_sto (C : Cx E o cc nL p s m args meth c) (hd : decode cc pc = .ok (i, len)) {k t : Nat} {v : Value} (h : tx_sto i = some (k, t, len)) (hL : Lv ls nL ll) (ht : tx_tc v = t) (hk : (if t = 1 then k + 1 else k) < ll.length) (kk : ∀ ls', Lv ls' nL (if t = 1 then sl2 ll k v else sl1 ll k v) → W p l e R s m args below meth c H locs cells slots Q (F0 m (pc + len) ls' st)) : W p l e R s m args below meth c H locs cells slots Q (F0 m pc ls (v :: st)) := by
  obtain ⟨hx, hb, -, hown, hts, -, -, -⟩ := C
  rw [hL.1] at hk
  unfold tx_sto at h
  split at h
  · cases h; cases v <;> first | exact lv_istore_n hx hb hd rfl hL.2 hk rfl (fun ls' h' => kk ls' (Lv.put1 hL.1 h')) | exact absurd ht (by simp [tx_tc])
  · cases h; cases v <;> first | exact lv_istore hx hb hd hL.2 hk rfl (fun ls' h' => kk ls' (Lv.put1 hL.1 h')) | exact absurd ht (by simp [tx_tc])
  · cases h; cases v <;> first | exact lv_lstore_n hx hb hd rfl hL.2 hk rfl (fun ls' h' => kk ls' (Lv.put2 hL.1 hk h')) | exact absurd ht (by simp [tx_tc])
  · cases h; cases v <;> first | exact lv_lstore hx hb hd hL.2 hk rfl (fun ls' h' => kk ls' (Lv.put2 hL.1 hk h')) | exact absurd ht (by simp [tx_tc])
  · cases h; cases v <;> first | exact lv_astore_n hx hb hd rfl hL.2 hk rfl (fun ls' h' => kk ls' (Lv.put1 hL.1 h')) | exact absurd ht (by simp [tx_tc])
  · cases h; cases v <;> first | exact lv_astore hx hb hd hL.2 hk rfl (fun ls' h' => kk ls' (Lv.put1 hL.1 h')) | exact absurd ht (by simp [tx_tc])
  · cases h

theorem sg_inc (C : Cx E o cc nL p s m args meth c) {k : Nat} {n : Int} {v : Int32} (hd : decode cc pc = .ok (.iinc k n, 3)) (hL : Lv ls nL ll) (hv : ll[k]? = some (some (.int v))) (kk : ∀ ls', Lv ls' nL (sl1 ll k (.int (v + Int32.ofInt n))) → W p l e R s m args below meth c H locs cells slots Q (F0 m (pc + 3) ls' st)) : W p l e R s m args below meth c H locs cells slots Q (F0 m pc ls st) := by
  obtain ⟨hx, hb, -, hown, hts, -, -, -⟩ := C
  obtain ⟨z, hz⟩ := List.getElem?_of_mem ((ents_mem ll 0 k (.int v)).mpr ⟨k, by omega, hv⟩)
  have hk : k < nL := by rw [← hL.1]; exact (List.getElem?_eq_some_iff.mp hv).1
  exact lv_iinc hx hb hd hL.2 hz rfl hk rfl (fun ls' h' => kk ls' (Lv.put1 hL.1 h'))

set_option maxHeartbeats 4000000 in
theorem sg_br (C : Cx E o cc nL p s m args meth c) (hd : decode cc pc = .ok (i, 3)) {b : Prop} {off : Int} {tgt : Nat} (h : tx_br i st = some (b, off, st')) (ht : (pc : Int) + off = (tgt : Int)) (kt : b → W p l e R s m args below meth c H locs cells slots Q (F0 m tgt ls st')) (kf : ¬ b → W p l e R s m args below meth c H locs cells slots Q (F0 m (pc + 3) ls st')) : W p l e R s m args below meth c H locs cells slots Q (F0 m pc ls st) := by
  obtain ⟨hx, hb, -, hown, hts, -, -, -⟩ := C
  unfold tx_br at h
  split at h
  · cases h; exact lv_if_eq hx hb hd ht kt kf
  · cases h; exact lv_if_ne hx hb hd ht kt (fun q => kf (fun z => z q))
  · cases h; exact lv_if_lt hx hb hd ht kt kf
  · cases h; exact lv_if_ge hx hb hd ht kt kf
  · cases h; exact lv_if_gt hx hb hd ht kt kf
  · cases h; exact lv_if_le hx hb hd ht kt kf
  · cases h; exact lv_icmp_eq hx hb hd ht kt kf
  · cases h; exact lv_icmp_ne hx hb hd ht kt (fun q => kf (fun z => z q))
  · cases h; exact lv_icmp_lt hx hb hd ht kt kf
  · cases h; exact lv_icmp_ge hx hb hd ht kt kf
  · cases h; exact lv_icmp_gt hx hb hd ht kt kf
  · cases h; exact lv_icmp_le hx hb hd ht kt kf
  · cases h

theorem sg_go (C : Cx E o cc nL p s m args meth c) (hd : decode cc pc = .ok (i, len)) (h3 : ∀ off, i = .goto off → len = 3) {off : Int} {tgt : Nat} (h : tx_go i st = some (off, st')) (ht : (pc : Int) + off = (tgt : Int)) (kk : W p l e R s m args below meth c H locs cells slots Q (F0 m tgt ls st')) : W p l e R s m args below meth c H locs cells slots Q (F0 m pc ls st) := by
  obtain ⟨hx, hb, -, hown, hts, -, -, -⟩ := C
  unfold tx_go at h
  split at h
  · cases h
    have := h3 _ rfl
    subst this
    exact lv_goto hx hb hd ht kk
  · split at h
    · next hout => cases h; exact lv_tableOut hx hb hd hout ht kk
    · next d lo hi offs x st hin =>
      cases ho : offs[(x.toInt - lo).toNat]? with
      | none => rw [ho] at h; cases h
      | some z =>
        rw [ho] at h
        cases h
        exact lv_tableIn hx hb hd (fun q => hin (Or.inl q)) (fun q => hin (Or.inr q)) ho ht kk
  · split at h
    · next hs => cases h; exact lv_lookup hx hb hd hs rfl ht kk
    · cases h
  · cases h

set_option maxHeartbeats 4000000 in
theorem sg_getf (C : Cx E o cc nL p s m args meth c) {n k j t a : Nat} (hd : decode cc pc = .ok (.getfield n, 3)) (hf : fres o n = some (k, j)) (hS : E.2.2.1 a = k) (ht : (tx_fk k)[j]? = some t) (hW : Wd E A H0 I J P H locs) (kk : W p l e R s m args below meth c H locs cells slots Q (F0 m (pc + 3) ls (tx_v (I a) (J a) (P a) t j :: st))) : W p l e R s m args below meth c H locs cells slots Q (F0 m pc ls (.ref a :: st)) := by
  obtain ⟨hx, hb, -, hown, hts, -, hK, hE⟩ := C
  obtain ⟨h1, h2, h3⟩ := ft_ok o _ (tb_res hf)
  dsimp only at h1 h2 h3
  obtain ⟨q0, hq0⟩ := tx_at (I := I) (J := J) (P := P) hE (show E.2.2.1 a < 15 by omega)
  rw [tx_cell_o hS h1] at hq0
  have hv := tx_fs_get (I a) (J a) (P a) (tx_fk k) 0 j t ht
  rw [Nat.zero_add] at hv
  exact va_get (D := E.1) hx hb hts (tx_layz k h1) hown hK hW.1 q0 hq0 (tx_cl k h1) j h2 (hts _ (tz_mem h3)) (fun _ z => z) hv hd kk

set_option maxHeartbeats 4000000 in
theorem sg_putf (C : Cx E o cc nL p s m args meth c) {n k j a : Nat} {v : Value} {b : Prop} (hd : decode cc pc = .ok (.putfield n, 3)) (hf : fres o n = some (k, j)) (hS : E.2.2.1 a = k) (hfin : (tx_T k j).2.2.2 = false) (hp : tx_pf I J P a k j v = some (b, I', J', P')) (hbb : b) (hW : Wd E A H0 I J P H locs) (kk : ∀ H1 locs1, Wd E A H0 I' J' P' H1 locs1 → W p l e R s m args below meth c H1 locs1 cells slots Q (F0 m (pc + 3) ls st)) : W p l e R s m args below meth c H locs cells slots Q (F0 m pc ls (v :: .ref a :: st)) := by
  obtain ⟨hx, hb, -, hown, hts, -, hK, hE⟩ := C
  obtain ⟨h1, h2, h3⟩ := ft_ok o _ (tb_res hf)
  dsimp only at h1 h2 h3
  have h15 : E.2.2.1 a < 15 := by omega
  obtain ⟨q0, hq0⟩ := tx_at (I := I) (J := J) (P := P) hE h15
  have hq1 := hq0
  rw [tx_cell_o hS h1] at hq0
  obtain ⟨hP, hD, hSS⟩ := hW
  have key : ∀ (t : Nat), (tx_fk k)[j]? = some t → narrow (tx_ty k j) v = v → fits (tx_ty k j) v = true → tx_v (I' a) (J' a) (P' a) t (0 + j) = v → (∀ m, m ≠ 0 + j → I a m = I' a m ∧ J a m = J' a m ∧ P a m = P' a m) → (∀ b, b ≠ a → I b = I' b ∧ J b = J' b ∧ P b = P' b) → W p l e R s m args below meth c H locs cells slots Q (F0 m pc ls (v :: .ref a :: st)) := by
    intro t ht hn hfit hv ho hob
    have hset := tx_fs_put (I a) (I' a) (J a) (J' a) (P a) (P' a) v (tx_fk k) 0 j t ht hv ho
    refine va_put (D := E.1) hx hb hts (tx_layz k h1) (tx_ty k) (tx_tyok k h1) (tx_nmok k h1) hown hK hP hD hSS q0 hq0 (tx_cl k h1) j h2 (hts _ (tz_mem h3)) (fun _ z => z) hfin (tx_tyok k h1 j h2) hn hfit (by rw [tx_fs_len, tx_len k h1]; exact h2) hd (fun H1 locs1 g1 g2 g3 => ?_)
    rw [hset, tx_set (I' := I') (J' := J') (P' := P') hE hD h15 hq1 _ (tx_cell_o hS h1) hob] at g1 g2
    exact kk H1 locs1 ⟨g1, g2, g3⟩
  unfold tx_pf at hp
  split at hp
  · next v =>
    cases hp
    obtain ⟨b1, b2, b3⟩ := hbb
    refine key 0 b1 b2 b3 ?_ (fun m hm => ?_) (fun b hb => ⟨(u2_off I j v hb).symm, rfl, rfl⟩)
    · simp [tx_v, u2]
    · exact ⟨by simp [u2, show m ≠ j by omega], rfl, rfl⟩
  · next v =>
    cases hp
    obtain ⟨b1, b2, b3⟩ := hbb
    refine key 1 b1 b2 b3 ?_ (fun m hm => ?_) (fun b hb => ⟨rfl, (u2_off J j v hb).symm, rfl⟩)
    · simp [tx_v, u2]
    · exact ⟨rfl, by simp [u2, show m ≠ j by omega], rfl⟩
  · cases hp

set_option maxHeartbeats 4000000 in
theorem sg_ald (C : Cx E o cc nL p s m args meth c) {b : Prop} (hd : decode cc pc = .ok (i, 1)) (h : tx_ald E.2.2.1 E.2.2.2.1 I J P i st = some (b, st')) (hbb : b) (hW : Wd E A H0 I J P H locs) (kk : W p l e R s m args below meth c H locs cells slots Q (F0 m (pc + 1) ls st')) : W p l e R s m args below meth c H locs cells slots Q (F0 m pc ls st) := by
  obtain ⟨hx, hb, -, hown, hts, -, hK, hE⟩ := C
  obtain ⟨hP, hD, hSS⟩ := hW
  unfold tx_ald at h
  split at h
  · next ix a st =>
    cases h
    obtain ⟨h1, h2⟩ := hbb
    obtain ⟨q0, hq0⟩ := tx_at (I := I) (J := J) (P := P) hE (show E.2.2.1 a < 15 by omega)
    rw [show tx_cell E.2.1 E.2.2.1 E.2.2.2.1 I J P a = .inl (E.2.1.1, E.2.2.2.1 a, .inl (I a)) by simp [tx_cell, tx_E, h1]] at hq0
    exact va_iald hx hb hK hP q0 0 hq0 rfl h2 hd kk
  · next ix a st =>
    cases h
    obtain ⟨h1, h2⟩ := hbb
    obtain ⟨q0, hq0⟩ := tx_at (I := I) (J := J) (P := P) hE (show E.2.2.1 a < 15 by omega)
    rw [show tx_cell E.2.1 E.2.2.1 E.2.2.2.1 I J P a = .inl (E.2.1.2.1, E.2.2.2.1 a, .inr (.inl (J a))) by simp [tx_cell, tx_E, h1]] at hq0
    exact va_lald hx hb hK hP q0 1 hq0 rfl h2 hd kk
  · next ix a st =>
    cases h
    obtain ⟨h1, h2⟩ := hbb
    obtain ⟨q0, hq0⟩ := tx_at (I := I) (J := J) (P := P) hE (show E.2.2.1 a < 15 by omega)
    rcases h1 with h1 | h1 | h1
    · rw [show tx_cell E.2.1 E.2.2.1 E.2.2.2.1 I J P a = .inl (E.2.1.2.2.1, E.2.2.2.1 a, .inr (.inr (.inr (.inr (P a))))) by simp [tx_cell, tx_E, h1]] at hq0
      exact sg_aald hx hb hK hP q0 2 hq0 rfl rfl h2 hd kk
    · rw [show tx_cell E.2.1 E.2.2.1 E.2.2.2.1 I J P a = .inl (E.2.1.2.2.2.1, E.2.2.2.1 a, .inr (.inr (.inr (.inr (P a))))) by simp [tx_cell, tx_E, h1]] at hq0
      exact sg_aald hx hb hK hP q0 3 hq0 rfl rfl h2 hd kk
    · rw [show tx_cell E.2.1 E.2.2.1 E.2.2.2.1 I J P a = .inl (E.2.1.2.2.2.2, E.2.2.2.1 a, .inr (.inr (.inr (.inr (P a))))) by simp [tx_cell, tx_E, h1]] at hq0
      exact sg_aald hx hb hK hP q0 4 hq0 rfl rfl h2 hd kk
  · cases h

set_option maxHeartbeats 4000000 in
theorem sg_ast (C : Cx E o cc nL p s m args meth c) {b : Prop} (hd : decode cc pc = .ok (i, 1)) (h : tx_ast E.2.2.1 E.2.2.2.1 I J P i st = some (b, st', I', J', P')) (hbb : b) (hW : Wd E A H0 I J P H locs) (kk : ∀ H1 locs1, Wd E A H0 I' J' P' H1 locs1 → W p l e R s m args below meth c H1 locs1 cells slots Q (F0 m (pc + 1) ls st')) : W p l e R s m args below meth c H locs cells slots Q (F0 m pc ls st) := by
  obtain ⟨hx, hb, -, hown, hts, -, hK, hE⟩ := C
  obtain ⟨hP, hD, hSS⟩ := hW
  unfold tx_ast at h
  split at h
  · next v ix a st =>
    cases h
    obtain ⟨h1, h2⟩ := hbb
    have h15 : E.2.2.1 a < 15 := by omega
    obtain ⟨q0, hq0⟩ := tx_at (I := I) (J := J) (P := P) hE h15
    have hq1 := hq0
    rw [show tx_cell E.2.1 E.2.2.1 E.2.2.2.1 I J P a = .inl (E.2.1.1, E.2.2.2.1 a, .inl (I a)) by simp [tx_cell, tx_E, h1]] at hq0
    refine va_iast hx hb hK hP hD hSS q0 0 hq0 rfl h2 hd (fun H1 locs1 g1 g2 g3 => ?_)
    rw [tx_set (I' := u2 I a ix.toNatClampNeg v) (J' := J) (P' := P) hE hD h15 hq1 _ (by simp only [tx_cell, tx_E, h1, u2_row]; rfl) (fun b hb => ⟨(u2_off I _ v hb).symm, rfl, rfl⟩)] at g1 g2
    exact kk H1 locs1 ⟨g1, g2, g3⟩
  · next v ix a st =>
    cases h
    obtain ⟨h1, h2⟩ := hbb
    have h15 : E.2.2.1 a < 15 := by omega
    obtain ⟨q0, hq0⟩ := tx_at (I := I) (J := J) (P := P) hE h15
    have hq1 := hq0
    rw [show tx_cell E.2.1 E.2.2.1 E.2.2.2.1 I J P a = .inl (E.2.1.2.1, E.2.2.2.1 a, .inr (.inl (J a))) by simp [tx_cell, tx_E, h1]] at hq0
    refine va_last hx hb hK hP hD hSS q0 1 hq0 rfl h2 hd (fun H1 locs1 g1 g2 g3 => ?_)
    rw [tx_set (I' := I) (J' := u2 J a ix.toNatClampNeg v) (P' := P) hE hD h15 hq1 _ (by simp only [tx_cell, tx_E, h1, u2_row]; rfl) (fun b hb => ⟨rfl, (u2_off J _ v hb).symm, rfl⟩)] at g1 g2
    exact kk H1 locs1 ⟨g1, g2, g3⟩
  · next v ix a st =>
    cases h
    obtain ⟨h1, h2⟩ := hbb
    have h15 : E.2.2.1 a < 15 := by omega
    obtain ⟨q0, hq0⟩ := tx_at (I := I) (J := J) (P := P) hE h15
    have hq1 := hq0
    rcases h1 with ⟨h1, h3⟩ | ⟨h1, h3⟩
    · obtain ⟨qk, hqk⟩ := tx_at (I := I) (J := J) (P := P) hE (show E.2.2.1 v < 15 by omega)
      rw [tx_cell_o h3 (by decide)] at hqk
      rw [show tx_cell E.2.1 E.2.2.1 E.2.2.2.1 I J P a = .inl (E.2.1.2.2.1, E.2.2.2.1 a, .inr (.inr (.inr (.inr (P a))))) by simp [tx_cell, tx_E, h1]] at hq0
      refine va_astq hx hb hK hP hD hSS q0 2 qk 4 hq0 (r := (RX2, TX2, 2)) rfl hqk rfl h2 hd (fun H1 locs1 g1 g2 g3 => ?_)
      rw [tx_set (I' := I) (J' := J) (P' := u2 P a ix.toNatClampNeg (some v)) hE hD h15 hq1 _ (by simp only [tx_cell, tx_E, h1, u2_row]; rfl) (fun b hb => ⟨rfl, rfl, (u2_off P _ _ hb).symm⟩)] at g1 g2
      exact kk H1 locs1 ⟨g1, g2, g3⟩
    · obtain ⟨qk, hqk⟩ := tx_at (I := I) (J := J) (P := P) hE (show E.2.2.1 v < 15 by omega)
      rw [tx_cell_o h3 (by decide)] at hqk
      rw [show tx_cell E.2.1 E.2.2.1 E.2.2.2.1 I J P a = .inl (E.2.1.2.2.2.1, E.2.2.2.1 a, .inr (.inr (.inr (.inr (P a))))) by simp [tx_cell, tx_E, h1]] at hq0
      refine va_astq hx hb hK hP hD hSS q0 3 qk 7 hq0 (r := (RX5, TX5, 6)) rfl hqk rfl h2 hd (fun H1 locs1 g1 g2 g3 => ?_)
      rw [tx_set (I' := I) (J' := J) (P' := u2 P a ix.toNatClampNeg (some v)) hE hD h15 hq1 _ (by simp only [tx_cell, tx_E, h1, u2_row]; rfl) (fun b hb => ⟨rfl, rfl, (u2_off P _ _ hb).symm⟩)] at g1 g2
      exact kk H1 locs1 ⟨g1, g2, g3⟩
  · cases h

end SGT
/-- where a segment ends: returns, calls, and what the machine has no step for -/
def SgSt (i : Instr) : Prop := tx_k i = 0 ∨ tx_k i = 11 ∨ tx_k i = 12 ∨ (tx_k i = 1 ∧ ∀ cst st, tx_alu cst i st = none)
abbrev TG : Type := Nat → List (Option Value) → List Value → IM → JM → PM → Prop
def gR (S N : Nat → Nat) (hp : Bool) (o : Nat) (cc : ByteArray) (T : TG) : Nat → Stt → Prop
  | 0, _ => False
  | n + 1, x => (∃ i len, decode cc x.1 = .ok (i, len) ∧ SgSt i ∧ T x.1 x.2.1 x.2.2.1 x.2.2.2.1 x.2.2.2.2.1 x.2.2.2.2.2) ∨ ∃ y, tx_N S N (fun _ _ _ _ _ _ _ _ _ => False) False o cc x y ∧ (hp = false → ∀ i len, decode cc x.1 = .ok (i, len) → tx_k i ≠ 8 ∧ tx_k i ≠ 10) ∧ gR S N hp o cc T n y
def Gp (S N : Nat → Nat) (hp : Bool) (M : MR) (T : TG) (pc : Nat) (ll : List (Option Value)) (st : List Value) (I : IM) (J : JM) (P : PM) : Prop := ∃ n, gR S N hp M.2.2.2.2.1 M.2.1 T n (pc, ll, st, I, J, P)
section GP
variable {S N : Nat → Nat} {hp : Bool} {M : MR} {T : TG} {pc len : Nat} {i : Instr} {ll : List (Option Value)} {st st' : List Value} {I I' : IM} {J J' : JM} {P P' : PM}
theorem stp_k {i : Instr} (h : tx_k i ≠ 0 ∧ tx_k i ≠ 11 ∧ tx_k i ≠ 12 ∧ tx_k i ≠ 1) : ¬ SgSt i := fun q => by
  rcases q with q | q | q | q
  · exact h.1 q
  · exact h.2.1 q
  · exact h.2.2.1 q
  · exact h.2.2.2 q.1
theorem stp_a {i : Instr} {cst : Nat → Option Int64} {st st' : List Value} (hk : tx_k i = 1) (h : tx_alu cst i st = some st') : ¬ SgSt i := fun q => by
  rcases q with q | q | q | q
  · exact absurd (hk.symm.trans q) (by decide)
  · exact absurd (hk.symm.trans q) (by decide)
  · exact absurd (hk.symm.trans q) (by decide)
  · rw [q.2 cst st] at h; cases h
theorem gp_stop (hd : decode M.2.1 pc = .ok (i, len)) (hs : SgSt i) (h : T pc ll st I J P) : Gp S N hp M T pc ll st I J P := ⟨1, Or.inl ⟨i, len, hd, hs, h⟩⟩
theorem gp_iff (hd : decode M.2.1 pc = .ok (i, len)) (hk : ¬ SgSt i) (hh : hp = false → tx_k i ≠ 8 ∧ tx_k i ≠ 10) : Gp S N hp M T pc ll st I J P ↔ ∃ y : Stt, tx_N S N (fun _ _ _ _ _ _ _ _ _ => False) False M.2.2.2.2.1 M.2.1 (pc, ll, st, I, J, P) y ∧ Gp S N hp M T y.1 y.2.1 y.2.2.1 y.2.2.2.1 y.2.2.2.2.1 y.2.2.2.2.2 := by
  constructor
  · rintro ⟨n, h⟩
    cases n with
    | zero => exact h.elim
    | succ n =>
      rcases h with ⟨i', len', h1, h2, -⟩ | ⟨y, h1, -, h2⟩
      · have := hd.symm.trans h1
        cases this
        exact absurd h2 hk
      · exact ⟨y, h1, n, h2⟩
  · rintro ⟨y, h1, n, h2⟩
    refine ⟨n + 1, Or.inr ⟨y, h1, fun h i' len' hd' => ?_, h2⟩⟩
    have := hd.symm.trans hd'
    cases this
    exact hh h
theorem gp_one {y : Stt} (hd : decode M.2.1 pc = .ok (i, len)) (hk : ¬ SgSt i) (hh : hp = false → tx_k i ≠ 8 ∧ tx_k i ≠ 10) (h : ∀ z, tx_N S N (fun _ _ _ _ _ _ _ _ _ => False) False M.2.2.2.2.1 M.2.1 (pc, ll, st, I, J, P) z ↔ z = y) : Gp S N hp M T pc ll st I J P ↔ Gp S N hp M T y.1 y.2.1 y.2.2.1 y.2.2.2.1 y.2.2.2.2.1 y.2.2.2.2.2 := by
  rw [gp_iff hd hk hh]
  constructor
  · rintro ⟨z, h1, h2⟩
    rw [(h z).mp h1] at h2
    exact h2
  · intro hw
    exact ⟨y, (h y).mpr rfl, hw⟩
theorem gp_alu (hk1 : tx_k i = 1) (hl : len = tx_len1 i) (h : tx_alu (cres M.2.2.2.2.1) i st = some st') (hd : decode M.2.1 pc = .ok (i, len)) : Gp S N hp M T pc ll st I J P ↔ Gp S N hp M T (pc + len) ll st' I J P := by
  have hk : tx_k (i) = 1 := hk1
  refine gp_one (y := ((pc + len), ll, st', I, J, P)) hd (stp_a hk1 h) (fun _ => by rw [hk]; decide) (fun z => ⟨fun hz => ?_, fun hz => ?_⟩)
  · obtain ⟨i', len', h1, hz⟩ := hz
    have h2 := hd.symm.trans h1
    cases h2
    rcases hz with hz | hz | hz | hz | hz | hz | hz | hz | hz | hz | hz | hz | hz
    · obtain ⟨-, -, st2, h2, rfl⟩ := hz
      dsimp only at h2
      rw [h] at h2
      cases h2
      rfl
    · exact absurd (hk.symm.trans hz.1) (by decide)
    · exact absurd (hk.symm.trans hz.1) (by decide)
    · exact absurd (hk.symm.trans hz.1) (by decide)
    · exact absurd (hk.symm.trans hz.1) (by decide)
    · exact absurd (hk.symm.trans hz.1) (by decide)
    · exact absurd (hk.symm.trans hz.1) (by decide)
    · exact absurd (hk.symm.trans hz.1) (by decide)
    · exact absurd (hk.symm.trans hz.1) (by decide)
    · exact absurd (hk.symm.trans hz.1) (by decide)
    · exact absurd (hk.symm.trans hz.1) (by decide)
    · exact absurd (hk.symm.trans hz.1) (by decide)
    · exact absurd (hk.symm.trans hz.1) (by decide)
  · subst hz
    exact ⟨_, _, hd, Or.inl ⟨hk, hl, _, h, rfl⟩⟩

theorem gp_lod {k t : Nat} {v : Value} (hk1 : tx_k i = 2) (h : tx_lod i = some (k, t, len)) (hv : ll[k]? = some (some v)) (ht : tx_tc v = t) (hd : decode M.2.1 pc = .ok (i, len)) : Gp S N hp M T pc ll st I J P ↔ Gp S N hp M T (pc + len) ll (v :: st) I J P := by
  have hk : tx_k (i) = 2 := hk1
  refine gp_one (y := ((pc + len), ll, (v :: st), I, J, P)) hd (stp_k (by rw [hk]; decide)) (fun _ => by rw [hk]; decide) (fun z => ⟨fun hz => ?_, fun hz => ?_⟩)
  · obtain ⟨i', len', h1, hz⟩ := hz
    have h2 := hd.symm.trans h1
    cases h2
    rcases hz with hz | hz | hz | hz | hz | hz | hz | hz | hz | hz | hz | hz | hz
    · exact absurd (hk.symm.trans hz.1) (by decide)
    · obtain ⟨-, k2, t2, v2, h2, h3, h4, rfl⟩ := hz
      dsimp only at h3
      rw [h] at h2
      cases h2
      rw [hv] at h3
      cases h3
      rfl
    · exact absurd (hk.symm.trans hz.1) (by decide)
    · exact absurd (hk.symm.trans hz.1) (by decide)
    · exact absurd (hk.symm.trans hz.1) (by decide)
    · exact absurd (hk.symm.trans hz.1) (by decide)
    · exact absurd (hk.symm.trans hz.1) (by decide)
    · exact absurd (hk.symm.trans hz.1) (by decide)
    · exact absurd (hk.symm.trans hz.1) (by decide)
    · exact absurd (hk.symm.trans hz.1) (by decide)
    · exact absurd (hk.symm.trans hz.1) (by decide)
    · exact absurd (hk.symm.trans hz.1) (by decide)
    · exact absurd (hk.symm.trans hz.1) (by decide)
  · subst hz
    exact ⟨_, _, hd, Or.inr (Or.inl ⟨hk, _, _, _, h, hv, ht, rfl⟩)⟩

theorem gp_sto {k t : Nat} {v : Value} {ll2 : List (Option Value)} (hk1 : tx_k i = 3) (h : tx_sto i = some (k, t, len)) (hs : st = v :: st') (ht : tx_tc v = t) (hk2 : (if t = 1 then k + 1 else k) < ll.length) (hl2 : (if t = 1 then sl2 ll k v else sl1 ll k v) = ll2) (hd : decode M.2.1 pc = .ok (i, len)) : Gp S N hp M T pc ll st I J P ↔ Gp S N hp M T (pc + len) ll2 st' I J P := by
  have hk : tx_k (i) = 3 := hk1
  refine gp_one (y := ((pc + len), ll2, st', I, J, P)) hd (stp_k (by rw [hk]; decide)) (fun _ => by rw [hk]; decide) (fun z => ⟨fun hz => ?_, fun hz => ?_⟩)
  · obtain ⟨i', len', h1, hz⟩ := hz
    have h2 := hd.symm.trans h1
    cases h2
    rcases hz with hz | hz | hz | hz | hz | hz | hz | hz | hz | hz | hz | hz | hz
    · exact absurd (hk.symm.trans hz.1) (by decide)
    · exact absurd (hk.symm.trans hz.1) (by decide)
    · obtain ⟨-, k2, t2, v2, s2, h2, h3, h4, h5, rfl⟩ := hz
      dsimp only at h3
      rw [h] at h2
      cases h2
      rw [hs] at h3
      cases h3
      rw [← hl2]
    · exact absurd (hk.symm.trans hz.1) (by decide)
    · exact absurd (hk.symm.trans hz.1) (by decide)
    · exact absurd (hk.symm.trans hz.1) (by decide)
    · exact absurd (hk.symm.trans hz.1) (by decide)
    · exact absurd (hk.symm.trans hz.1) (by decide)
    · exact absurd (hk.symm.trans hz.1) (by decide)
    · exact absurd (hk.symm.trans hz.1) (by decide)
    · exact absurd (hk.symm.trans hz.1) (by decide)
    · exact absurd (hk.symm.trans hz.1) (by decide)
    · exact absurd (hk.symm.trans hz.1) (by decide)
  · subst hz
    exact ⟨_, _, hd, Or.inr (Or.inr (Or.inl ⟨hk, _, _, _, _, h, hs, ht, hk2, by rw [← hl2]⟩))⟩

theorem gp_inc {k : Nat} {n : Int} {v : Int32} {ll2 : List (Option Value)} (hv : ll[k]? = some (some (.int v))) (hl2 : sl1 ll k (.int (v + Int32.ofInt n)) = ll2) (hd : decode M.2.1 pc = .ok (.iinc k n, 3)) : Gp S N hp M T pc ll st I J P ↔ Gp S N hp M T (pc + 3) ll2 st I J P := by
  have hk : tx_k (.iinc k n) = 4 := rfl
  refine gp_one (y := ((pc + 3), ll2, st, I, J, P)) hd (stp_k (by rw [hk]; decide)) (fun _ => by rw [hk]; decide) (fun z => ⟨fun hz => ?_, fun hz => ?_⟩)
  · obtain ⟨i', len', h1, hz⟩ := hz
    have h2 := hd.symm.trans h1
    cases h2
    rcases hz with hz | hz | hz | hz | hz | hz | hz | hz | hz | hz | hz | hz | hz
    · exact absurd (hk.symm.trans hz.1) (by decide)
    · exact absurd (hk.symm.trans hz.1) (by decide)
    · exact absurd (hk.symm.trans hz.1) (by decide)
    · obtain ⟨-, -, k2, n2, v2, h2, h3, rfl⟩ := hz
      dsimp only at h3
      cases h2
      rw [hv] at h3
      cases h3
      rw [← hl2]
    · exact absurd (hk.symm.trans hz.1) (by decide)
    · exact absurd (hk.symm.trans hz.1) (by decide)
    · exact absurd (hk.symm.trans hz.1) (by decide)
    · exact absurd (hk.symm.trans hz.1) (by decide)
    · exact absurd (hk.symm.trans hz.1) (by decide)
    · exact absurd (hk.symm.trans hz.1) (by decide)
    · exact absurd (hk.symm.trans hz.1) (by decide)
    · exact absurd (hk.symm.trans hz.1) (by decide)
    · exact absurd (hk.symm.trans hz.1) (by decide)
  · subst hz
    exact ⟨_, _, hd, Or.inr (Or.inr (Or.inr (Or.inl ⟨rfl, rfl, _, _, _, rfl, hv, by rw [← hl2]⟩)))⟩

theorem gp_go {off : Int} {tgt : Nat} (hk1 : tx_k i = 6) (h3 : ∀ off, i = .goto off → len = 3) (h : tx_go i st = some (off, st')) (ht : ((pc : Nat) : Int) + off = ((tgt : Nat) : Int)) (hd : decode M.2.1 pc = .ok (i, len)) : Gp S N hp M T pc ll st I J P ↔ Gp S N hp M T tgt ll st' I J P := by
  have hk : tx_k (i) = 6 := hk1
  refine gp_one (y := (tgt, ll, st', I, J, P)) hd (stp_k (by rw [hk]; decide)) (fun _ => by rw [hk]; decide) (fun z => ⟨fun hz => ?_, fun hz => ?_⟩)
  · obtain ⟨i', len', h1, hz⟩ := hz
    have h2 := hd.symm.trans h1
    cases h2
    rcases hz with hz | hz | hz | hz | hz | hz | hz | hz | hz | hz | hz | hz | hz
    · exact absurd (hk.symm.trans hz.1) (by decide)
    · exact absurd (hk.symm.trans hz.1) (by decide)
    · exact absurd (hk.symm.trans hz.1) (by decide)
    · exact absurd (hk.symm.trans hz.1) (by decide)
    · exact absurd (hk.symm.trans hz.1) (by decide)
    · obtain ⟨-, -, off2, st2, tgt2, h2, h4, rfl⟩ := hz
      dsimp only at h2 h4
      rw [h] at h2
      cases h2
      have : tgt2 = tgt := by omega
      subst this
      rfl
    · exact absurd (hk.symm.trans hz.1) (by decide)
    · exact absurd (hk.symm.trans hz.1) (by decide)
    · exact absurd (hk.symm.trans hz.1) (by decide)
    · exact absurd (hk.symm.trans hz.1) (by decide)
    · exact absurd (hk.symm.trans hz.1) (by decide)
    · exact absurd (hk.symm.trans hz.1) (by decide)
    · exact absurd (hk.symm.trans hz.1) (by decide)
  · subst hz
    exact ⟨_, _, hd, Or.inr (Or.inr (Or.inr (Or.inr (Or.inr (Or.inl ⟨hk, h3, _, _, _, h, ht, rfl⟩)))))⟩

theorem gp_br {b : Prop} {off : Int} {tgt : Nat} (hk1 : tx_k i = 5) (h : tx_br i st = some (b, off, st')) (ht : ((pc : Nat) : Int) + off = ((tgt : Nat) : Int)) (hd : decode M.2.1 pc = .ok (i, 3)) : Gp S N hp M T pc ll st I J P ↔ (b → Gp S N hp M T tgt ll st' I J P) ∧ (¬ b → Gp S N hp M T (pc + 3) ll st' I J P) := by
  rw [gp_iff hd (stp_k (by rw [hk1]; decide)) (fun _ => by rw [hk1]; decide)]
  constructor
  · rintro ⟨z, ⟨i', len', h1, hz⟩, hw⟩
    have h2 := hd.symm.trans h1
    cases h2
    rcases hz with hz | hz | hz | hz | hz | hz | hz | hz | hz | hz | hz | hz | hz
    · exact absurd (hk1.symm.trans hz.1) (by decide)
    · exact absurd (hk1.symm.trans hz.1) (by decide)
    · exact absurd (hk1.symm.trans hz.1) (by decide)
    · exact absurd (hk1.symm.trans hz.1) (by decide)
    · obtain ⟨-, -, b2, off2, st2, tgt2, h2, h4, h5⟩ := hz
      dsimp only at h2 h4 h5
      rw [h] at h2
      cases h2
      have : tgt2 = tgt := by omega
      subst this
      rcases h5 with ⟨h5, rfl⟩ | ⟨h5, rfl⟩
      · exact ⟨fun _ => hw, fun q => absurd h5 q⟩
      · exact ⟨fun q => absurd q h5, fun _ => hw⟩
    · exact absurd (hk1.symm.trans hz.1) (by decide)
    · exact absurd (hk1.symm.trans hz.1) (by decide)
    · exact absurd (hk1.symm.trans hz.1) (by decide)
    · exact absurd (hk1.symm.trans hz.1) (by decide)
    · exact absurd (hk1.symm.trans hz.1) (by decide)
    · exact absurd (hk1.symm.trans hz.1) (by decide)
    · exact absurd (hk1.symm.trans hz.1) (by decide)
    · exact absurd (hk1.symm.trans hz.1) (by decide)
  · rintro ⟨h1, h2⟩
    by_cases hb : b
    · exact ⟨_, ⟨_, _, hd, Or.inr (Or.inr (Or.inr (Or.inr (Or.inl ⟨hk1, rfl, _, _, _, _, h, ht, Or.inl ⟨hb, rfl⟩⟩))))⟩, h1 hb⟩
    · exact ⟨_, ⟨_, _, hd, Or.inr (Or.inr (Or.inr (Or.inr (Or.inl ⟨hk1, rfl, _, _, _, _, h, ht, Or.inr ⟨hb, rfl⟩⟩))))⟩, h2 hb⟩

theorem gp_getf {n k j t a : Nat} {v : Value} (hf : fres M.2.2.2.2.1 n = some (k, j)) (hs : st = .ref a :: st') (ht : (tx_fk k)[j]? = some t) (hv : tx_v (I a) (J a) (P a) t j = v) (hd : decode M.2.1 pc = .ok (.getfield n, 3)) : Gp S N hp M T pc ll st I J P ↔ (S a = k) ∧ Gp S N hp M T (pc + 3) ll (v :: st') I J P := by
  have hk : tx_k (.getfield n) = 7 := rfl
  rw [gp_iff hd (stp_k (by rw [hk]; decide)) (fun _ => by rw [hk]; decide)]
  constructor
  · rintro ⟨z, ⟨i', len', h1, hz⟩, hw⟩
    have h2 := hd.symm.trans h1
    cases h2
    rcases hz with hz | hz | hz | hz | hz | hz | hz | hz | hz | hz | hz | hz | hz
    · exact absurd (hk.symm.trans hz.1) (by decide)
    · exact absurd (hk.symm.trans hz.1) (by decide)
    · exact absurd (hk.symm.trans hz.1) (by decide)
    · exact absurd (hk.symm.trans hz.1) (by decide)
    · exact absurd (hk.symm.trans hz.1) (by decide)
    · exact absurd (hk.symm.trans hz.1) (by decide)
    · obtain ⟨-, -, n2, k2, j2, t2, a2, s2, h2, h3, h4, h5, h6, rfl⟩ := hz
      dsimp only at h4 hw
      cases h2
      rw [hf] at h3
      cases h3
      rw [hs] at h4
      cases h4
      rw [ht] at h6
      cases h6
      rw [hv] at hw
      exact ⟨h5, hw⟩
    · exact absurd (hk.symm.trans hz.1) (by decide)
    · exact absurd (hk.symm.trans hz.1) (by decide)
    · exact absurd (hk.symm.trans hz.1) (by decide)
    · exact absurd (hk.symm.trans hz.1) (by decide)
    · exact absurd (hk.symm.trans hz.1) (by decide)
    · exact absurd (hk.symm.trans hz.1) (by decide)
  · rintro ⟨hc, hw⟩
    subst hv
    exact ⟨_, ⟨_, _, hd, Or.inr (Or.inr (Or.inr (Or.inr (Or.inr (Or.inr (Or.inl ⟨rfl, rfl, _, _, _, _, _, _, rfl, hf, hs, hc, ht, rfl⟩))))))⟩, hw⟩

theorem gp_putf {n k j a : Nat} {v : Value} {b : Prop} (hf : fres M.2.2.2.2.1 n = some (k, j)) (hs : st = v :: .ref a :: st') (hfin : (tx_T k j).2.2.2 = false) (hp : tx_pf I J P a k j v = some (b, I', J', P')) (hd : decode M.2.1 pc = .ok (.putfield n, 3)) : Gp S N true M T pc ll st I J P ↔ (S a = k ∧ b) ∧ Gp S N true M T (pc + 3) ll st' I' J' P' := by
  have hk : tx_k (.putfield n) = 8 := rfl
  rw [gp_iff hd (stp_k (by rw [hk]; decide)) (fun z => Bool.noConfusion z)]
  constructor
  · rintro ⟨z, ⟨i', len', h1, hz⟩, hw⟩
    have h2 := hd.symm.trans h1
    cases h2
    rcases hz with hz | hz | hz | hz | hz | hz | hz | hz | hz | hz | hz | hz | hz
    · exact absurd (hk.symm.trans hz.1) (by decide)
    · exact absurd (hk.symm.trans hz.1) (by decide)
    · exact absurd (hk.symm.trans hz.1) (by decide)
    · exact absurd (hk.symm.trans hz.1) (by decide)
    · exact absurd (hk.symm.trans hz.1) (by decide)
    · exact absurd (hk.symm.trans hz.1) (by decide)
    · exact absurd (hk.symm.trans hz.1) (by decide)
    · obtain ⟨-, -, n2, k2, j2, v2, a2, s2, b2, I2, J2, P2, h2, h3, h4, h5, h6, h7, h8, rfl⟩ := hz
      dsimp only at h4 h7
      cases h2
      rw [hf] at h3
      cases h3
      rw [hs] at h4
      cases h4
      rw [hp] at h7
      cases h7
      exact ⟨⟨h5, h8⟩, hw⟩
    · exact absurd (hk.symm.trans hz.1) (by decide)
    · exact absurd (hk.symm.trans hz.1) (by decide)
    · exact absurd (hk.symm.trans hz.1) (by decide)
    · exact absurd (hk.symm.trans hz.1) (by decide)
    · exact absurd (hk.symm.trans hz.1) (by decide)
  · rintro ⟨hc, hw⟩
    exact ⟨_, ⟨_, _, hd, Or.inr (Or.inr (Or.inr (Or.inr (Or.inr (Or.inr (Or.inr (Or.inl ⟨rfl, rfl, _, _, _, _, _, _, _, _, _, _, rfl, hf, hs, hc.1, hfin, hp, hc.2, rfl⟩)))))))⟩, hw⟩

theorem gp_ald {b : Prop} (hk1 : tx_k i = 9) (h : tx_ald S N I J P i st = some (b, st')) (hd : decode M.2.1 pc = .ok (i, 1)) : Gp S N hp M T pc ll st I J P ↔ (b) ∧ Gp S N hp M T (pc + 1) ll st' I J P := by
  have hk : tx_k (i) = 9 := hk1
  rw [gp_iff hd (stp_k (by rw [hk]; decide)) (fun _ => by rw [hk]; decide)]
  constructor
  · rintro ⟨z, ⟨i', len', h1, hz⟩, hw⟩
    have h2 := hd.symm.trans h1
    cases h2
    rcases hz with hz | hz | hz | hz | hz | hz | hz | hz | hz | hz | hz | hz | hz
    · exact absurd (hk.symm.trans hz.1) (by decide)
    · exact absurd (hk.symm.trans hz.1) (by decide)
    · exact absurd (hk.symm.trans hz.1) (by decide)
    · exact absurd (hk.symm.trans hz.1) (by decide)
    · exact absurd (hk.symm.trans hz.1) (by decide)
    · exact absurd (hk.symm.trans hz.1) (by decide)
    · exact absurd (hk.symm.trans hz.1) (by decide)
    · exact absurd (hk.symm.trans hz.1) (by decide)
    · obtain ⟨-, -, b2, s2, h2, h3, rfl⟩ := hz
      dsimp only at h2
      rw [h] at h2
      cases h2
      exact ⟨h3, hw⟩
    · exact absurd (hk.symm.trans hz.1) (by decide)
    · exact absurd (hk.symm.trans hz.1) (by decide)
    · exact absurd (hk.symm.trans hz.1) (by decide)
    · exact absurd (hk.symm.trans hz.1) (by decide)
  · rintro ⟨hc, hw⟩
    exact ⟨_, ⟨_, _, hd, Or.inr (Or.inr (Or.inr (Or.inr (Or.inr (Or.inr (Or.inr (Or.inr (Or.inl ⟨hk, rfl, _, _, h, hc, rfl⟩))))))))⟩, hw⟩

theorem gp_ast {b : Prop} (hk1 : tx_k i = 10) (h : tx_ast S N I J P i st = some (b, st', I', J', P')) (hd : decode M.2.1 pc = .ok (i, 1)) : Gp S N true M T pc ll st I J P ↔ (b) ∧ Gp S N true M T (pc + 1) ll st' I' J' P' := by
  have hk : tx_k (i) = 10 := hk1
  rw [gp_iff hd (stp_k (by rw [hk]; decide)) (fun z => Bool.noConfusion z)]
  constructor
  · rintro ⟨z, ⟨i', len', h1, hz⟩, hw⟩
    have h2 := hd.symm.trans h1
    cases h2
    rcases hz with hz | hz | hz | hz | hz | hz | hz | hz | hz | hz | hz | hz | hz
    · exact absurd (hk.symm.trans hz.1) (by decide)
    · exact absurd (hk.symm.trans hz.1) (by decide)
    · exact absurd (hk.symm.trans hz.1) (by decide)
    · exact absurd (hk.symm.trans hz.1) (by decide)
    · exact absurd (hk.symm.trans hz.1) (by decide)
    · exact absurd (hk.symm.trans hz.1) (by decide)
    · exact absurd (hk.symm.trans hz.1) (by decide)
    · exact absurd (hk.symm.trans hz.1) (by decide)
    · exact absurd (hk.symm.trans hz.1) (by decide)
    · obtain ⟨-, -, b2, s2, I2, J2, P2, h2, h3, rfl⟩ := hz
      dsimp only at h2
      rw [h] at h2
      cases h2
      exact ⟨h3, hw⟩
    · exact absurd (hk.symm.trans hz.1) (by decide)
    · exact absurd (hk.symm.trans hz.1) (by decide)
    · exact absurd (hk.symm.trans hz.1) (by decide)
  · rintro ⟨hc, hw⟩
    exact ⟨_, ⟨_, _, hd, Or.inr (Or.inr (Or.inr (Or.inr (Or.inr (Or.inr (Or.inr (Or.inr (Or.inr (Or.inl ⟨hk, rfl, _, _, _, _, _, h, hc, rfl⟩)))))))))⟩, hw⟩

theorem gp_iconst {n : Int} {v : Int32} (hv : Int32.ofInt n = v) (hd : decode M.2.1 pc = .ok (.iconst n, 1)) : Gp S N hp M T pc ll st I J P ↔ Gp S N hp M T (pc + 1) ll (.int v :: st) I J P := by
  subst hv
  exact gp_alu rfl rfl rfl hd

theorem gp_bipush {n : Int} {v : Int32} (hv : (Int8.ofInt n).toInt32 = v) (hd : decode M.2.1 pc = .ok (.bipush n, 2)) : Gp S N hp M T pc ll st I J P ↔ Gp S N hp M T (pc + 2) ll (.int v :: st) I J P := by
  subst hv
  exact gp_alu rfl rfl rfl hd

theorem gp_sipush {n : Int} {v : Int32} (hv : (Int16.ofInt n).toInt32 = v) (hd : decode M.2.1 pc = .ok (.sipush n, 3)) : Gp S N hp M T pc ll st I J P ↔ Gp S N hp M T (pc + 3) ll (.int v :: st) I J P := by
  subst hv
  exact gp_alu rfl rfl rfl hd

theorem gp_lconst {n : Fin 2} {v : Int64} (hv : Int64.ofNat (n : Nat) = v) (hd : decode M.2.1 pc = .ok (.lconst n, 1)) : Gp S N hp M T pc ll st I J P ↔ Gp S N hp M T (pc + 1) ll (.long v :: st) I J P := by
  subst hv
  exact gp_alu rfl rfl rfl hd

theorem gp_ldc2 {n : Nat} {v : Int64} (hv : cres M.2.2.2.2.1 n = some v) (hd : decode M.2.1 pc = .ok (.ldc2_w n, 3)) : Gp S N hp M T pc ll st I J P ↔ Gp S N hp M T (pc + 3) ll (.long v :: st) I J P :=
  gp_alu rfl rfl (by show (cres _ n).map _ = _; rw [hv]; rfl) hd

theorem gp_brn {b : Prop} {off : Int} {tgt : Nat} (hk1 : tx_k i = 5) (h : tx_br i st = some (¬ b, off, st')) (ht : ((pc : Nat) : Int) + off = ((tgt : Nat) : Int)) (hd : decode M.2.1 pc = .ok (i, 3)) : Gp S N hp M T pc ll st I J P ↔ (¬ b → Gp S N hp M T tgt ll st' I J P) ∧ (b → Gp S N hp M T (pc + 3) ll st' I J P) := by
  rw [gp_br hk1 h ht hd]
  exact ⟨fun q => ⟨q.1, fun z => q.2 (fun y => y z)⟩, fun q => ⟨q.1, fun z => q.2 (Classical.not_not.mp z)⟩⟩

theorem gp_putI {n k j a : Nat} {v : Int32} (hf : fres M.2.2.2.2.1 n = some (k, j)) (hfin : (tx_T k j).2.2.2 = false) (h0 : (tx_fk k)[j]? = some 0) (h1 : tx_ty k j = .int) (hd : decode M.2.1 pc = .ok (.putfield n, 3)) : Gp S N true M T pc ll (.int v :: .ref a :: st) I J P ↔ S a = k ∧ Gp S N true M T (pc + 3) ll st (u2 I a j v) J P :=
  (gp_putf hf rfl hfin rfl hd).trans ⟨fun h => ⟨h.1.1, h.2⟩, fun h => ⟨⟨h.1, h0, by rw [h1]; rfl, by rw [h1]; rfl⟩, h.2⟩⟩

theorem gp_putJ {n k j a : Nat} {v : Int64} (hf : fres M.2.2.2.2.1 n = some (k, j)) (hfin : (tx_T k j).2.2.2 = false) (h0 : (tx_fk k)[j]? = some 1) (h1 : tx_ty k j = .long) (hd : decode M.2.1 pc = .ok (.putfield n, 3)) : Gp S N true M T pc ll (.long v :: .ref a :: st) I J P ↔ S a = k ∧ Gp S N true M T (pc + 3) ll st I (u2 J a j v) P :=
  (gp_putf hf rfl hfin rfl hd).trans ⟨fun h => ⟨h.1.1, h.2⟩, fun h => ⟨⟨h.1, h0, by rw [h1]; rfl, by rw [h1]; rfl⟩, h.2⟩⟩

theorem gp_putZ {n k j a : Nat} {v : Int32} (hf : fres M.2.2.2.2.1 n = some (k, j)) (hfin : (tx_T k j).2.2.2 = false) (h0 : (tx_fk k)[j]? = some 0) (h1 : tx_ty k j = .boolean) (hd : decode M.2.1 pc = .ok (.putfield n, 3)) (hb : isB v) : Gp S N true M T pc ll (.int v :: .ref a :: st) I J P ↔ S a = k ∧ Gp S N true M T (pc + 3) ll st (u2 I a j v) J P :=
  (gp_putf hf rfl hfin rfl hd).trans ⟨fun h => ⟨h.1.1, h.2⟩, fun h => ⟨⟨h.1, h0, by rw [h1]; exact hb.1, by rw [h1]; exact hb.2⟩, h.2⟩⟩

theorem gp_irem {x y : Int32} (h0 : ¬ y = 0) (hd : decode M.2.1 pc = .ok (.irem, 1)) : Gp S N hp M T pc ll (.int y :: .int x :: st) I J P ↔ Gp S N hp M T (pc + 1) ll (.int (x - x / y * y) :: st) I J P :=
  gp_alu (len := 1) rfl rfl (by show (if y = 0 then none else some _) = _; rw [if_neg h0]) hd

theorem gp_idiv {x y : Int32} (h0 : ¬ y = 0) (hd : decode M.2.1 pc = .ok (.idiv, 1)) : Gp S N hp M T pc ll (.int y :: .int x :: st) I J P ↔ Gp S N hp M T (pc + 1) ll (.int (x / y) :: st) I J P :=
  gp_alu (len := 1) rfl rfl (by show (if y = 0 then none else some _) = _; rw [if_neg h0]) hd

theorem gp_ldiv {x y : Int64} (h0 : ¬ y = 0) (hd : decode M.2.1 pc = .ok (.ldiv, 1)) : Gp S N hp M T pc ll (.long y :: .long x :: st) I J P ↔ Gp S N hp M T (pc + 1) ll (.long (x / y) :: st) I J P :=
  gp_alu (len := 1) rfl rfl (by show (if y = 0 then none else some _) = _; rw [if_neg h0]) hd

end GP
/-! segments over the JVM -/
section SGS
variable {p : Program} {l : Launch} {e : Env} {R : Room} {s : State} {m : MethodId} {args : Array Value} {below : List Frame} {meth : Method} {c : Code} {Q : State → Prop}
variable {E : tx_En} {A : Nat → Prop} {H0 H : Heap} {locs : List Loc} {cells slots : Nat} {cc : ByteArray} {nL o pc len : Nat} {i : Instr} {st st' : List Value} {ls : Array Slot} {ll : List (Option Value)} {I I' : IM} {J J' : JM} {P P' : PM}
/-- what is owed where a segment ends -/
def Zt (p : Program) (l : Launch) (e : Env) (R : Room) (s : State) (m : MethodId) (args : Array Value) (below : List Frame) (meth : Method) (c : Code) (E : tx_En) (A : Nat → Prop) (H0 : Heap) (cells slots nL : Nat) (Q : State → Prop) : TG :=
  fun pc ll st I J P => ∀ (H : Heap) (locs : List Loc) (ls : Array Slot), Wd E A H0 I J P H locs → Lv ls nL ll → W p l e R s m args below meth c H locs cells slots Q (F0 m pc ls st)
set_option maxHeartbeats 4000000 in
theorem seg_step (C : Cx E o cc nL p s m args meth c) {x y : Stt} (h : tx_N E.2.2.1 E.2.2.2.1 (fun _ _ _ _ _ _ _ _ _ => False) False o cc x y)
    (kk : Zt p l e R s m args below meth c E A H0 cells slots nL Q y.1 y.2.1 y.2.2.1 y.2.2.2.1 y.2.2.2.2.1 y.2.2.2.2.2) : Zt p l e R s m args below meth c E A H0 cells slots nL Q x.1 x.2.1 x.2.2.1 x.2.2.2.1 x.2.2.2.2.1 x.2.2.2.2.2 := by
  intro H locs ls hW hL
  obtain ⟨pc, ll, st, I, J, P⟩ := x
  dsimp only at hW hL ⊢
  obtain ⟨i, len, hd, h⟩ := h
  dsimp only at hd h
  rcases h with ⟨-, h1, st', h2, rfl⟩ | ⟨-, k, t, v, h1, h2, h3, rfl⟩ | ⟨-, k, t, v, st', h1, h2, h3, h4, rfl⟩ | ⟨-, rfl, k, n, v, rfl, h2, rfl⟩ | ⟨-, rfl, b, off, st', tgt, h1, h2, h3⟩ | ⟨-, h0, off, st', tgt, h1, h2, rfl⟩ | ⟨-, rfl, n, k, j, t, a, st', rfl, h1, h2, h3, h4, rfl⟩ | ⟨-, rfl, n, k, j, v, a, st', b, I', J', P', rfl, h1, h2, h3, h4, h5, h6, rfl⟩ | ⟨-, rfl, b, st', h1, h2, rfl⟩ | ⟨-, rfl, b, st', I', J', P', h1, h2, rfl⟩ | ⟨-, -, hn, -⟩ | ⟨-, -, hn, -⟩ | ⟨-, -, hn, -⟩
  · exact sg_alu C hd h1 h2 (kk H locs ls hW hL)
  · exact sg_lod C hd h1 hL h2 h3 (kk H locs ls hW hL)
  · rw [h2]
    exact sg_sto C hd h1 hL h3 h4 (fun ls' h' => kk H locs ls' hW h')
  · exact sg_inc C hd hL h2 (fun ls' h' => kk H locs ls' hW h')
  · rcases h3 with ⟨h3, rfl⟩ | ⟨h3, rfl⟩
    · exact sg_br C hd h1 h2 (fun _ => kk H locs ls hW hL) (fun q => absurd h3 q)
    · exact sg_br C hd h1 h2 (fun q => absurd q h3) (fun _ => kk H locs ls hW hL)
  · exact sg_go C hd h0 h1 h2 (kk H locs ls hW hL)
  · rw [h2]
    exact sg_getf C hd h1 h3 h4 hW (kk H locs ls hW hL)
  · rw [h2]
    exact sg_putf C hd h1 h3 h4 h5 h6 hW (fun H1 locs1 h' => kk H1 locs1 ls h' hL)
  · exact sg_ald C hd h1 h2 hW (kk H locs ls hW hL)
  · exact sg_ast C hd h1 h2 hW (fun H1 locs1 h' => kk H1 locs1 ls h' hL)
  · exact hn.elim
  · exact hn.elim
  · exact hn.elim
theorem seg_run {hp : Bool} (C : Cx E o cc nL p s m args meth c) : ∀ (n : Nat) (x : Stt), gR E.2.2.1 E.2.2.2.1 hp o cc (Zt p l e R s m args below meth c E A H0 cells slots nL Q) n x → Zt p l e R s m args below meth c E A H0 cells slots nL Q x.1 x.2.1 x.2.2.1 x.2.2.2.1 x.2.2.2.2.1 x.2.2.2.2.2 := by
  intro n
  induction n with
  | zero => intro x h; exact h.elim
  | succ n ih =>
    intro x h
    rcases h with ⟨i, len, -, -, h⟩ | ⟨y, hy, -, hr⟩
    · exact h
    · exact seg_step C hy (ih y hr)
/-- a segment, over the JVM -/
theorem seg_ok {M : MR} (C : Cx E M.2.2.2.2.1 M.2.1 nL p s m args meth c) (h : Gp E.2.2.1 E.2.2.2.1 true M (Zt p l e R s m args below meth c E A H0 cells slots nL Q) pc ll st I J P) (hW : Wd E A H0 I J P H locs) (hL : Lv ls nL ll) : W p l e R s m args below meth c H locs cells slots Q (F0 m pc ls st) := by
  obtain ⟨n, h⟩ := h
  exact seg_run C n _ h H locs ls hW hL
/-- the same where nothing is written: the heap stays -/
def Zl (p : Program) (l : Launch) (e : Env) (R : Room) (s : State) (m : MethodId) (args : Array Value) (below : List Frame) (meth : Method) (c : Code) (H : Heap) (locs : List Loc) (cells slots nL : Nat) (Q : State → Prop) (I0 : IM) (J0 : JM) (P0 : PM) : TG :=
  fun pc ll st I J P => (I = I0 ∧ J = J0 ∧ P = P0) → ∀ ls : Array Slot, Lv ls nL ll → W p l e R s m args below meth c H locs cells slots Q (F0 m pc ls st)
set_option maxHeartbeats 4000000 in
theorem segL_run {I0 : IM} {J0 : JM} {P0 : PM} (C : Cx E o cc nL p s m args meth c) (hW : Wd E A H0 I0 J0 P0 H locs) : ∀ (n : Nat) (x : Stt), gR E.2.2.1 E.2.2.2.1 false o cc (Zl p l e R s m args below meth c H locs cells slots nL Q I0 J0 P0) n x → Zl p l e R s m args below meth c H locs cells slots nL Q I0 J0 P0 x.1 x.2.1 x.2.2.1 x.2.2.2.1 x.2.2.2.2.1 x.2.2.2.2.2 := by
  intro n
  induction n with
  | zero => intro x h; exact h.elim
  | succ n ih =>
    intro x h
    rcases h with ⟨i, len, -, -, h⟩ | ⟨y, h, hz, hr⟩
    · exact h
    · have kk := ih y hr
      clear ih hr
      rintro ⟨e1, e2, e3⟩ ls hL
      obtain ⟨pc, ll, st, I, J, P⟩ := x
      dsimp only at e1 e2 e3
      subst e1; subst e2; subst e3
      dsimp only at hL hz ⊢
      obtain ⟨i, len, hd, h⟩ := h
      dsimp only at hd h
      have hz := hz rfl i len hd
      rcases h with ⟨-, h1, st', h2, rfl⟩ | ⟨-, k, t, v, h1, h2, h3, rfl⟩ | ⟨-, k, t, v, st', h1, h2, h3, h4, rfl⟩ | ⟨-, rfl, k, n, v, rfl, h2, rfl⟩ | ⟨-, rfl, b, off, st', tgt, h1, h2, h3⟩ | ⟨-, h0, off, st', tgt, h1, h2, rfl⟩ | ⟨-, rfl, n, k, j, t, a, st', rfl, h1, h2, h3, h4, rfl⟩ | ⟨hk, -⟩ | ⟨-, rfl, b, st', h1, h2, rfl⟩ | ⟨hk, -⟩ | ⟨-, -, hn, -⟩ | ⟨-, -, hn, -⟩ | ⟨-, -, hn, -⟩
      · exact sg_alu C hd h1 h2 (kk ⟨rfl, rfl, rfl⟩ ls hL)
      · exact sg_lod C hd h1 hL h2 h3 (kk ⟨rfl, rfl, rfl⟩ ls hL)
      · rw [h2]
        exact sg_sto C hd h1 hL h3 h4 (fun ls' h' => kk ⟨rfl, rfl, rfl⟩ ls' h')
      · exact sg_inc C hd hL h2 (fun ls' h' => kk ⟨rfl, rfl, rfl⟩ ls' h')
      · rcases h3 with ⟨h3, rfl⟩ | ⟨h3, rfl⟩
        · exact sg_br C hd h1 h2 (fun _ => kk ⟨rfl, rfl, rfl⟩ ls hL) (fun q => absurd h3 q)
        · exact sg_br C hd h1 h2 (fun q => absurd q h3) (fun _ => kk ⟨rfl, rfl, rfl⟩ ls hL)
      · exact sg_go C hd h0 h1 h2 (kk ⟨rfl, rfl, rfl⟩ ls hL)
      · rw [h2]
        exact sg_getf C hd h1 h3 h4 hW (kk ⟨rfl, rfl, rfl⟩ ls hL)
      · exact absurd hk hz.1
      · exact sg_ald C hd h1 h2 hW (kk ⟨rfl, rfl, rfl⟩ ls hL)
      · exact absurd hk hz.2
      · exact hn.elim
      · exact hn.elim
      · exact hn.elim
theorem segL_ok {M : MR} (C : Cx E M.2.2.2.2.1 M.2.1 nL p s m args meth c) (hW : Wd E A H0 I J P H locs) (h : Gp E.2.2.1 E.2.2.2.1 false M (Zl p l e R s m args below meth c H locs cells slots nL Q I J P) pc ll st I J P) (hL : Lv ls nL ll) : W p l e R s m args below meth c H locs cells slots Q (F0 m pc ls st) := by
  obtain ⟨n, h⟩ := h
  exact segL_run C hW n _ h ⟨rfl, rfl, rfl⟩ ls hL
/-- behind a call: the worlds, and that all else stays -/
theorem sg_back {mc ms : Nat} {r : Option Value} {a : Array Value} {st0 rest : List Value} (hE : tx_ok E) (hW : Wd E A H0 I J P H locs)
    (hr : va_Run p l e R s m args below meth c H locs cells slots mc ms (F0 m pc ls st0) rest (QcM E r I' J' P' a) (fun q => q ∈ E.2.2.2.2))
    (k : ∀ H1 locs1, Wd E A H0 I' J' P' H1 locs1 → H.size ≤ H1.size → (∀ q : Nat, q < H.size → q ∉ E.2.2.2.2 → H1[q]? = H[q]?) → W p l e R s m args below meth c H1 locs1 (cells + mc) (slots + ms) Q (F0 m (pc + 3) ls (r.toList ++ rest))) : W p l e R s m args below meth c H locs cells slots Q (F0 m pc ls st0) := by
  intro T hT X
  obtain ⟨v, st₀, t, T', L, h0, X', hL, e1, e2, ⟨hv, hP1, hz, hk⟩, st⟩ := hr T hT X
  cases hv
  obtain ⟨hP, hD, hS⟩ := hW
  have hLA : ∀ q, q ∈ E.2.2.2.2 → A q := fun q hq => by
    obtain ⟨i, hi⟩ := va_pl_get (X := []) (f := tx_cell E.2.1 E.2.2.1 E.2.2.2.1 I J P) hq
    exact hD.2 i (q, _) hi
  rw [h0] at hz hk
  obtain ⟨t2, a1, b1⟩ := k T'.heap (locs ++ L) ⟨by rw [e1]; exact hP1, tx_D_any hD, Nat.le_trans hS.1 (by rw [e1]; exact hz), fun q h1 h2 => by
      rw [e1, hk q (Nat.lt_of_lt_of_le h1 hS.1) (fun z => h2 (hLA q z))]
      exact hS.2.1 q h1 h2, fun q hq => by
      rcases List.mem_append.mp hq with h | h
      · exact hS.2.2 q h
      · exact hLA _ (hL q h)⟩ (by rw [e1]; exact hz) (fun q h1 h2 => by rw [e1]; exact hk q h1 h2) T' rfl X'
  exact ⟨t2, st t2 a1, b1⟩
set_option maxHeartbeats 4000000 in
theorem sg_callV (C : Cx E o cc nL p s m args meth c) (hL : Lv ls nL ll) {n d b : Nat} {M : MR} {As : List Value} {r : Option Value} (hR : d + 1 ≤ R.frames ∧ 60 * d + 40 ≤ R.locals) (hcs : cells ≤ R.cells ∧ slots ≤ R.slots) (hd : decode cc pc = .ok (.invokevirtual n, 3)) (hm : mres o n = some M) (hs : M.2.2.2.2.2.2 = false) (hn : As.length = M.2.2.2.2.2.1) (hSb : E.2.2.1 b = M.2.2.2.2.1) (h10 : E.2.2.1 b < 10) (hst : (st'.map fun v => v.category).sum ≤ 8) (hM : MtM l E d M (.ref b :: As) I J P r I' J' P') (hW : Wd E A H0 I J P H locs)
    (kk : ∀ H1 locs1, Wd E A H0 I' J' P' H1 locs1 → H.size ≤ H1.size → (∀ q : Nat, q < H.size → q ∉ E.2.2.2.2 → H1[q]? = H[q]?) → W p l e R s m args below meth c H1 locs1 cells slots Q (F0 m (pc + 3) ls (r.toList ++ st'))) : W p l e R s m args below meth c H locs cells slots Q (F0 m pc ls (As.reverse ++ .ref b :: st')) := by
  obtain ⟨hx, hb, hml, hown, hts, -, hK, hE⟩ := C
  obtain ⟨g1, g2⟩ := mt_ok o _ (tb_res hm)
  dsimp only at g1 g2
  obtain ⟨f1, f2, f3, f4, f5, f6, f7, f8, f9, f10⟩ := id g2
  obtain ⟨f7a, f7b⟩ := f7 hs
  obtain ⟨q0, hq0⟩ := tx_at (I := I) (J := J) (P := P) hE (show E.2.2.1 b < 15 by omega)
  rw [tx_cell_o rfl h10] at hq0
  have hcls : M.1.cls = tx_R (E.2.2.1 b) := by rw [tx_Rc g2, hSb]
  refine sg_back (mc := 0) (ms := 0) hE hW (va_runV (C := M.1.cls) (Ts := tz) ⟨hx, hb, hml, hown, hts⟩ hM (cwV M.2.2.2.2.2.1 hts (wsV_g g1 f7a f7b f3 (wz_g g2)) rfl rfl rfl ⟨rfl, f4.1, f4.2, f5⟩ ⟨hR.1, by show 8 + (M.2.2.1 + 11) + 60 * d ≤ R.locals; omega⟩) ⟨PcM_blind _ _ _ _ _, by rw [hcls]; exact va_recv hK hW.1 (tx_cl _ h10) hq0, fun U hU hWu => ⟨rfl, by rw [hU]; exact hW.1, va_K.moved hWu.alike hK, hW.2.1.weaken (fun _ _ _ _ => trivial)⟩⟩ rfl hn hL.2.1 rfl (lv_room hst) hd ⟨hcs.1, hcs.2⟩) kk
set_option maxHeartbeats 4000000 in
theorem sg_callS (C : Cx E o cc nL p s m args meth c) (hL : Lv ls nL ll) {n d : Nat} {M : MR} {As : List Value} {r : Option Value} (hR : d + 1 ≤ R.frames ∧ 60 * d + 40 ≤ R.locals) (hcs : cells ≤ R.cells ∧ slots ≤ R.slots) (hd : decode cc pc = .ok (.invokestatic n, 3)) (hm : mres o n = some M) (hs : M.2.2.2.2.2.2 = true) (hn : As.length = M.2.2.2.2.2.1) (hst : (st'.map fun v => v.category).sum ≤ 8) (hM : MtM l E d M As I J P r I' J' P') (hW : Wd E A H0 I J P H locs)
    (kk : ∀ H1 locs1, Wd E A H0 I' J' P' H1 locs1 → H.size ≤ H1.size → (∀ q : Nat, q < H.size → q ∉ E.2.2.2.2 → H1[q]? = H[q]?) → W p l e R s m args below meth c H1 locs1 cells slots Q (F0 m (pc + 3) ls (r.toList ++ st'))) : W p l e R s m args below meth c H locs cells slots Q (F0 m pc ls (As.reverse ++ st')) := by
  obtain ⟨hx, hb, hml, hown, hts, -, hK, hE⟩ := C
  obtain ⟨g1, g2⟩ := mt_ok o _ (tb_res hm)
  dsimp only at g1 g2
  obtain ⟨f1, f2, f3, f4, f5, f6, f7, f8, f9, f10⟩ := id g2
  refine sg_back (mc := 0) (ms := 0) hE hW (va_runS (Ts := tz) ⟨hx, hb, hml, hown, hts⟩ hM (va_cwS M.2.2.2.2.2.1 hts (wsS_g g1 (f8 hs) f3 (wz_g g2)) rfl rfl rfl ⟨f4.1, f4.2, f5⟩ ⟨hR.1, by show 8 + (M.2.2.1 + 11) + 60 * d ≤ R.locals; omega⟩) ⟨PcM_blind _ _ _ _ _, fun U hU hWu => ⟨rfl, by rw [hU]; exact hW.1, va_K.moved hWu.alike hK, hW.2.1.weaken (fun _ _ _ _ => trivial)⟩⟩ rfl hn hL.2.1 rfl (lv_room hst) hd ⟨hcs.1, hcs.2⟩) kk
end SGS

/-! each kind of step, over the JVM -/
theorem tx_layg : ∀ k, k < 10 → ∀ w ∈ u_ws (tx_R k) (tx_T k) (tx_n k), goodWord w = true := tx_10 (by decide +kernel) (by decide +kernel) (by decide +kernel) (by decide +kernel) (by decide +kernel) (by decide +kernel) (by decide +kernel) (by decide +kernel) (by decide +kernel) (by decide +kernel)
theorem tx_layz : ∀ k, k < 10 → ∀ w ∈ u_ws (tx_R k) (tx_T k) (tx_n k), w ∈ tz := fun k hk w hw => tz_mem ⟨tx_lay k hk w hw, tx_layg k hk w hw⟩
def Cx (E : tx_En) (o : Nat) (cc : ByteArray) (nL : Nat) (p : Program) (s : State) (m : MethodId) (args : Array Value) (meth : Method) (c : Code) : Prop :=
  p.tables.exec = Jvm.exec ∧ c.code = cc ∧ c.maxLocals = nL ∧ s.vm.findClass (tx_R o) = some m.cls ∧ (∀ w ∈ tz, w.before args s = true) ∧ meth.locks = false ∧ va_K E.1 vwCl (tx_tys E.2.1) s ∧ tx_ok E
section TXT
variable {p : Program} {l : Launch} {e : Env} {R : Room} {s : State} {m : MethodId} {args : Array Value} {below : List Frame} {meth : Method} {c : Code} {Q : State → Prop}
variable {E : tx_En} {A : Nat → Prop} {H0 H : Heap} {locs : List Loc} {cc : ByteArray} {nL o pc len : Nat} {i : Instr} {st st' : List Value} {ls : Array Slot} {ll : List (Option Value)} {I I' : IM} {J J' : JM} {P P' : PM}
set_option maxHeartbeats 4000000 in
theorem st_alu (C : Cx E o cc nL p s m args meth c) (hd : decode cc pc = .ok (i, len)) (hl : len = tx_len1 i) (h : tx_alu (cres o) i st = some st') (kk : W p l e R s m args below meth c H locs 0 0 Q (F0 m (pc + len) ls st')) : W p l e R s m args below meth c H locs 0 0 Q (F0 m pc ls st) := by
  obtain ⟨hx, hb, -, hown, hts, -, -, -⟩ := C
  subst hl
  unfold tx_alu at h
  split at h
  · cases h; exact lv_iconst hx hb hd rfl kk
  · cases h; exact lv_bipush hx hb hd rfl kk
  · cases h; exact lv_sipush hx hb hd rfl kk
  · cases h; exact lv_lconst hx hb hd rfl kk
  · obtain ⟨v, hc, rfl⟩ := Option.map_eq_some_iff.mp h
    exact lv_ldc2 hx hb hown (hts _ (tz_mem (ct_ok o _ (tb_res hc)))) hd kk
  · cases h; exact lv_iadd hx hb hd kk
  · cases h; exact lv_isub hx hb hd kk
  · cases h; exact lv_imul hx hb hd kk
  · cases h; exact lv_iand hx hb hd kk
  · cases h; exact lv_ishr hx hb hd kk
  · split at h
    · cases h
    · next hne => cases h; exact lv_irem hx hb hd hne kk
  · split at h
    · cases h
    · next hne => cases h; exact lv_idiv hx hb hd hne kk
  · cases h; exact lv_ladd hx hb hd kk
  · cases h; exact lv_lsub hx hb hd kk
  · cases h; exact lv_lmul hx hb hd kk
  · split at h
    · cases h
    · next hne => cases h; exact lv_ldiv hx hb hd hne kk
  · cases h; exact lv_i2l hx hb hd rfl kk
  · cases h; exact W.lcmp hx hb hd kk
  · cases h; exact lv_dup hx hb hd rfl kk
  · cases h; exact lv_dup hx hb hd rfl kk
  · cases h; exact lv_dup2_11 hx hb hd rfl rfl kk
  · cases h; exact lv_dup2_2 hx hb hd rfl kk
  · cases h; exact lv_pop hx hb hd rfl kk
  · cases h; exact lv_pop2_2 hx hb hd rfl kk
  · cases h
set_option maxHeartbeats 4000000 in
theorem st_lod (C : Cx E o cc nL p s m args meth c) (hd : decode cc pc = .ok (i, len)) {k t : Nat} {v : Value} (h : tx_lod i = some (k, t, len)) (hL : Lv ls nL ll) (hv : ll[k]? = some (some v)) (ht : tx_tc v = t) (kk : W p l e R s m args below meth c H locs 0 0 Q (F0 m (pc + len) ls (v :: st))) : W p l e R s m args below meth c H locs 0 0 Q (F0 m pc ls st) := by
  obtain ⟨hx, hb, -, hown, hts, -, -, -⟩ := C
  unfold tx_lod at h
  split at h
  · cases h; cases v <;> first | exact lv_iload_n hx hb hd rfl (hL.get hv) kk | exact absurd ht (by simp [tx_tc])
  · cases h; cases v <;> first | exact lv_iload hx hb hd (hL.get hv) kk | exact absurd ht (by simp [tx_tc])
  · cases h; cases v <;> first | exact lv_lload_n hx hb hd rfl (hL.get hv) kk | exact absurd ht (by simp [tx_tc])
  · cases h; cases v <;> first | exact lv_lload hx hb hd (hL.get hv) kk | exact absurd ht (by simp [tx_tc])
  · cases h; cases v <;> first | exact lv_aload_n hx hb hd rfl (hL.get hv) kk | exact absurd ht (by simp [tx_tc])
  · cases h; cases v <;> first | exact lv_aload hx hb hd (hL.get hv) kk | exact absurd ht (by simp [tx_tc])
  · cases h
set_option maxHeartbeats 4000000 in
theorem st_sto (C : Cx E o cc nL p s m args meth c) (hd : decode cc pc = .ok (i, len)) {k t : Nat} {v : Value} (h : tx_sto i = some (k, t, len)) (hL : Lv ls nL ll) (ht : tx_tc v = t) (hk : (if t = 1 then k + 1 else k) < ll.length) (kk : ∀ ls', Lv ls' nL (if t = 1 then sl2 ll k v else sl1 ll k v) → W p l e R s m args below meth c H locs 0 0 Q (F0 m (pc + len) ls' st)) : W p l e R s m args below meth c H locs 0 0 Q (F0 m pc ls (v :: st)) := by
  obtain ⟨hx, hb, -, hown, hts, -, -, -⟩ := C
  rw [hL.1] at hk
  unfold tx_sto at h
  split at h
  · cases h; cases v <;> first | exact lv_istore_n hx hb hd rfl hL.2 hk rfl (fun ls' h' => kk ls' (Lv.put1 hL.1 h')) | exact absurd ht (by simp [tx_tc])
  · cases h; cases v <;> first | exact lv_istore hx hb hd hL.2 hk rfl (fun ls' h' => kk ls' (Lv.put1 hL.1 h')) | exact absurd ht (by simp [tx_tc])
  · cases h; cases v <;> first | exact lv_lstore_n hx hb hd rfl hL.2 hk rfl (fun ls' h' => kk ls' (Lv.put2 hL.1 hk h')) | exact absurd ht (by simp [tx_tc])
  · cases h; cases v <;> first | exact lv_lstore hx hb hd hL.2 hk rfl (fun ls' h' => kk ls' (Lv.put2 hL.1 hk h')) | exact absurd ht (by simp [tx_tc])
  · cases h; cases v <;> first | exact lv_astore_n hx hb hd rfl hL.2 hk rfl (fun ls' h' => kk ls' (Lv.put1 hL.1 h')) | exact absurd ht (by simp [tx_tc])
  · cases h; cases v <;> first | exact lv_astore hx hb hd hL.2 hk rfl (fun ls' h' => kk ls' (Lv.put1 hL.1 h')) | exact absurd ht (by simp [tx_tc])
  · cases h
theorem st_inc (C : Cx E o cc nL p s m args meth c) {k : Nat} {n : Int} {v : Int32} (hd : decode cc pc = .ok (.iinc k n, 3)) (hL : Lv ls nL ll) (hv : ll[k]? = some (some (.int v))) (kk : ∀ ls', Lv ls' nL (sl1 ll k (.int (v + Int32.ofInt n))) → W p l e R s m args below meth c H locs 0 0 Q (F0 m (pc + 3) ls' st)) : W p l e R s m args below meth c H locs 0 0 Q (F0 m pc ls st) := by
  obtain ⟨hx, hb, -, hown, hts, -, -, -⟩ := C
  obtain ⟨z, hz⟩ := List.getElem?_of_mem ((ents_mem ll 0 k (.int v)).mpr ⟨k, by omega, hv⟩)
  have hk : k < nL := by rw [← hL.1]; exact (List.getElem?_eq_some_iff.mp hv).1
  exact lv_iinc hx hb hd hL.2 hz rfl hk rfl (fun ls' h' => kk ls' (Lv.put1 hL.1 h'))
set_option maxHeartbeats 4000000 in
theorem st_br (C : Cx E o cc nL p s m args meth c) (hd : decode cc pc = .ok (i, 3)) {b : Prop} {off : Int} {tgt : Nat} (h : tx_br i st = some (b, off, st')) (ht : (pc : Int) + off = (tgt : Int)) (kt : b → W p l e R s m args below meth c H locs 0 0 Q (F0 m tgt ls st')) (kf : ¬ b → W p l e R s m args below meth c H locs 0 0 Q (F0 m (pc + 3) ls st')) : W p l e R s m args below meth c H locs 0 0 Q (F0 m pc ls st) := by
  obtain ⟨hx, hb, -, hown, hts, -, -, -⟩ := C
  unfold tx_br at h
  split at h
  · cases h; exact lv_if_eq hx hb hd ht kt kf
  · cases h; exact lv_if_ne hx hb hd ht kt (fun q => kf (fun z => z q))
  · cases h; exact lv_if_lt hx hb hd ht kt kf
  · cases h; exact lv_if_ge hx hb hd ht kt kf
  · cases h; exact lv_if_gt hx hb hd ht kt kf
  · cases h; exact lv_if_le hx hb hd ht kt kf
  · cases h; exact lv_icmp_eq hx hb hd ht kt kf
  · cases h; exact lv_icmp_ne hx hb hd ht kt (fun q => kf (fun z => z q))
  · cases h; exact lv_icmp_lt hx hb hd ht kt kf
  · cases h; exact lv_icmp_ge hx hb hd ht kt kf
  · cases h; exact lv_icmp_gt hx hb hd ht kt kf
  · cases h; exact lv_icmp_le hx hb hd ht kt kf
  · cases h
theorem st_go (C : Cx E o cc nL p s m args meth c) (hd : decode cc pc = .ok (i, len)) (h3 : ∀ off, i = .goto off → len = 3) {off : Int} {tgt : Nat} (h : tx_go i st = some (off, st')) (ht : (pc : Int) + off = (tgt : Int)) (kk : W p l e R s m args below meth c H locs 0 0 Q (F0 m tgt ls st')) : W p l e R s m args below meth c H locs 0 0 Q (F0 m pc ls st) := by
  obtain ⟨hx, hb, -, hown, hts, -, -, -⟩ := C
  unfold tx_go at h
  split at h
  · cases h
    have := h3 _ rfl
    subst this
    exact lv_goto hx hb hd ht kk
  · split at h
    · next hout => cases h; exact lv_tableOut hx hb hd hout ht kk
    · next d lo hi offs x st hin =>
      cases ho : offs[(x.toInt - lo).toNat]? with
      | none => rw [ho] at h; cases h
      | some z =>
        rw [ho] at h
        cases h
        exact lv_tableIn hx hb hd (fun q => hin (Or.inl q)) (fun q => hin (Or.inr q)) ho ht kk
  · split at h
    · next hs => cases h; exact lv_lookup hx hb hd hs rfl ht kk
    · cases h
  · cases h
theorem tx_cell_o {a k : Nat} (h : E.2.2.1 a = k) (hk : k < 10) : tx_cell E.2.1 E.2.2.1 E.2.2.2.1 I J P a = .inr (k + 2, tx_fs (I a) (J a) (P a) (tx_fk k) 0) := by
  simp only [tx_cell, tx_E, h, hk, if_true]
set_option maxHeartbeats 4000000 in
theorem st_getf (C : Cx E o cc nL p s m args meth c) {n k j t a : Nat} (hd : decode cc pc = .ok (.getfield n, 3)) (hf : fres o n = some (k, j)) (hS : E.2.2.1 a = k) (ht : (tx_fk k)[j]? = some t) (hW : Wd E A H0 I J P H locs) (kk : W p l e R s m args below meth c H locs 0 0 Q (F0 m (pc + 3) ls (tx_v (I a) (J a) (P a) t j :: st))) : W p l e R s m args below meth c H locs 0 0 Q (F0 m pc ls (.ref a :: st)) := by
  obtain ⟨hx, hb, -, hown, hts, -, hK, hE⟩ := C
  obtain ⟨h1, h2, h3⟩ := ft_ok o _ (tb_res hf)
  dsimp only at h1 h2 h3
  obtain ⟨q0, hq0⟩ := tx_at (I := I) (J := J) (P := P) hE (show E.2.2.1 a < 15 by omega)
  rw [tx_cell_o hS h1] at hq0
  have hv := tx_fs_get (I a) (J a) (P a) (tx_fk k) 0 j t ht
  rw [Nat.zero_add] at hv
  exact va_get (D := E.1) hx hb hts (tx_layz k h1) hown hK hW.1 q0 hq0 (tx_cl k h1) j h2 (hts _ (tz_mem h3)) (fun _ z => z) hv hd kk
set_option maxHeartbeats 4000000 in
theorem st_putf (C : Cx E o cc nL p s m args meth c) {n k j a : Nat} {v : Value} {b : Prop} (hd : decode cc pc = .ok (.putfield n, 3)) (hf : fres o n = some (k, j)) (hS : E.2.2.1 a = k) (hfin : (tx_T k j).2.2.2 = false) (hp : tx_pf I J P a k j v = some (b, I', J', P')) (hbb : b) (hW : Wd E A H0 I J P H locs) (kk : ∀ H1 locs1, Wd E A H0 I' J' P' H1 locs1 → W p l e R s m args below meth c H1 locs1 0 0 Q (F0 m (pc + 3) ls st)) : W p l e R s m args below meth c H locs 0 0 Q (F0 m pc ls (v :: .ref a :: st)) := by
  obtain ⟨hx, hb, -, hown, hts, -, hK, hE⟩ := C
  obtain ⟨h1, h2, h3⟩ := ft_ok o _ (tb_res hf)
  dsimp only at h1 h2 h3
  have h15 : E.2.2.1 a < 15 := by omega
  obtain ⟨q0, hq0⟩ := tx_at (I := I) (J := J) (P := P) hE h15
  have hq1 := hq0
  rw [tx_cell_o hS h1] at hq0
  obtain ⟨hP, hD, hSS⟩ := hW
  have key : ∀ (t : Nat), (tx_fk k)[j]? = some t → narrow (tx_ty k j) v = v → fits (tx_ty k j) v = true → tx_v (I' a) (J' a) (P' a) t (0 + j) = v → (∀ m, m ≠ 0 + j → I a m = I' a m ∧ J a m = J' a m ∧ P a m = P' a m) → (∀ b, b ≠ a → I b = I' b ∧ J b = J' b ∧ P b = P' b) → W p l e R s m args below meth c H locs 0 0 Q (F0 m pc ls (v :: .ref a :: st)) := by
    intro t ht hn hfit hv ho hob
    have hset := tx_fs_put (I a) (I' a) (J a) (J' a) (P a) (P' a) v (tx_fk k) 0 j t ht hv ho
    refine va_put (D := E.1) hx hb hts (tx_layz k h1) (tx_ty k) (tx_tyok k h1) (tx_nmok k h1) hown hK hP hD hSS q0 hq0 (tx_cl k h1) j h2 (hts _ (tz_mem h3)) (fun _ z => z) hfin (tx_tyok k h1 j h2) hn hfit (by rw [tx_fs_len, tx_len k h1]; exact h2) hd (fun H1 locs1 g1 g2 g3 => ?_)
    rw [hset, tx_set (I' := I') (J' := J') (P' := P') hE hD h15 hq1 _ (tx_cell_o hS h1) hob] at g1 g2
    exact kk H1 locs1 ⟨g1, g2, g3⟩
  unfold tx_pf at hp
  split at hp
  · next v =>
    cases hp
    obtain ⟨b1, b2, b3⟩ := hbb
    refine key 0 b1 b2 b3 ?_ (fun m hm => ?_) (fun b hb => ⟨(u2_off I j v hb).symm, rfl, rfl⟩)
    · simp [tx_v, u2]
    · exact ⟨by simp [u2, show m ≠ j by omega], rfl, rfl⟩
  · next v =>
    cases hp
    obtain ⟨b1, b2, b3⟩ := hbb
    refine key 1 b1 b2 b3 ?_ (fun m hm => ?_) (fun b hb => ⟨rfl, (u2_off J j v hb).symm, rfl⟩)
    · simp [tx_v, u2]
    · exact ⟨rfl, by simp [u2, show m ≠ j by omega], rfl⟩
  · cases hp
end TXT

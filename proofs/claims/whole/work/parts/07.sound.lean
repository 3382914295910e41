/-! what the machine does, the JVM does -/
def tz : List Cond := lw_tbl.filter goodWord
theorem tz_mem {w : Cond} (h : tbG w) : w ∈ tz := List.mem_filter.mpr ⟨h.1, h.2⟩
theorem tz_of {w : Cond} (h : w ∈ tz) : tbG w := ⟨(List.mem_filter.mp h).1, (List.mem_filter.mp h).2⟩
theorem gz {ws : List Cond} (h : ∀ w ∈ ws, tbG w) : GoodIn tz ws := fun w hw => ⟨tz_mem (h w hw), good_of_word (h w hw).2⟩
def wz (M : MR) : List Cond := .code M.1 M.2.1 M.2.2.1 M.2.2.2.1 :: tz
theorem wz_g {M : MR} (h : MF M) : ∀ w ∈ wz M, tbG w := by
  intro w hw
  rcases List.mem_cons.mp hw with rfl | hw
  · exact h.2.1
  · exact tz_of hw
theorem wsV_g {own C : String} {n : Nat} {y : MethodName} {ws : List Cond} (h1 : tbG (.methodLink own n y)) (h2 : tbG (.instanceMethod y)) (h3 : tbG (.selects C y y)) (h4 : tbG (.initialized C)) (h : ∀ w ∈ ws, tbG w) : GoodIn tz (wsV own n C y ws) := gz (by
  intro w hw
  simp only [wsV, List.cons_append, List.nil_append, List.mem_cons] at hw
  rcases hw with rfl | rfl | rfl | rfl | hw
  · exact h1
  · exact h2
  · exact h3
  · exact h4
  · exact h w hw)
theorem wsS_g {own : String} {n : Nat} {y : MethodName} {ws : List Cond} (h1 : tbG (.methodLink own n y)) (h2 : tbG (.static y)) (h4 : tbG (.initialized y.cls)) (h : ∀ w ∈ ws, tbG w) : GoodIn tz (va_wsS own n y ws) := gz (by
  intro w hw
  simp only [va_wsS, List.cons_append, List.nil_append, List.mem_cons] at hw
  rcases hw with rfl | rfl | rfl | hw
  · exact h1
  · exact h2
  · exact h4
  · exact h w hw)
def rmd (d : Nat) : Room := { frames := d, cells := 0, slots := 0, locals := 60 * d }
def PcM (E : tx_En) (av : List Value) (I : IM) (J : JM) (P : PM) : Array Value → State → Prop := va_Pc av (fun U => va_P E.1 vwCl (tx_W E I J P) U.heap ∧ va_K E.1 vwCl (tx_tys E.2.1) U ∧ va_D (fun _ => True) (tx_W E I J P))
def QcM (E : tx_En) (r : Option Value) (I : IM) (J : JM) (P : PM) : Array Value → State → Outcome → State → Prop := fun _ st o t => o = .returned r ∧ va_P E.1 vwCl (tx_W E I J P) t.heap ∧ va_F (fun a => a ∈ E.2.2.2.2) st t
theorem PcM_blind (E : tx_En) (av : List Value) (I : IM) (J : JM) (P : PM) : FrameBlind (PcM E av I J P) := fun a U g mk q => by
  obtain ⟨q0, qP, qK, qD⟩ := q
  exact ⟨q0, qP, va_K.moved (u := U) (U := U.calling g mk a) (Vm.Alike.refl U.vm) qK, qD⟩
theorem tb_res {α : Type} {l : List (Nat × α)} {k : Nat} {v : α} (h : (l.find? (fun q => q.1 == k)).map (·.2) = some v) : (k, v) ∈ l := by
  cases hf : l.find? (fun q => q.1 == k) with
  | none => rw [hf] at h; cases h
  | some q =>
    rw [hf] at h
    have h1 : q.2 = v := Option.some.inj h
    have h2 : q.1 = k := by simpa using List.find?_some hf
    rw [← h1, ← h2]
    exact List.mem_of_find?_eq_some hf
theorem ft_ok (o : Nat) : ∀ q ∈ ft o, q.2.1 < 10 ∧ q.2.2 < tx_n q.2.1 ∧ tbG (.fieldLink (tx_R o) q.1 (tx_T q.2.1 q.2.2).1 (tx_T q.2.1 q.2.2).2.1 (tx_T q.2.1 q.2.2).2.2.1) := by
  match o with
  | 0 => exact ft_0_ok | 1 => exact ft_1_ok | 2 => exact ft_2_ok | 3 => exact ft_3_ok | 4 => exact ft_4_ok | 5 => exact ft_5_ok | 6 => exact ft_6_ok | 7 => exact ft_7_ok | 8 => exact ft_8_ok | 9 => exact ft_9_ok | n + 10 => exact ft_10_ok
theorem mt_ok (o : Nat) : ∀ q ∈ mt o, tbG (.methodLink (tx_R o) q.1 q.2.1) ∧ MF q.2 := by
  match o with
  | 0 => exact mt_0_ok | 1 => exact mt_1_ok | 2 => exact mt_2_ok | 3 => exact mt_3_ok | 4 => exact mt_4_ok | 5 => exact mt_5_ok | 6 => exact mt_6_ok | 7 => exact mt_7_ok | 8 => exact mt_8_ok | 9 => exact mt_9_ok | n + 10 => exact mt_10_ok
theorem ct_ok (o : Nat) : ∀ q ∈ ct o, tbG (.constantLong (tx_R o) q.1 q.2) := by
  match o with
  | 0 => exact ct_0_ok | 1 => exact ct_1_ok | 2 => exact ct_2_ok | 3 => exact ct_3_ok | 4 => exact ct_4_ok | 5 => exact ct_5_ok | 6 => exact ct_6_ok | 7 => exact ct_7_ok | 8 => exact ct_8_ok | 9 => exact ct_9_ok | n + 10 => exact ct_10_ok
theorem nt_ok (o : Nat) : ∀ q ∈ nt o, tbG (.methodLink (tx_R o) q.1 (nt_y q.2)) := by
  match o with
  | 0 => exact nt_0_ok | 1 => exact nt_1_ok | 2 => exact nt_2_ok | 3 => exact nt_3_ok | 4 => exact nt_4_ok | 5 => exact nt_5_ok | 6 => exact nt_6_ok | 7 => exact nt_7_ok | 8 => exact nt_8_ok | 9 => exact nt_9_ok | n + 10 => exact nt_10_ok
theorem tx_Rc {M : MR} (h : MF M) : M.1.cls = tx_R M.2.2.2.2.1 := by
  have h1 := h.2.2.2.2.2.2.2.2.1
  rw [h1]
  generalize M.2.2.2.2.1 = n
  match n with
  | 0 => rfl | 1 => rfl | 2 => rfl | 3 => rfl | 4 => rfl | 5 => rfl | 6 => rfl | 7 => rfl | 8 => rfl | 9 => rfl | n + 10 => rfl
section TXS
variable {p : Program} {l : Launch} {e : Env} {R : Room} {s : State} {m : MethodId} {args : Array Value} {below : List Frame} {meth : Method} {c : Code} {Q : State → Prop}
variable {E : tx_En} {A : Nat → Prop} {H0 : Heap} {cc : ByteArray} {nL : Nat}
/-- behind a call: the worlds, from the callee's end -/
theorem tx_back {H : Heap} {locs : List Loc} {I I' : IM} {J J' : JM} {P P' : PM} {r : Option Value} {a : Array Value} {pc : Nat} {ls : Array Slot} {st0 rest : List Value} (hE : tx_ok E) (hW : Wd E A H0 I J P H locs)
    (hr : va_Run p l e R s m args below meth c H locs 0 0 0 0 (F0 m pc ls st0) rest (QcM E r I' J' P' a) (fun q => q ∈ E.2.2.2.2))
    (k : ∀ H1 locs1, Wd E A H0 I' J' P' H1 locs1 → W p l e R s m args below meth c H1 locs1 0 0 Q (F0 m (pc + 3) ls (r.toList ++ rest))) : W p l e R s m args below meth c H locs 0 0 Q (F0 m pc ls st0) := by
  intro T hT X
  obtain ⟨v, st₀, t, T', L, h0, X', hL, e1, e2, ⟨hv, hP1, hz, hk⟩, st⟩ := hr T hT X
  cases hv
  obtain ⟨hP, hD, hS⟩ := hW
  have hLA : ∀ q, q ∈ E.2.2.2.2 → A q := fun q hq => by
    obtain ⟨i, hi⟩ := va_pl_get (X := []) (f := tx_cell E.2.1 E.2.2.1 E.2.2.2.1 I J P) hq
    exact hD.2 i (q, _) hi
  rw [h0] at hz hk
  obtain ⟨t2, a1, b1⟩ := k T'.heap (locs ++ L) ⟨by rw [e1]; exact hP1, tx_D_any hD, Nat.le_trans hS.1 (by rw [e1]; exact hz), fun q h1 h2 => by
      rw [e1, hk q (Nat.lt_of_lt_of_le h1 hS.1) (fun z => h2 (hLA q z))]
      exact hS.2.1 q h1 h2, fun q hq => by
      rcases List.mem_append.mp hq with h | h
      · exact hS.2.2 q h
      · exact hLA _ (hL q h)⟩ T' rfl X'
  exact ⟨t2, st t2 a1, b1⟩
theorem tx_aald {D : va_G} {cl : List vw_C} {tys : List (ClassId × FieldType)} {ws : va_W} {H : Heap} {locs : List Loc} {a pc : Nat} {ls : Array Slot} {rest : List Value} (hexec : p.tables.exec = Jvm.exec) (hb : c.code = cc) (hK : va_K D cl tys s) (hP : va_P D cl ws H) (q0 t0 : Nat) {cA : ClassId} {ty : FieldType} {n : Nat} {f : Nat → Option Nat} (ha : ws[q0]? = some (a, .inl (cA, n, .inr (.inr (.inr (.inr f)))))) (ht : tys[t0]? = some (cA, ty)) (hty : ty.isReference = true) {i : Int32} (hin : vp_in i n) (hdg : decode cc pc = .ok (.aaload, 1))
    (kk : W p l e R s m args below meth c H locs 0 0 Q (F0 m (pc + 1) ls (va_rf (f i.toNatClampNeg) :: rest))) : W p l e R s m args below meth c H locs 0 0 Q (F0 m pc ls (.int i :: .ref a :: rest)) := by
  have hlt : i.toNatClampNeg < n := Nat.not_le.mp fun q => hin (Or.inr q)
  exact W.aald (v := va_rf (f i.toNatClampNeg)) (ty := ty) hexec hb (hP q0 _ ha) ((hK.2 t0 _ ht).1 n (fun j => va_rf (f j))) hty (fun q => by cases q) (by show ¬ (i < 0 ∨ (arrV _ _ _).slots.size ≤ _); rw [arrV_size]; exact hin) (by show (arrV _ _ _).slots[_]? = _; rw [arrV_read _ _ hlt]) rfl rfl hdg kk
end TXS

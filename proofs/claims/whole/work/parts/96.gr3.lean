/-! constructors: their contracts, their calls -/
def I0 : IM := fun _ _ => 0
def J0 : JM := fun _ _ => 0
def P0 : PM := fun _ _ => none
def mrg {α : Type} (b : Nat) (f g : Nat → α) : Nat → α := fun z => if b ≤ z then g z else f z
theorem mrg_hi {α : Type} {b z : Nat} {f g : Nat → α} (h : b ≤ z) : mrg b f g z = g z := if_pos h
theorem mrg_lo {α : Type} {b z : Nat} {f g : Nat → α} (h : z < b) : mrg b f g z = f z := if_neg (by omega)
theorem ao_mv {ty : FieldType} {args a' : Array Value} {s U : State} (hW : s.vm.Alike U.vm) (h : (Cond.arrayOver ty).before args s = true) : (Cond.arrayOver ty).before a' U = true := by
  have h2 : (Cond.arrayOver ty).before args (s.setVm U.vm) = true := by rw [Cond.arrayOver_setVmC hW]; exact h
  simp only [Cond.before, Cond.holds, Cond.value, State.vm_setVm] at h2 ⊢
  exact h2
/-- words that are no 'good' words -/
def AO (U : State) : Prop := (Cond.arrayOver (.object RX2)).before #[] U = true ∧ (Cond.arrayOver (.object RX5)).before #[] U = true ∧ (Cond.arrayOver (.array .long)).before #[] U = true
theorem AO.on {s U : State} (h : AO s) (hW : s.WarmedH U.vm) : AO U := ⟨ao_mv hW.alike h.1, ao_mv hW.alike h.2.1, ao_mv hW.alike h.2.2⟩
theorem AO.same {s U : State} (h : AO s) (hv : U.vm = s.vm) : AO U := by
  have ha : s.vm.Alike U.vm := by rw [hv]; exact Vm.Alike.refl s.vm
  exact ⟨ao_mv ha h.1, ao_mv ha h.2.1, ao_mv ha h.2.2⟩
theorem plP {D : va_G} {cl : List vw_C} {L : List Nat} {f : Nat → va_E} {H : Heap} : va_P D cl (va_pl L f) H ↔ ∀ z ∈ L, va_at D cl (z, f z) H := by
  constructor
  · intro h z hz
    obtain ⟨k, hk⟩ := va_pl_get (X := []) (f := f) hz
    exact h k _ hk
  · intro h k q hk
    obtain ⟨z, hz, rfl⟩ := List.mem_map.mp (List.mem_of_getElem? hk)
    exact h z hz
theorem es_D {E : tx_En} {a n : Nat} {A : Nat → Prop} {I : IM} {J : JM} {P : PM} (hA : ∀ z, a ≤ z → A z) : va_D A (tx_W (Es E a n) I J P) := by
  have key : ∀ (k : Nat) (q : Nat × va_E), (tx_W (Es E a n) I J P)[k]? = some q → q.1 = a + k := by
    intro k q hk
    have h1 : ((List.range' a n).map (fun z => (z, tx_cell E.2.1 (eS E a n) E.2.2.2.1 I J P z)))[k]? = some q := hk
    rw [List.getElem?_map] at h1
    cases h2 : (List.range' a n)[k]? with
    | none => rw [h2] at h1; cases h1
    | some z =>
      rw [h2] at h1
      cases h1
      have h3 := (List.getElem?_eq_some_iff.mp h2).2
      rw [List.getElem_range'] at h3
      show z = a + k
      omega
  refine ⟨fun i j p q hi hj h => ?_, fun k q hk => ?_⟩
  · have e1 := key i p hi
    have e2 := key j q hj
    omega
  · rw [key k q hk]
    exact hA _ (by omega)
theorem es_cell {E : tx_En} {a n z : Nat} {I : IM} {J : JM} {P : PM} (h1 : a ≤ z) (h2 : z < a + n) : tx_cell (Es E a n).2.1 (Es E a n).2.2.1 (Es E a n).2.2.2.1 I J P z = tx_cell E.2.1 E.2.2.1 E.2.2.2.1 I J P z := by
  show tx_E _ (eS E a n z) _ _ _ _ = _
  rw [eS_in h1 h2]
  rfl
theorem esP {E : tx_En} {a n : Nat} {I : IM} {J : JM} {P : PM} {H : Heap} : va_P E.1 vwCl (tx_W (Es E a n) I J P) H ↔ ∀ z, a ≤ z → z < a + n → va_at E.1 vwCl (z, tx_cell E.2.1 E.2.2.1 E.2.2.2.1 I J P z) H := by
  refine Iff.trans plP ⟨fun h z h1 h2 => ?_, fun h z hz => ?_⟩
  · have h3 := h z (List.mem_range'_1.mpr ⟨h1, h2⟩)
    rw [es_cell h1 h2] at h3
    exact h3
  · obtain ⟨h1, h2⟩ := List.mem_range'_1.mp hz
    rw [es_cell h1 h2]
    exact h z h1 h2
def wzC (y : MethodName) (cc : ByteArray) (mL : Nat) : List Cond := .code y cc mL none :: tz
def rmC (d k sl : Nat) : Room := { frames := d, cells := k, slots := sl, locals := 60 * d + 20 }
def PcC (E : tx_En) (a : Nat) : Array Value → State → Prop := va_Pc [.ref a] (fun U => U.heap.size = a + 1 ∧ va_P E.1 vwCl (tx_W (Es E a 1) I0 J0 P0) U.heap ∧ va_K E.1 vwCl (tx_tys E.2.1) U ∧ AO U)
theorem PcC_blind (E : tx_En) (a : Nat) : FrameBlind (PcC E a) := fun b U g mk q => by
  obtain ⟨q0, q1, qP, qK, qA⟩ := q
  exact ⟨q0, q1, qP, va_K.moved (u := U) (U := U.calling g mk b) (Vm.Alike.refl U.vm) qK, qA.same rfl⟩
def QcC (E : tx_En) (a n : Nat) (F : IM → JM → PM → Prop) : Array Value → State → Outcome → State → Prop := fun _ st o t => o = .returned none ∧ (∃ I J P, F I J P ∧ va_P E.1 vwCl (tx_W (Es E a n) I J P) t.heap) ∧ va_F (fun q => a ≤ q) st t
/-- a constructor's contract: k cells behind its own -/
def CtM (l : Launch) (E : tx_En) (y : MethodName) (cc : ByteArray) (mL d a k sl : Nat) (F : IM → JM → PM → Prop) : Prop :=
  Met l y (wzC y cc mL) (rmC d k sl) (PcC E a) (QcC E a (k + 1) F) k sl (fun q => a ≤ q)
/-- facts of a constructor -/
def CF (y : MethodName) (cc : ByteArray) (mL o : Nat) : Prop := plainName y.cls = true ∧ tbG (.code y cc mL none) ∧ tbG (.initialized y.cls) ∧ tbG (.instanceMethod y) ∧ y.name = "<init>" ∧ (y.cls ≠ "java/lang/invoke/MethodHandle" ∧ y.cls ≠ "java/lang/invoke/VarHandle" ∧ (parseMethodDescriptor y.desc).map (fun d => d.parameters.length) = some 0) ∧ y.cls = tx_R o ∧ mL ≤ 4 ∧ 1 ≤ mL
theorem wzC_good {y : MethodName} {cc : ByteArray} {mL o : Nat} (h : CF y cc mL o) : GoodIn tz (wzC y cc mL) := by
  intro w hw
  have h2 : tbG w := by
    rcases List.mem_cons.mp hw with rfl | hw
    · exact h.2.1
    · exact tz_of hw
  exact ⟨tz_mem h2, good_of_word h2.2⟩
theorem CtM.of {l : Launch} {E : tx_En} {y : MethodName} {cc : ByteArray} {mL d a k sl o : Nat} {F : IM → JM → PM → Prop} (hC : CF y cc mL o) (body : ∀ p e s m args below meth c, Cx (Es E a 1) o cc mL p s m args meth c → meth.name = "<init>" → meth.sig.returnType = none → AO s → s.heap.size = a + 1 → ∀ ls, Lv ls mL (entL [.ref a] mL) → Wd (Es E a 1) (fun q => a ≤ q) s.heap I0 J0 P0 s.heap [] → W p l e (rmC d k sl) s m args below meth c s.heap [] 0 0 (MQ below (QcC E a (k + 1) F) args s k sl (fun q => a ≤ q)) (F0 m 0 ls [])) : CtM l E y cc mL d a k sl F := by
  refine Met.ofW (cc := cc) (maxL := mL) (ret := none) hC.1 rfl ?_
  intro p e s m args below meth c s₁ B hml hv
  obtain ⟨rfl, hz, hP, hK, hA⟩ := hv
  have hts := atoms_spec (ws := wzC y cc mL) B.pre
  have hown : s.vm.findClass y.cls = some m.cls := findClass_of_methodNamed B.named
  rw [hC.2.2.2.2.2.2.1] at hown
  have hin : meth.name = "<init>" := (name_of_methodNamed B.named B.method).1.trans hC.2.2.2.2.1
  rw [lg_entry_eq]
  exact body p e s m _ below meth c ⟨B.exec, B.bytes, hml, hown, fun w hw => hts w (List.mem_cons_of_mem _ hw), B.notSynchronized, hK, es_ok E a 1⟩ hin B.returns hA hz _ (Lv_entry [.ref a] (by show (entl [Value.ref a]).length ≤ mL; exact hC.2.2.2.2.2.2.2.2)) ⟨hP, es_D (fun _ h => h), va_S.rf⟩
section GRC
variable {p : Program} {l : Launch} {e : Env} {R : Room} {s : State} {m : MethodId} {args : Array Value} {below : List Frame} {meth : Method} {c : Code} {Q : State → Prop}
variable {E : tx_En} {A : Nat → Prop} {H0 H : Heap} {locs : List Loc} {cells slots : Nat} {cc : ByteArray} {nL o pc a n : Nat} {st : List Value} {ls : Array Slot} {ll : List (Option Value)} {I I' : IM} {J J' : JM} {P P' : PM}
/-- a constructor's end -/
theorem gr_ret {k sl d : Nat} {F : IM → JM → PM → Prop} (C : Cx (Es E a (k + 1)) o cc nL p s m args meth c) (hr : meth.sig.returnType = none) (hF : F I J P) (hW : Wd (Es E a (k + 1)) (fun q => a ≤ q) s.heap I J P H locs) (hd : decode cc pc = .ok (.return_, 1)) : W p l e (rmC d k sl) s m args below meth c H locs k sl (MQ below (QcC E a (k + 1) F) args s k sl (fun q => a ≤ q)) (F0 m pc ls []) := by
  obtain ⟨hx, hb, hml, hown, hts, hlocks, hK, hE⟩ := C
  exact W.vret hx hb hr (fun t ht _ => ⟨rfl, ⟨I, J, P, hF, by rw [ht]; exact hW.1⟩, hW.2.2.F ht⟩) hW.2.2.2.2 hd hlocks
set_option maxHeartbeats 4000000 in
/-- a call of an own constructor, on the object that was made last -/
theorem gr_ctor {idx o2 d k sl : Nat} {y : MethodName} {cc2 : ByteArray} {mL : Nat} {F : IM → JM → PM → Prop} (C : Cx (Es E a (n + 1)) o cc nL p s m args meth c) (hAO : AO s) (hL : Lv ls nL ll) (hC : CF y cc2 mL o2) (hM : CtM l E y cc2 mL d (a + n) k sl F) (hsz : s.heap.size + cells = a + (n + 1)) (hI : I (a + n) = I0 (a + n)) (hJ : J (a + n) = J0 (a + n)) (hP0 : P (a + n) = P0 (a + n)) (hlink : tbG (.methodLink (tx_R o) idx y)) (hA : ∀ q, a ≤ q → A q) (hst : (st.map fun v => v.category).sum ≤ 8) (hR : d + 1 ≤ R.frames ∧ 60 * d + 50 ≤ R.locals) (hcs : cells + k ≤ R.cells ∧ slots + sl ≤ R.slots) (hd : decode cc pc = .ok (.invokespecial idx, 3)) (hW : Wd (Es E a (n + 1)) A H0 I J P H locs)
    (kk : ∀ I' J' P' H1 locs1, F I' J' P' → Wd (Es E a (n + (k + 1))) A H0 (mrg (a + n) I I') (mrg (a + n) J J') (mrg (a + n) P P') H1 locs1 → W p l e R s m args below meth c H1 locs1 (cells + k) (slots + sl) Q (F0 m (pc + 3) ls st)) : W p l e R s m args below meth c H locs cells slots Q (F0 m pc ls (.ref (a + n) :: st)) := by
  refine gr_size (fun hup => ?_)
  have hlow := gr_low (Nat.le_add_left 1 n) hW
  have hH : H.size = a + n + 1 := by omega
  obtain ⟨hx, hb, hml, hown, hts, -, hK, hE⟩ := C
  have hr := va_runI (As := []) (rest := st) (Ts := tz) (H := H) (locs := locs) (cells := cells) (slots := slots) (g := F0 m pc ls (.ref (a + n) :: st)) (e := e) (below := below) (meth := meth) ⟨hx, hb, hml, hown, hts⟩ hM (cwI 0 hts (wzC_good hC) rfl rfl rfl (hts _ (tz_mem hC.2.2.1)) (hts _ (tz_mem hlink)) (hts _ (tz_mem hC.2.2.2.1)) hC.2.2.2.2.1 hC.2.2.2.2.2.1 ⟨hR.1, by have := hC.2.2.2.2.2.2.2.1; show 8 + (mL + 11) + (60 * d + 20) ≤ R.locals; omega⟩) ⟨PcC_blind _ _, fun U hU hWu => ⟨rfl, by rw [hU]; exact hH, by
      rw [hU]
      refine esP.mpr (fun z h1 h2 => ?_)
      have hz : z = a + n := by omega
      subst hz
      have h3 := esP.mp hW.1 (a + n) (by omega) (by omega)
      unfold tx_cell at h3 ⊢
      rw [hI, hJ, hP0] at h3
      exact h3, va_K.moved hWu.alike hK, hAO.on hWu⟩⟩ rfl rfl hL.2.1 rfl (lv_room hst) hd hcs
  intro T hT X
  obtain ⟨v, st₀, t, T', L, h0, X', hLf, e1, e2, ⟨hv, ⟨I', J', P', hF, hP1⟩, hz, hk⟩, stp⟩ := hr T hT X
  rw [h0, ← e1] at hz hk
  rw [← e1] at hP1
  cases hv
  obtain ⟨t2, a1, b1⟩ := kk I' J' P' T'.heap (locs ++ L) hF ⟨esP.mpr (fun z h1 h2 => by
      by_cases hzn : a + n ≤ z
      · have h3 := esP.mp hP1 z hzn (by omega)
        unfold tx_cell at h3 ⊢
        rw [mrg_hi hzn, mrg_hi hzn, mrg_hi hzn]
        exact h3
      · have h3 := esP.mp hW.1 z h1 (by omega)
        have h4 := va_P.kept (H1 := T'.heap) (ws := [(z, tx_cell E.2.1 E.2.2.1 E.2.2.2.1 I J P z)]) (D := E.1) (cl := vwCl) (H := H) (fun k9 q9 h9 => by
          have hk9 : k9 < 1 := (List.getElem?_eq_some_iff.mp h9).1
          rw [show k9 = 0 by omega] at h9
          cases h9
          exact h3) (fun k9 q9 h9 => by
          have hk9 : k9 < 1 := (List.getElem?_eq_some_iff.mp h9).1
          rw [show k9 = 0 by omega] at h9
          cases h9
          show T'.heap[z]? = H[z]?
          exact hk z (by omega) hzn) 0 _ rfl
        unfold tx_cell at h4 ⊢
        rw [mrg_lo (by omega), mrg_lo (by omega), mrg_lo (by omega)]
        exact h4), es_D (fun z hz => hA z hz), Nat.le_trans hW.2.2.1 hz, fun q h1 h2 => by
      rw [hk q (Nat.lt_of_lt_of_le h1 hW.2.2.1) (fun z => h2 (hA q (by omega)))]
      exact hW.2.2.2.1 q h1 h2, fun z hz => by
      rcases List.mem_append.mp hz with h | h
      · exact hW.2.2.2.2 z h
      · exact hA _ (by have := hLf z h; omega)⟩ T' rfl X'
  exact ⟨t2, stp t2 a1, b1⟩
end GRC

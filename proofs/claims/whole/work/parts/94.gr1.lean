/-! a world that grows: objects and arrays made one behind the other -/
def eS (E : tx_En) (a n : Nat) : Nat → Nat := fun z => if a ≤ z ∧ z < a + n then E.2.2.1 z else 99
def Es (E : tx_En) (a n : Nat) : tx_En := (E.1, E.2.1, eS E a n, E.2.2.2.1, List.range' a n)
theorem eS_in {E : tx_En} {a n z : Nat} (h1 : a ≤ z) (h2 : z < a + n) : eS E a n z = E.2.2.1 z := if_pos ⟨h1, h2⟩
theorem es_ok (E : tx_En) (a n : Nat) : tx_ok (Es E a n) := by
  intro z hz
  by_cases h : a ≤ z ∧ z < a + n
  · exact List.mem_range'_1.mpr h
  · have h1 : eS E a n z = 99 := if_neg h
    have h2 : eS E a n z < 15 := hz
    omega
theorem es_W {E : tx_En} {a n : Nat} {I : IM} {J : JM} {P : PM} : tx_W (Es E a (n + 1)) I J P = tx_W (Es E a n) I J P ++ [(a + n, tx_cell E.2.1 E.2.2.1 E.2.2.2.1 I J P (a + n))] := by
  show va_pl (List.range' a (n + 1)) _ = va_pl (List.range' a n) _ ++ _
  rw [List.range'_1_concat]
  unfold va_pl
  rw [List.map_append]
  congr 1
  · refine List.map_congr_left (fun z hz => ?_)
    have h := List.mem_range'_1.mp hz
    show (z, tx_E _ (eS E a (n + 1) z) _ _ _ _) = (z, tx_E _ (eS E a n z) _ _ _ _)
    rw [eS_in h.1 (by omega), eS_in h.1 h.2]
    rfl
  · show [(a + n, tx_E _ (eS E a (n + 1) (a + n)) _ _ _ _)] = _
    rw [eS_in (by omega) (by omega)]
    rfl
section GRW
variable {p : Program} {l : Launch} {e : Env} {R : Room} {s : State} {m : MethodId} {args : Array Value} {below : List Frame} {meth : Method} {c : Code} {Q : State → Prop}
variable {E : tx_En} {A : Nat → Prop} {H0 H : Heap} {locs : List Loc} {cells slots : Nat} {cc : ByteArray} {nL o pc a n : Nat} {st : List Value} {ls : Array Slot} {I : IM} {J : JM} {P : PM}
theorem Cx.es {n' : Nat} (C : Cx (Es E a n) o cc nL p s m args meth c) : Cx (Es E a n') o cc nL p s m args meth c := by
  obtain ⟨h1, h2, h3, h4, h5, h6, h7, -⟩ := C
  exact ⟨h1, h2, h3, h4, h5, h6, h7, es_ok E a n'⟩
/-- one cell more -/
theorem gr_wd {H1 : Heap} (hH : H.size = a + n) (hA : ∀ q, H0.size ≤ q → A q) (hW : Wd (Es E a n) A H0 I J P H locs) (h1 : va_at E.1 vwCl (a + n, tx_cell E.2.1 E.2.2.1 E.2.2.2.1 I J P (a + n)) H1) (z1 : H1.size = H.size + 1) (o1 : ∀ q : Nat, q < H.size → H1[q]? = H[q]?) : Wd (Es E a (n + 1)) A H0 I J P H1 locs := by
  obtain ⟨hP, hD, hS⟩ := hW
  have hP1 : va_P E.1 vwCl (tx_W (Es E a n) I J P) H1 := hP.kept (fun k x hx => o1 x.1 ((hP k x hx).lt))
  refine ⟨?_, ?_, Nat.le_trans hS.1 (by omega), fun x q1 q2 => (o1 x (Nat.lt_of_lt_of_le q1 hS.1)).trans (hS.2.1 x q1 q2), hS.2.2⟩
  · rw [es_W]
    refine hP1.app (fun k x hx => ?_)
    have hz : k < 1 := (List.getElem?_eq_some_iff.mp hx).1
    rw [show k = 0 by omega] at hx
    cases hx
    exact h1
  · rw [es_W]
    exact hD.push hP hH.symm (hA _ (by rw [← hH]; exact hS.1))
theorem gr_newI {N' : Nat} {v : Int32} (C : Cx (Es E a n) o cc nL p s m args meth c) (hH : H.size = a + n) (hS : E.2.2.1 (a + n) = 10) (hN : E.2.2.2.1 (a + n) = N') (hI : I (a + n) = fun _ => 0) (harr : tbG (.arrayClass .int)) (hA : ∀ q, H0.size ≤ q → A q) (hv0 : ¬ v < 0) (hvN : v.toNatClampNeg = N') (hb : N' ≤ 1000) (hR : cells + 1 ≤ R.cells ∧ slots + N' ≤ R.slots) (hd : decode cc pc = .ok (.newarray .int, 2)) (hW : Wd (Es E a n) A H0 I J P H locs)
    (kk : ∀ H1, H1.size = a + (n + 1) → (∀ q : Nat, q < H.size → H1[q]? = H[q]?) → Wd (Es E a (n + 1)) A H0 I J P H1 locs → W p l e R s m args below meth c H1 locs (cells + 1) (slots + N') Q (F0 m (pc + 2) ls (.ref (a + n) :: st))) : W p l e R s m args below meth c H locs cells slots Q (F0 m pc ls (.int v :: st)) := by
  obtain ⟨hx, hbb, -, hown, hts, -, hK, hE⟩ := id C
  refine va_newaK (atype := .int) hx hbb (hts _ (tz_mem harr)) rfl hd rfl hv0 hvN (by show N' * 4 ≤ _; omega) hR.1 hR.2 hH (fun H1 cA e1 z1 o1 hAr hNm => ?_)
  have hg : s.vm.findClass ("[" ++ (FieldType.int).toString) = some E.2.1.1 := (hK.2 0 (E.2.1.1, .int) rfl).2
  have hc : cA = E.2.1.1 := Option.some.inj (hNm.symm.trans hg)
  refine kk H1 (by omega) (fun q hq => o1 q (by omega)) (gr_wd hH hA hW ?_ (by omega) (fun q hq => o1 q (by omega)))
  have e9 : tx_cell E.2.1 E.2.2.1 E.2.2.2.1 I J P (a + n) = .inl (E.2.1.1, N', .inl (fun _ => 0)) := by
    unfold tx_cell tx_E
    rw [hS, hN, hI]
    rfl
  rw [e9]
  show H1[a + n]? = some (vp_cell _ _)
  rw [e1, hc]
  rfl
theorem gr_newJ {N' : Nat} {v : Int32} (C : Cx (Es E a n) o cc nL p s m args meth c) (hH : H.size = a + n) (hS : E.2.2.1 (a + n) = 11) (hN : E.2.2.2.1 (a + n) = N') (hJ : J (a + n) = fun _ => 0) (harr : tbG (.arrayClass .long)) (hA : ∀ q, H0.size ≤ q → A q) (hv0 : ¬ v < 0) (hvN : v.toNatClampNeg = N') (hb : N' ≤ 1000) (hR : cells + 1 ≤ R.cells ∧ slots + N' ≤ R.slots) (hd : decode cc pc = .ok (.newarray .long, 2)) (hW : Wd (Es E a n) A H0 I J P H locs)
    (kk : ∀ H1, H1.size = a + (n + 1) → (∀ q : Nat, q < H.size → H1[q]? = H[q]?) → Wd (Es E a (n + 1)) A H0 I J P H1 locs → W p l e R s m args below meth c H1 locs (cells + 1) (slots + N') Q (F0 m (pc + 2) ls (.ref (a + n) :: st))) : W p l e R s m args below meth c H locs cells slots Q (F0 m pc ls (.int v :: st)) := by
  obtain ⟨hx, hbb, -, hown, hts, -, hK, hE⟩ := id C
  refine va_newaK (atype := .long) hx hbb (hts _ (tz_mem harr)) rfl hd rfl hv0 hvN (by show N' * 8 ≤ _; omega) hR.1 hR.2 hH (fun H1 cA e1 z1 o1 hAr hNm => ?_)
  have hg : s.vm.findClass ("[" ++ (FieldType.long).toString) = some E.2.1.2.1 := (hK.2 1 (E.2.1.2.1, .long) rfl).2
  have hc : cA = E.2.1.2.1 := Option.some.inj (hNm.symm.trans hg)
  refine kk H1 (by omega) (fun q hq => o1 q (by omega)) (gr_wd hH hA hW ?_ (by omega) (fun q hq => o1 q (by omega)))
  have e9 : tx_cell E.2.1 E.2.2.1 E.2.2.2.1 I J P (a + n) = .inl (E.2.1.2.1, N', .inr (.inl (fun _ => 0))) := by
    unfold tx_cell tx_E
    rw [hS, hN, hJ]
    rfl
  rw [e9]
  show H1[a + n]? = some (vp_cell _ _)
  rw [e1, hc]
  rfl
/-- new T[v] of objects (k: 2 by 12, 5 by 13) -/
theorem gr_newQ {N' sh k index : Nat} {v : Int32} (C : Cx (Es E a n) o cc nL p s m args meth c) (hk : (sh = 12 ∧ k = 2) ∨ (sh = 13 ∧ k = 5)) (hH : H.size = a + n) (hS : E.2.2.1 (a + n) = sh) (hN : E.2.2.2.1 (a + n) = N') (hP0 : P (a + n) = fun _ => none) (hlink : tbG (.classLink (tx_R o) index (tx_R k))) (harr : (Cond.arrayOver (.object (tx_R k))).before args s = true) (hA : ∀ q, H0.size ≤ q → A q) (hv0 : ¬ v < 0) (hvN : v.toNatClampNeg = N') (hb : N' ≤ 1000) (hR : cells + 1 ≤ R.cells ∧ slots + N' ≤ R.slots) (hd : decode cc pc = .ok (.anewarray index, 3)) (hW : Wd (Es E a n) A H0 I J P H locs)
    (kk : ∀ H1, H1.size = a + (n + 1) → (∀ q : Nat, q < H.size → H1[q]? = H[q]?) → Wd (Es E a (n + 1)) A H0 I J P H1 locs → W p l e R s m args below meth c H1 locs (cells + 1) (slots + N') Q (F0 m (pc + 3) ls (.ref (a + n) :: st))) : W p l e R s m args below meth c H locs cells slots Q (F0 m pc ls (.int v :: st)) := by
  obtain ⟨hx, hbb, -, hown, hts, -, hK, hE⟩ := id C
  subst hvN
  refine W.anew hx hbb hown (hts _ (tz_mem hlink)) harr rfl hd rfl hv0 (by omega) hR.1 hR.2 (fun cA kA comp f1 f2 f3 f4 => ?_)
  rw [hH]
  have hc : ∃ cA0, cA = cA0 ∧ tx_cell E.2.1 E.2.2.1 E.2.2.2.1 I J P (a + n) = .inl (cA0, v.toNatClampNeg, .inr (.inr (.inr (.inr (fun _ => none))))) := by
    rcases hk with ⟨rfl, rfl⟩ | ⟨rfl, rfl⟩
    · obtain ⟨kA', comp', -, -, -, g⟩ := (hK.2 2 (E.2.1.2.2.1, .object RX2) rfl).2
      refine ⟨_, Option.some.inj (f1.symm.trans g), ?_⟩
      unfold tx_cell tx_E
      rw [hS, hN, hP0]
      rfl
    · obtain ⟨kA', comp', -, -, -, g⟩ := (hK.2 3 (E.2.1.2.2.2.1, .object RX5) rfl).2
      refine ⟨_, Option.some.inj (f1.symm.trans g), ?_⟩
      unfold tx_cell tx_E
      rw [hS, hN, hP0]
      rfl
  obtain ⟨cA0, rfl, e9⟩ := hc
  refine kk _ (by rw [Array.size_push]; omega) (fun q hq => by rw [Array.getElem?_push, if_neg (Nat.ne_of_lt hq)]) (gr_wd hH hA hW ?_ (by rw [Array.size_push]) (fun q hq => by rw [Array.getElem?_push, if_neg (Nat.ne_of_lt hq)]))
  rw [e9]
  show (H.push _)[a + n]? = some (vp_cell _ _)
  rw [← hH, Array.getElem?_push_size, vp_cell_q, ← arrV_new]
  rfl
end GRW

/-! new long[6][5] -/
section GRM
variable {p : Program} {l : Launch} {e : Env} {R : Room} {s : State} {m : MethodId} {args : Array Value} {below : List Frame} {meth : Method} {c : Code} {Q : State → Prop}
variable {E : tx_En} {A : Nat → Prop} {H0 H : Heap} {locs : List Loc} {cells slots : Nat} {cc : ByteArray} {nL pc a n : Nat} {st : List Value} {ls : Array Slot} {I : IM} {J : JM} {P : PM}
def Pmu (P : PM) (b : Nat) : PM := fun z => if z = b then (fun j => if j < 6 then some (b + 1 + j) else none) else P z
theorem gr_multi (C : Cx (Es E a n) 0 cc nL p s m args meth c) (hAO : AO s) (h1 : 1 ≤ n) (hsz : s.heap.size + cells = a + n) (hS : E.2.2.1 (a + n) = 14) (hN : E.2.2.2.1 (a + n) = 6) (hSi : ∀ i, i < 6 → E.2.2.1 (a + n + 1 + i) = 11 ∧ E.2.2.2.1 (a + n + 1 + i) = 5 ∧ J (a + n + 1 + i) = fun _ => 0) (hA : ∀ q, a ≤ q → A q) (hlink : tbG (.classLink RX0 18 "[[J")) (harr : tbG (.arrayClass .long)) (hR : cells + 7 ≤ R.cells ∧ slots + 36 ≤ R.slots) (hd : decode cc pc = .ok (.multianewarray 18 2, 4)) (hW : Wd (Es E a n) A H0 I J P H locs)
    (kk : ∀ H1, Wd (Es E a (n + 7)) A H0 I J (Pmu P (a + n)) H1 locs → W p l e R s m args below meth c H1 locs (cells + 7) (slots + 36) Q (F0 m (pc + 4) ls (.ref (a + n) :: st))) : W p l e R s m args below meth c H locs cells slots Q (F0 m pc ls (.int 5 :: .int 6 :: st)) := by
  refine gr_size (fun hup => ?_)
  have hlow := gr_low h1 hW
  have hH : H.size = a + n := by omega
  obtain ⟨hx, hbb, -, hown, hts, -, hK, hE⟩ := id C
  intro T hT Xs
  have es : "[" ++ (FieldType.array .long).toString = "[[J" := by decide
  obtain ⟨vm₁, cA, comp, -, fA, fC, -, -, X', step⟩ := Xs.multianewarray2F (ty := .long) hx (own := RX0) (index := 18) hown (by rw [es]; exact hts _ (tz_mem hlink)) (ao_mv (Vm.Alike.refl s.vm) hAO.2.2) (hts _ (tz_mem harr)) (g := F0 m pc ls (.int 5 :: .int 6 :: st)) (n := 6) (k := 5) rfl (by rw [hbb]; exact hd) rfl (by decide) (by decide) (by decide) (by decide) (by decide) (by decide) (by decide) (by show cells + (1 + 6) ≤ _; omega) (by show slots + (6 + 6 * 5) ≤ _; omega)
  have gA : s.vm.findClass ("[" ++ (FieldType.array .long).toString) = some E.2.1.2.2.2.2 := (hK.2 4 (E.2.1.2.2.2.2, .array .long) rfl).2
  have gC : s.vm.findClass ("[" ++ (FieldType.long).toString) = some E.2.1.2.1 := (hK.2 1 (E.2.1.2.1, .long) rfl).2
  have ec : (FieldType.array .long).toString = "[" ++ (FieldType.long).toString := by decide
  rw [ec] at fC
  cases Option.some.inj (fA.symm.trans gA)
  cases Option.some.inj (fC.symm.trans gC)
  have e6 : (6 : Int32).toNatClampNeg = 6 := by decide
  have e5 : (5 : Int32).toNatClampNeg = 5 := by decide
  rw [e6, e5] at X' step
  generalize hF : Jvm.Free.Multi.fill (T.setVm vm₁) E.2.1.2.2.2.2 E.2.1.2.1 6 5 (defaultValue .long) 6 = F at X' step
  have hTh : (T.setVm vm₁).heap = H := hT
  obtain ⟨f1, f2, -, -⟩ := Jvm.Free.Multi.fill_facts (T.setVm vm₁) E.2.1.2.2.2.2 E.2.1.2.1 6 5 (defaultValue .long) 6
  rw [hF, hTh] at f1 f2
  have hold : ∀ x : Nat, x < H.size → F.heap[x]? = H[x]? := fun x hx => by
    have := Jvm.Free.Multi.fill_old (T.setVm vm₁) E.2.1.2.2.2.2 E.2.1.2.1 6 5 (defaultValue .long) (a := x) (by rw [hTh]; exact hx) 6
    rw [hF, hTh] at this
    exact this
  have hrow : ∀ j : Nat, j < 6 → F.heap[H.size + 1 + j]? = some (Jvm.Free.Multi.innerC E.2.1.2.1 5 (defaultValue .long)) := fun j hj => by
    have := Jvm.Free.Multi.fill_inner (T.setVm vm₁) E.2.1.2.2.2.2 E.2.1.2.1 6 5 (defaultValue .long) 6 j hj
    rw [hF, hTh] at this
    exact this
  rw [vr_outer] at f2
  have hTs : T.heap.size = a + n := by rw [hT]; exact hH
  rw [hTs] at step
  have hWn : Wd (Es E a (n + 7)) A H0 I J (Pmu P (a + n)) F.heap locs := by
    refine ⟨esP.mpr (fun z z1 z2 => ?_), es_D (fun z hz => hA z hz), Nat.le_trans hW.2.2.1 (by omega), fun q q1 q2 => by
      rw [hold q (Nat.lt_of_lt_of_le q1 hW.2.2.1)]
      exact hW.2.2.2.1 q q1 q2, hW.2.2.2.2⟩
    by_cases y1 : z < a + n
    · have h3 := esP.mp hW.1 z z1 y1
      have h4 := va_P.kept (H1 := F.heap) (ws := [(z, tx_cell E.2.1 E.2.2.1 E.2.2.2.1 I J P z)]) (D := E.1) (cl := vwCl) (H := H) (fun k9 q9 h9 => by
          have hk9 : k9 < 1 := (List.getElem?_eq_some_iff.mp h9).1
          rw [show k9 = 0 by omega] at h9
          cases h9
          exact h3) (fun k9 q9 h9 => by
          have hk9 : k9 < 1 := (List.getElem?_eq_some_iff.mp h9).1
          rw [show k9 = 0 by omega] at h9
          cases h9
          exact hold z (by omega)) 0 _ rfl
      unfold tx_cell at h4 ⊢
      unfold Pmu
      rw [if_neg (by omega)]
      exact h4
    · by_cases y2 : z = a + n
      · subst y2
        have e9 : tx_cell E.2.1 E.2.2.1 E.2.2.2.1 I J (Pmu P (a + n)) (a + n) = .inl (E.2.1.2.2.2.2, 6, .inr (.inr (.inr (.inr (fun j => if j < 6 then some (a + n + 1 + j) else none))))) := by
          unfold tx_cell tx_E Pmu
          rw [hS, hN, if_pos rfl]
          rfl
        rw [e9]
        show F.heap[a + n]? = some (vp_cell _ _)
        rw [vp_cell_q, ← hH]
        exact f2
      · obtain ⟨i, rfl⟩ : ∃ i, z = a + n + 1 + i := ⟨z - (a + n + 1), by omega⟩
        obtain ⟨s1, s2, s3⟩ := hSi i (by omega)
        have e9 : tx_cell E.2.1 E.2.2.1 E.2.2.2.1 I J (Pmu P (a + n)) (a + n + 1 + i) = .inl (E.2.1.2.1, 5, .inr (.inl (fun _ => 0))) := by
          unfold tx_cell tx_E
          rw [s1, s2, s3]
          rfl
        rw [e9]
        show F.heap[a + n + 1 + i]? = some (vp_cell _ _)
        rw [vp_cell_l, ← arrV_new, ← hH, hrow i (by omega)]
        rfl
  obtain ⟨t2, a1, b1⟩ := kk F.heap hWn F rfl X'
  exact ⟨t2, step t2 a1, b1⟩
end GRM

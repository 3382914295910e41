/-! constructors by lists: rules -/
theorem shl_sub {E : tx_En} {a q : Nat} {ss c : List (Nat × Nat)} (h : ShL E a ss) (hc : (ss.drop q).take c.length = c) : ShL E (a + q) c := by
  intro k s n hk
  have h1 : ss[q + k]? = some (s, n) := by
    rw [← hc, List.getElem?_take] at hk
    split at hk
    · rw [List.getElem?_drop] at hk
      exact hk
    · cases hk
  have h2 := h (q + k) s n h1
  rw [← Nat.add_assoc] at h2
  exact h2
section GR3
variable {p : Program} {l : Launch} {e : Env} {R : Room} {s : State} {m : MethodId} {args : Array Value} {below : List Frame} {meth : Method} {c : Code} {Q : State → Prop}
variable {E : tx_En} {A : Nat → Prop} {H0 H : Heap} {locs : List Loc} {cells slots : Nat} {cc : ByteArray} {nL o pc a n : Nat} {st : List Value} {ls : Array Slot} {I : IM} {J : JM} {P : PM}
theorem gr_newO2 {k index : Nat} (C : Cx (Es E a n) o cc nL p s m args meth c) (hk : k < 10) (h1 : 1 ≤ n) (hsz : s.heap.size + cells = a + n) (hS : E.2.2.1 (a + n) = k) (hI : I (a + n) = fun _ => 0) (hJ : J (a + n) = fun _ => 0) (hP0 : P (a + n) = fun _ => none) (hlink : tbG (.classLink (tx_R o) index (tx_R k))) (hinst : tbG (.instantiable (tx_R k) (tx_n k))) (hini : tbG (.initialized (tx_R k))) (hA : ∀ q, H0.size ≤ q → A q) (hR : cells + 1 ≤ R.cells ∧ slots + tx_n k ≤ R.slots) (hd : decode cc pc = .ok (.new index, 3)) (hW : Wd (Es E a n) A H0 I J P H locs)
    (kk : ∀ H1, Wd (Es E a (n + 1)) A H0 I J P H1 locs → W p l e R s m args below meth c H1 locs (cells + 1) (slots + tx_n k) Q (F0 m (pc + 3) ls (.ref (a + n) :: st))) : W p l e R s m args below meth c H locs cells slots Q (F0 m pc ls st) := by
  refine gr_size (fun hup => ?_)
  have hlow := gr_low h1 hW
  exact gr_newO C hk (by omega) hS hI hJ hP0 hlink hinst hini hA hR hd hW (fun H1 _ _ h => kk H1 h)
theorem gr_newQ2 {N' sh k index : Nat} {v : Int32} (C : Cx (Es E a n) o cc nL p s m args meth c) (hk : (sh = 12 ∧ k = 2) ∨ (sh = 13 ∧ k = 5)) (h1 : 1 ≤ n) (hsz : s.heap.size + cells = a + n) (hS : E.2.2.1 (a + n) = sh) (hN : E.2.2.2.1 (a + n) = N') (hP0 : P (a + n) = fun _ => none) (hlink : tbG (.classLink (tx_R o) index (tx_R k))) (harr : (Cond.arrayOver (.object (tx_R k))).before args s = true) (hA : ∀ q, H0.size ≤ q → A q) (hv0 : ¬ v < 0) (hvN : v.toNatClampNeg = N') (hb : N' ≤ 1000) (hR : cells + 1 ≤ R.cells ∧ slots + N' ≤ R.slots) (hd : decode cc pc = .ok (.anewarray index, 3)) (hW : Wd (Es E a n) A H0 I J P H locs)
    (kk : ∀ H1, Wd (Es E a (n + 1)) A H0 I J P H1 locs → W p l e R s m args below meth c H1 locs (cells + 1) (slots + N') Q (F0 m (pc + 3) ls (.ref (a + n) :: st))) : W p l e R s m args below meth c H locs cells slots Q (F0 m pc ls (.int v :: st)) := by
  refine gr_size (fun hup => ?_)
  have hlow := gr_low h1 hW
  exact gr_newQ C hk (by omega) hS hN hP0 hlink harr hA hv0 hvN hb hR hd hW (fun H1 _ _ h => kk H1 h)
end GR3
section CTL
variable {l : Launch} {E : tx_En} {a : Nat}
theorem dX7_init_0 : decode cX7_init 0 = .ok (.aload_n 0, 1) := by decide +kernel
theorem dX7_init_1 : decode cX7_init 1 = .ok (.invokespecial 3, 3) := by decide +kernel
theorem dX7_init_4 : decode cX7_init 4 = .ok (.aload_n 0, 1) := by decide +kernel
theorem dX7_init_5 : decode cX7_init 5 = .ok (.iconst 1, 1) := by decide +kernel
theorem dX7_init_6 : decode cX7_init 6 = .ok (.putfield 9, 3) := by decide +kernel
theorem dX7_init_9 : decode cX7_init 9 = .ok (.aload_n 0, 1) := by decide +kernel
theorem dX7_init_10 : decode cX7_init 10 = .ok (.bipush 6, 2) := by decide +kernel
theorem dX7_init_12 : decode cX7_init 12 = .ok (.newarray .int, 2) := by decide +kernel
theorem dX7_init_14 : decode cX7_init 14 = .ok (.putfield 15, 3) := by decide +kernel
theorem dX7_init_17 : decode cX7_init 17 = .ok (.aload_n 0, 1) := by decide +kernel
theorem dX7_init_18 : decode cX7_init 18 = .ok (.bipush 6, 2) := by decide +kernel
theorem dX7_init_20 : decode cX7_init 20 = .ok (.newarray .int, 2) := by decide +kernel
theorem dX7_init_22 : decode cX7_init 22 = .ok (.putfield 19, 3) := by decide +kernel
theorem dX7_init_25 : decode cX7_init 25 = .ok (.aload_n 0, 1) := by decide +kernel
theorem dX7_init_26 : decode cX7_init 26 = .ok (.iconst 5, 1) := by decide +kernel
theorem dX7_init_27 : decode cX7_init 27 = .ok (.newarray .int, 2) := by decide +kernel
theorem dX7_init_29 : decode cX7_init 29 = .ok (.putfield 22, 3) := by decide +kernel
theorem dX7_init_32 : decode cX7_init 32 = .ok (.aload_n 0, 1) := by decide +kernel
theorem dX7_init_33 : decode cX7_init 33 = .ok (.iconst 4, 1) := by decide +kernel
theorem dX7_init_34 : decode cX7_init 34 = .ok (.newarray .int, 2) := by decide +kernel
theorem dX7_init_36 : decode cX7_init 36 = .ok (.putfield 25, 3) := by decide +kernel
theorem dX7_init_39 : decode cX7_init 39 = .ok (.aload_n 0, 1) := by decide +kernel
theorem dX7_init_40 : decode cX7_init 40 = .ok (.iconst 4, 1) := by decide +kernel
theorem dX7_init_41 : decode cX7_init 41 = .ok (.newarray .int, 2) := by decide +kernel
theorem dX7_init_43 : decode cX7_init 43 = .ok (.putfield 28, 3) := by decide +kernel
theorem dX7_init_46 : decode cX7_init 46 = .ok (.aload_n 0, 1) := by decide +kernel
theorem dX7_init_47 : decode cX7_init 47 = .ok (.bipush 6, 2) := by decide +kernel
theorem dX7_init_49 : decode cX7_init 49 = .ok (.anewarray 31, 3) := by decide +kernel
theorem dX7_init_52 : decode cX7_init 52 = .ok (.putfield 33, 3) := by decide +kernel
theorem dX7_init_55 : decode cX7_init 55 = .ok (.iconst 0, 1) := by decide +kernel
theorem dX7_init_56 : decode cX7_init 56 = .ok (.istore_n 1, 1) := by decide +kernel
theorem dX7_init_57 : decode cX7_init 57 = .ok (.iload_n 1, 1) := by decide +kernel
theorem dX7_init_58 : decode cX7_init 58 = .ok (.bipush 6, 2) := by decide +kernel
theorem dX7_init_60 : decode cX7_init 60 = .ok (.if_icmp .ge 22, 3) := by decide +kernel
theorem dX7_init_63 : decode cX7_init 63 = .ok (.aload_n 0, 1) := by decide +kernel
theorem dX7_init_64 : decode cX7_init 64 = .ok (.getfield 33, 3) := by decide +kernel
theorem dX7_init_67 : decode cX7_init 67 = .ok (.iload_n 1, 1) := by decide +kernel
theorem dX7_init_68 : decode cX7_init 68 = .ok (.new 31, 3) := by decide +kernel
theorem dX7_init_71 : decode cX7_init 71 = .ok (.dup, 1) := by decide +kernel
theorem dX7_init_72 : decode cX7_init 72 = .ok (.invokespecial 37, 3) := by decide +kernel
theorem dX7_init_75 : decode cX7_init 75 = .ok (.aastore, 1) := by decide +kernel
theorem dX7_init_76 : decode cX7_init 76 = .ok (.iinc 1 1, 3) := by decide +kernel
theorem dX7_init_79 : decode cX7_init 79 = .ok (.goto (-22), 3) := by decide +kernel
theorem dX7_init_82 : decode cX7_init 82 = .ok (.return_, 1) := by decide +kernel
theorem CF7 : CF yX7_init cX7_init 2 7 := ⟨by decide +kernel, ⟨List.mem_append_right _ (List.mem_of_getElem? (i := 72) (by decide +kernel)), by decide +kernel⟩, ⟨List.mem_append_right _ (List.mem_of_getElem? (i := 3) (by decide +kernel)), by decide +kernel⟩, ⟨List.mem_append_right _ (List.mem_of_getElem? (i := 71) (by decide +kernel)), by decide +kernel⟩, rfl, ⟨by decide +kernel, by decide +kernel, by decide +kernel⟩, rfl, by decide, by decide⟩
theorem cl7 (hs : ShL E a lRu) : CtM l E yX7_init cX7_init 2 3 a 24 115 (fun I J P => I = IL a [[(0, 1)], [], [], [], [], [], [], [], [], [], [], [], [], [], [], [], [], [], [], [], [], [], [], [], []] ∧ J = J0 ∧ P = PL a [[(8, 6), (6, 5), (5, 4), (3, 3), (2, 2), (1, 1)], [], [], [], [], [], [(5, 22), (4, 19), (3, 16), (2, 13), (1, 10), (0, 7)], [(1, 9), (0, 8)], [], [], [(1, 12), (0, 11)], [], [], [(1, 15), (0, 14)], [], [], [(1, 18), (0, 17)], [], [], [(1, 21), (0, 20)], [], [], [(1, 24), (0, 23)], [], []]) := by
  refine CtM.of CF7 (fun p e s m args below meth c C hin hret hAO hz ls hL hW => ?_)
  have hA : ∀ q, s.heap.size ≤ q → a ≤ q := fun q h => by omega
  have hA2 : ∀ q, a ≤ q → a ≤ q := fun q h => h
  have hb : ∀ (α : Type) (k : Nat), ([[]] : DL α).getD k [] = [] := fun α k => by cases k <;> rfl
  rw [← IL_nil (a := a) (d := [[]]) (hb Int32), ← PL_nil (a := a) (d := [[]]) (hb Nat)] at hW
  refine sg_lod (C.es (n' := 1)) dX7_init_0 rfl hL rfl rfl ?_
  refine gr_obj (C.es (n' := 1)) hL ⟨List.mem_append_right _ (List.mem_of_getElem? (i := 73) (by decide +kernel)), by decide +kernel⟩ cObI cObC (Nat.le_of_ble_eq_true rfl) ⟨by show 1 ≤ 3; decide, by show 20 ≤ 60 * 3 + 20; decide⟩ dX7_init_1 ?_
  refine sg_lod (C.es (n' := 1)) dX7_init_4 rfl hL rfl rfl ?_
  refine sg_alu (C.es (n' := 1)) dX7_init_5 rfl rfl ?_
  refine sg_putf (E := Es E a 1) (a := a) C.es dX7_init_6 rfl (show eS E a 1 a = 7 from (eS_in (Nat.le_refl _) (by omega)).trans (hs 0 _ _ rfl).1) rfl rfl ⟨rfl, rfl, rfl⟩ hW (fun H locs hW => ?_)
  have hW : Wd (Es E a 1) (fun q => a ≤ q) s.heap (IL a [[(0, 1)]]) J0 (PL a [[]]) H locs := by
    have e := IL_put (a := a) (k := 0) (j := 0) (v := 1) (d := [[]]) (by decide); rw [Nat.add_zero] at e; exact e ▸ hW
  refine sg_lod (C.es (n' := 1)) dX7_init_9 rfl hL rfl rfl ?_
  refine sg_alu (C.es (n' := 1)) dX7_init_10 rfl rfl ?_
  refine gr_newI2 (n := 1) C.es (by decide) (by omega) (hs 1 _ _ rfl).1 (hs 1 _ _ rfl).2 (IL_end (by decide)) cArI hA (by decide) (by decide) (by decide) ⟨by show 1 ≤ 24; decide, by show 6 ≤ 115; decide⟩ dX7_init_12 hW (fun H hW => ?_)
  have hW : Wd (Es E a 2) (fun q => a ≤ q) s.heap (IL a [[(0, 1)], []]) J0 (PL a [[], []]) H locs := by
    rw [IL_new, PL_new] at hW; exact hW
  refine gr_putR (E := Es E a 2) (a' := a) (b := a + 1) C.es hin dX7_init_14 rfl (show eS E a 2 a = 7 from (eS_in (Nat.le_refl _) (by omega)).trans (hs 0 _ _ rfl).1) rfl rfl rfl rfl hW (fun H locs hW => ?_)
  have hW : Wd (Es E a 2) (fun q => a ≤ q) s.heap (IL a [[(0, 1)], []]) J0 (PL a [[(1, 1)], []]) H locs := by
    have e := PL_put (a := a) (k := 0) (j := 1) (v := 1) (d := [[], []]) (by decide); rw [Nat.add_zero] at e; rw [e] at hW; exact hW
  refine sg_lod (C.es (n' := 2)) dX7_init_17 rfl hL rfl rfl ?_
  refine sg_alu (C.es (n' := 2)) dX7_init_18 rfl rfl ?_
  refine gr_newI2 (n := 2) C.es (by decide) (by omega) (hs 2 _ _ rfl).1 (hs 2 _ _ rfl).2 (IL_end (by decide)) cArI hA (by decide) (by decide) (by decide) ⟨by show 2 ≤ 24; decide, by show 12 ≤ 115; decide⟩ dX7_init_20 hW (fun H hW => ?_)
  have hW : Wd (Es E a 3) (fun q => a ≤ q) s.heap (IL a [[(0, 1)], [], []]) J0 (PL a [[(1, 1)], [], []]) H locs := by
    rw [IL_new, PL_new] at hW; exact hW
  refine gr_putR (E := Es E a 3) (a' := a) (b := a + 2) C.es hin dX7_init_22 rfl (show eS E a 3 a = 7 from (eS_in (Nat.le_refl _) (by omega)).trans (hs 0 _ _ rfl).1) rfl rfl rfl rfl hW (fun H locs hW => ?_)
  have hW : Wd (Es E a 3) (fun q => a ≤ q) s.heap (IL a [[(0, 1)], [], []]) J0 (PL a [[(2, 2), (1, 1)], [], []]) H locs := by
    have e := PL_put (a := a) (k := 0) (j := 2) (v := 2) (d := [[(1, 1)], [], []]) (by decide); rw [Nat.add_zero] at e; rw [e] at hW; exact hW
  refine sg_lod (C.es (n' := 3)) dX7_init_25 rfl hL rfl rfl ?_
  refine sg_alu (C.es (n' := 3)) dX7_init_26 rfl rfl ?_
  refine gr_newI2 (n := 3) C.es (by decide) (by omega) (hs 3 _ _ rfl).1 (hs 3 _ _ rfl).2 (IL_end (by decide)) cArI hA (by decide) (by decide) (by decide) ⟨by show 3 ≤ 24; decide, by show 17 ≤ 115; decide⟩ dX7_init_27 hW (fun H hW => ?_)
  have hW : Wd (Es E a 4) (fun q => a ≤ q) s.heap (IL a [[(0, 1)], [], [], []]) J0 (PL a [[(2, 2), (1, 1)], [], [], []]) H locs := by
    rw [IL_new, PL_new] at hW; exact hW
  refine gr_putR (E := Es E a 4) (a' := a) (b := a + 3) C.es hin dX7_init_29 rfl (show eS E a 4 a = 7 from (eS_in (Nat.le_refl _) (by omega)).trans (hs 0 _ _ rfl).1) rfl rfl rfl rfl hW (fun H locs hW => ?_)
  have hW : Wd (Es E a 4) (fun q => a ≤ q) s.heap (IL a [[(0, 1)], [], [], []]) J0 (PL a [[(3, 3), (2, 2), (1, 1)], [], [], []]) H locs := by
    have e := PL_put (a := a) (k := 0) (j := 3) (v := 3) (d := [[(2, 2), (1, 1)], [], [], []]) (by decide); rw [Nat.add_zero] at e; rw [e] at hW; exact hW
  refine sg_lod (C.es (n' := 4)) dX7_init_32 rfl hL rfl rfl ?_
  refine sg_alu (C.es (n' := 4)) dX7_init_33 rfl rfl ?_
  refine gr_newI2 (n := 4) C.es (by decide) (by omega) (hs 4 _ _ rfl).1 (hs 4 _ _ rfl).2 (IL_end (by decide)) cArI hA (by decide) (by decide) (by decide) ⟨by show 4 ≤ 24; decide, by show 21 ≤ 115; decide⟩ dX7_init_34 hW (fun H hW => ?_)
  have hW : Wd (Es E a 5) (fun q => a ≤ q) s.heap (IL a [[(0, 1)], [], [], [], []]) J0 (PL a [[(3, 3), (2, 2), (1, 1)], [], [], [], []]) H locs := by
    rw [IL_new, PL_new] at hW; exact hW
  refine gr_putR (E := Es E a 5) (a' := a) (b := a + 4) C.es hin dX7_init_36 rfl (show eS E a 5 a = 7 from (eS_in (Nat.le_refl _) (by omega)).trans (hs 0 _ _ rfl).1) rfl rfl rfl rfl hW (fun H locs hW => ?_)
  have hW : Wd (Es E a 5) (fun q => a ≤ q) s.heap (IL a [[(0, 1)], [], [], [], []]) J0 (PL a [[(5, 4), (3, 3), (2, 2), (1, 1)], [], [], [], []]) H locs := by
    have e := PL_put (a := a) (k := 0) (j := 5) (v := 4) (d := [[(3, 3), (2, 2), (1, 1)], [], [], [], []]) (by decide); rw [Nat.add_zero] at e; rw [e] at hW; exact hW
  refine sg_lod (C.es (n' := 5)) dX7_init_39 rfl hL rfl rfl ?_
  refine sg_alu (C.es (n' := 5)) dX7_init_40 rfl rfl ?_
  refine gr_newI2 (n := 5) C.es (by decide) (by omega) (hs 5 _ _ rfl).1 (hs 5 _ _ rfl).2 (IL_end (by decide)) cArI hA (by decide) (by decide) (by decide) ⟨by show 5 ≤ 24; decide, by show 25 ≤ 115; decide⟩ dX7_init_41 hW (fun H hW => ?_)
  have hW : Wd (Es E a 6) (fun q => a ≤ q) s.heap (IL a [[(0, 1)], [], [], [], [], []]) J0 (PL a [[(5, 4), (3, 3), (2, 2), (1, 1)], [], [], [], [], []]) H locs := by
    rw [IL_new, PL_new] at hW; exact hW
  refine gr_putR (E := Es E a 6) (a' := a) (b := a + 5) C.es hin dX7_init_43 rfl (show eS E a 6 a = 7 from (eS_in (Nat.le_refl _) (by omega)).trans (hs 0 _ _ rfl).1) rfl rfl rfl rfl hW (fun H locs hW => ?_)
  have hW : Wd (Es E a 6) (fun q => a ≤ q) s.heap (IL a [[(0, 1)], [], [], [], [], []]) J0 (PL a [[(6, 5), (5, 4), (3, 3), (2, 2), (1, 1)], [], [], [], [], []]) H locs := by
    have e := PL_put (a := a) (k := 0) (j := 6) (v := 5) (d := [[(5, 4), (3, 3), (2, 2), (1, 1)], [], [], [], [], []]) (by decide); rw [Nat.add_zero] at e; rw [e] at hW; exact hW
  refine sg_lod (C.es (n' := 6)) dX7_init_46 rfl hL rfl rfl ?_
  refine sg_alu (C.es (n' := 6)) dX7_init_47 rfl rfl ?_
  refine gr_newQ2 (n := 6) (sh := 12) (k := 2) C.es (by decide) (by decide) (by omega) (hs 6 _ _ rfl).1 (hs 6 _ _ rfl).2 (PL_end (by decide)) ⟨List.mem_append_right _ (List.mem_of_getElem? (i := 74) (by decide +kernel)), by decide +kernel⟩ (ao_mv (Vm.Alike.refl s.vm) hAO.1) hA (by decide) (by decide) (by decide) ⟨by show 6 ≤ 24; decide, by show 31 ≤ 115; decide⟩ dX7_init_49 hW (fun H hW => ?_)
  have hW : Wd (Es E a 7) (fun q => a ≤ q) s.heap (IL a [[(0, 1)], [], [], [], [], [], []]) J0 (PL a [[(6, 5), (5, 4), (3, 3), (2, 2), (1, 1)], [], [], [], [], [], []]) H locs := by
    rw [IL_new, PL_new] at hW; exact hW
  refine gr_putR (E := Es E a 7) (a' := a) (b := a + 6) C.es hin dX7_init_52 rfl (show eS E a 7 a = 7 from (eS_in (Nat.le_refl _) (by omega)).trans (hs 0 _ _ rfl).1) rfl rfl rfl rfl hW (fun H locs hW => ?_)
  have hW : Wd (Es E a 7) (fun q => a ≤ q) s.heap (IL a [[(0, 1)], [], [], [], [], [], []]) J0 (PL a [[(8, 6), (6, 5), (5, 4), (3, 3), (2, 2), (1, 1)], [], [], [], [], [], []]) H locs := by
    have e := PL_put (a := a) (k := 0) (j := 8) (v := 6) (d := [[(6, 5), (5, 4), (3, 3), (2, 2), (1, 1)], [], [], [], [], [], []]) (by decide); rw [Nat.add_zero] at e; rw [e] at hW; exact hW
  refine sg_alu (C.es (n' := 7)) dX7_init_55 rfl rfl ?_
  refine sg_sto (C.es (n' := 7)) dX7_init_56 rfl hL rfl (Nat.le_of_ble_eq_true rfl) (fun ls hL => ?_)
  refine sg_lod (C.es (n' := 7)) dX7_init_57 rfl hL rfl rfl ?_
  refine sg_alu (C.es (n' := 7)) dX7_init_58 rfl rfl ?_
  refine sg_br (tgt := 82) (C.es (n' := 7)) dX7_init_60 rfl (by decide) (fun z => absurd z (by decide)) (fun _ => ?_)
  refine sg_lod (C.es (n' := 7)) dX7_init_63 rfl hL rfl rfl ?_
  refine sg_getf (E := Es E a 7) C.es dX7_init_64 rfl (show eS E a 7 a = 7 from (eS_in (Nat.le_refl _) (by omega)).trans (hs 0 _ _ rfl).1) rfl hW ?_
  rw [show tx_v (IL a [[(0, 1)], [], [], [], [], [], []] a) (J0 a) (PL a [[(8, 6), (6, 5), (5, 4), (3, 3), (2, 2), (1, 1)], [], [], [], [], [], []] a) 2 8 = .ref (a + 6) from by simp [tx_v, PL, va_rf, List.lookup]]
  refine sg_lod (C.es (n' := 7)) dX7_init_67 rfl hL rfl rfl ?_
  refine gr_newO2 (n := 7) (k := 2) C.es (by decide) (by decide) (by omega) (hs 7 _ _ rfl).1 (IL_end (by decide)) rfl (PL_end (by decide)) ⟨List.mem_append_right _ (List.mem_of_getElem? (i := 74) (by decide +kernel)), by decide +kernel⟩ ⟨List.mem_append_right _ (List.mem_of_getElem? (i := 76) (by decide +kernel)), by decide +kernel⟩ ⟨List.mem_append_right _ (List.mem_of_getElem? (i := 4) (by decide +kernel)), by decide +kernel⟩ hA ⟨by show 7 ≤ 24; decide, by show 33 ≤ 115; decide⟩ dX7_init_68 hW (fun H hW => ?_)
  have hW : Wd (Es E a 8) (fun q => a ≤ q) s.heap (IL a [[(0, 1)], [], [], [], [], [], [], []]) J0 (PL a [[(8, 6), (6, 5), (5, 4), (3, 3), (2, 2), (1, 1)], [], [], [], [], [], [], []]) H locs := by
    rw [IL_new, PL_new] at hW; exact hW
  refine sg_alu (C.es (n' := 8)) dX7_init_71 rfl rfl ?_
  refine gr_ctor (n := 7) (k := 2) (sl := 12) (d := 1) (C.es (n' := 8)) hAO hL CF2 (cl2 (shl_sub hs (q := 7) (by decide))) (by omega) (by rw [show IL a [[(0, 1)], [], [], [], [], [], [], []] = IL a [[(0, 1)], [], [], [], [], [], []] from (IL_new (d := [[(0, 1)], [], [], [], [], [], []])).symm]; exact IL_end (by decide)) rfl (by rw [show PL a [[(8, 6), (6, 5), (5, 4), (3, 3), (2, 2), (1, 1)], [], [], [], [], [], [], []] = PL a [[(8, 6), (6, 5), (5, 4), (3, 3), (2, 2), (1, 1)], [], [], [], [], [], []] from (PL_new (d := [[(8, 6), (6, 5), (5, 4), (3, 3), (2, 2), (1, 1)], [], [], [], [], [], []])).symm]; exact PL_end (by decide)) ⟨List.mem_append_right _ (List.mem_of_getElem? (i := 77) (by decide +kernel)), by decide +kernel⟩ hA2 (Nat.le_of_ble_eq_true rfl) ⟨by show _ ≤ 3; decide, by show _ ≤ 60 * 3 + 20; decide⟩ ⟨by show 9 ≤ 24; decide, by show 45 ≤ 115; decide⟩ dX7_init_72 hW (fun I1 J1 P1 H locs hF hW => ?_)
  obtain ⟨rfl, rfl, rfl⟩ := hF
  have hW : Wd (Es E a 10) (fun q => a ≤ q) s.heap (IL a [[(0, 1)], [], [], [], [], [], [], [], [], []]) J0 (PL a [[(8, 6), (6, 5), (5, 4), (3, 3), (2, 2), (1, 1)], [], [], [], [], [], [], [(1, 9), (0, 8)], [], []]) H locs := by
    rw [show IL a [[(0, 1)], [], [], [], [], [], [], []] = IL a [[(0, 1)], [], [], [], [], [], []] from (IL_new (d := [[(0, 1)], [], [], [], [], [], []])).symm, show PL a [[(8, 6), (6, 5), (5, 4), (3, 3), (2, 2), (1, 1)], [], [], [], [], [], [], []] = PL a [[(8, 6), (6, 5), (5, 4), (3, 3), (2, 2), (1, 1)], [], [], [], [], [], []] from (PL_new (d := [[(8, 6), (6, 5), (5, 4), (3, 3), (2, 2), (1, 1)], [], [], [], [], [], []])).symm, IL_mrg (by rfl), PL_mrg (by rfl), J0_mrg] at hW; exact hW
  refine sg_ast (E := Es E a 10) (i := .aastore) C.es dX7_init_75 rfl ⟨Or.inl ⟨(eS_in (by omega) (by omega)).trans (hs 6 _ _ rfl).1, (eS_in (by omega) (by omega)).trans (hs 7 _ _ rfl).1⟩, by show vp_in _ (E.2.2.2.1 (a + 6)); rw [(hs 6 _ _ rfl).2]; exact fun h => h.elim (by decide) (by decide)⟩ hW (fun H locs hW => ?_)
  have hW : Wd (Es E a 10) (fun q => a ≤ q) s.heap (IL a [[(0, 1)], [], [], [], [], [], [], [], [], []]) J0 (u2 (PL a [[(8, 6), (6, 5), (5, 4), (3, 3), (2, 2), (1, 1)], [], [], [], [], [], [], [(1, 9), (0, 8)], [], []]) (a + 6) 0 (some (a + 7))) H locs := hW
  have hW : Wd (Es E a 10) (fun q => a ≤ q) s.heap (IL a [[(0, 1)], [], [], [], [], [], [], [], [], []]) J0 (PL a [[(8, 6), (6, 5), (5, 4), (3, 3), (2, 2), (1, 1)], [], [], [], [], [], [(0, 7)], [(1, 9), (0, 8)], [], []]) H locs := by
    rw [PL_put (by decide)] at hW; exact hW
  refine sg_inc (C.es (n' := 10)) dX7_init_76 hL rfl (fun ls hL => ?_)
  refine sg_go (tgt := 57) (C.es (n' := 10)) dX7_init_79 (fun _ _ => rfl) rfl (by decide) ?_
  refine sg_lod (C.es (n' := 10)) dX7_init_57 rfl hL rfl rfl ?_
  refine sg_alu (C.es (n' := 10)) dX7_init_58 rfl rfl ?_
  refine sg_br (tgt := 82) (C.es (n' := 10)) dX7_init_60 rfl (by decide) (fun z => absurd z (by decide)) (fun _ => ?_)
  refine sg_lod (C.es (n' := 10)) dX7_init_63 rfl hL rfl rfl ?_
  refine sg_getf (E := Es E a 10) C.es dX7_init_64 rfl (show eS E a 10 a = 7 from (eS_in (Nat.le_refl _) (by omega)).trans (hs 0 _ _ rfl).1) rfl hW ?_
  rw [show tx_v (IL a [[(0, 1)], [], [], [], [], [], [], [], [], []] a) (J0 a) (PL a [[(8, 6), (6, 5), (5, 4), (3, 3), (2, 2), (1, 1)], [], [], [], [], [], [(0, 7)], [(1, 9), (0, 8)], [], []] a) 2 8 = .ref (a + 6) from by simp [tx_v, PL, va_rf, List.lookup]]
  refine sg_lod (C.es (n' := 10)) dX7_init_67 rfl hL rfl rfl ?_
  refine gr_newO2 (n := 10) (k := 2) C.es (by decide) (by decide) (by omega) (hs 10 _ _ rfl).1 (IL_end (by decide)) rfl (PL_end (by decide)) ⟨List.mem_append_right _ (List.mem_of_getElem? (i := 74) (by decide +kernel)), by decide +kernel⟩ ⟨List.mem_append_right _ (List.mem_of_getElem? (i := 76) (by decide +kernel)), by decide +kernel⟩ ⟨List.mem_append_right _ (List.mem_of_getElem? (i := 4) (by decide +kernel)), by decide +kernel⟩ hA ⟨by show 10 ≤ 24; decide, by show 47 ≤ 115; decide⟩ dX7_init_68 hW (fun H hW => ?_)
  have hW : Wd (Es E a 11) (fun q => a ≤ q) s.heap (IL a [[(0, 1)], [], [], [], [], [], [], [], [], [], []]) J0 (PL a [[(8, 6), (6, 5), (5, 4), (3, 3), (2, 2), (1, 1)], [], [], [], [], [], [(0, 7)], [(1, 9), (0, 8)], [], [], []]) H locs := by
    rw [IL_new, PL_new] at hW; exact hW
  refine sg_alu (C.es (n' := 11)) dX7_init_71 rfl rfl ?_
  refine gr_ctor (n := 10) (k := 2) (sl := 12) (d := 1) (C.es (n' := 11)) hAO hL CF2 (cl2 (shl_sub hs (q := 10) (by decide))) (by omega) (by rw [show IL a [[(0, 1)], [], [], [], [], [], [], [], [], [], []] = IL a [[(0, 1)], [], [], [], [], [], [], [], [], []] from (IL_new (d := [[(0, 1)], [], [], [], [], [], [], [], [], []])).symm]; exact IL_end (by decide)) rfl (by rw [show PL a [[(8, 6), (6, 5), (5, 4), (3, 3), (2, 2), (1, 1)], [], [], [], [], [], [(0, 7)], [(1, 9), (0, 8)], [], [], []] = PL a [[(8, 6), (6, 5), (5, 4), (3, 3), (2, 2), (1, 1)], [], [], [], [], [], [(0, 7)], [(1, 9), (0, 8)], [], []] from (PL_new (d := [[(8, 6), (6, 5), (5, 4), (3, 3), (2, 2), (1, 1)], [], [], [], [], [], [(0, 7)], [(1, 9), (0, 8)], [], []])).symm]; exact PL_end (by decide)) ⟨List.mem_append_right _ (List.mem_of_getElem? (i := 77) (by decide +kernel)), by decide +kernel⟩ hA2 (Nat.le_of_ble_eq_true rfl) ⟨by show _ ≤ 3; decide, by show _ ≤ 60 * 3 + 20; decide⟩ ⟨by show 12 ≤ 24; decide, by show 59 ≤ 115; decide⟩ dX7_init_72 hW (fun I1 J1 P1 H locs hF hW => ?_)
  obtain ⟨rfl, rfl, rfl⟩ := hF
  have hW : Wd (Es E a 13) (fun q => a ≤ q) s.heap (IL a [[(0, 1)], [], [], [], [], [], [], [], [], [], [], [], []]) J0 (PL a [[(8, 6), (6, 5), (5, 4), (3, 3), (2, 2), (1, 1)], [], [], [], [], [], [(0, 7)], [(1, 9), (0, 8)], [], [], [(1, 12), (0, 11)], [], []]) H locs := by
    rw [show IL a [[(0, 1)], [], [], [], [], [], [], [], [], [], []] = IL a [[(0, 1)], [], [], [], [], [], [], [], [], []] from (IL_new (d := [[(0, 1)], [], [], [], [], [], [], [], [], []])).symm, show PL a [[(8, 6), (6, 5), (5, 4), (3, 3), (2, 2), (1, 1)], [], [], [], [], [], [(0, 7)], [(1, 9), (0, 8)], [], [], []] = PL a [[(8, 6), (6, 5), (5, 4), (3, 3), (2, 2), (1, 1)], [], [], [], [], [], [(0, 7)], [(1, 9), (0, 8)], [], []] from (PL_new (d := [[(8, 6), (6, 5), (5, 4), (3, 3), (2, 2), (1, 1)], [], [], [], [], [], [(0, 7)], [(1, 9), (0, 8)], [], []])).symm, IL_mrg (by rfl), PL_mrg (by rfl), J0_mrg] at hW; exact hW
  refine sg_ast (E := Es E a 13) (i := .aastore) C.es dX7_init_75 rfl ⟨Or.inl ⟨(eS_in (by omega) (by omega)).trans (hs 6 _ _ rfl).1, (eS_in (by omega) (by omega)).trans (hs 10 _ _ rfl).1⟩, by show vp_in _ (E.2.2.2.1 (a + 6)); rw [(hs 6 _ _ rfl).2]; exact fun h => h.elim (by decide) (by decide)⟩ hW (fun H locs hW => ?_)
  have hW : Wd (Es E a 13) (fun q => a ≤ q) s.heap (IL a [[(0, 1)], [], [], [], [], [], [], [], [], [], [], [], []]) J0 (u2 (PL a [[(8, 6), (6, 5), (5, 4), (3, 3), (2, 2), (1, 1)], [], [], [], [], [], [(0, 7)], [(1, 9), (0, 8)], [], [], [(1, 12), (0, 11)], [], []]) (a + 6) 1 (some (a + 10))) H locs := hW
  have hW : Wd (Es E a 13) (fun q => a ≤ q) s.heap (IL a [[(0, 1)], [], [], [], [], [], [], [], [], [], [], [], []]) J0 (PL a [[(8, 6), (6, 5), (5, 4), (3, 3), (2, 2), (1, 1)], [], [], [], [], [], [(1, 10), (0, 7)], [(1, 9), (0, 8)], [], [], [(1, 12), (0, 11)], [], []]) H locs := by
    rw [PL_put (by decide)] at hW; exact hW
  refine sg_inc (C.es (n' := 13)) dX7_init_76 hL rfl (fun ls hL => ?_)
  refine sg_go (tgt := 57) (C.es (n' := 13)) dX7_init_79 (fun _ _ => rfl) rfl (by decide) ?_
  refine sg_lod (C.es (n' := 13)) dX7_init_57 rfl hL rfl rfl ?_
  refine sg_alu (C.es (n' := 13)) dX7_init_58 rfl rfl ?_
  refine sg_br (tgt := 82) (C.es (n' := 13)) dX7_init_60 rfl (by decide) (fun z => absurd z (by decide)) (fun _ => ?_)
  refine sg_lod (C.es (n' := 13)) dX7_init_63 rfl hL rfl rfl ?_
  refine sg_getf (E := Es E a 13) C.es dX7_init_64 rfl (show eS E a 13 a = 7 from (eS_in (Nat.le_refl _) (by omega)).trans (hs 0 _ _ rfl).1) rfl hW ?_
  rw [show tx_v (IL a [[(0, 1)], [], [], [], [], [], [], [], [], [], [], [], []] a) (J0 a) (PL a [[(8, 6), (6, 5), (5, 4), (3, 3), (2, 2), (1, 1)], [], [], [], [], [], [(1, 10), (0, 7)], [(1, 9), (0, 8)], [], [], [(1, 12), (0, 11)], [], []] a) 2 8 = .ref (a + 6) from by simp [tx_v, PL, va_rf, List.lookup]]
  refine sg_lod (C.es (n' := 13)) dX7_init_67 rfl hL rfl rfl ?_
  refine gr_newO2 (n := 13) (k := 2) C.es (by decide) (by decide) (by omega) (hs 13 _ _ rfl).1 (IL_end (by decide)) rfl (PL_end (by decide)) ⟨List.mem_append_right _ (List.mem_of_getElem? (i := 74) (by decide +kernel)), by decide +kernel⟩ ⟨List.mem_append_right _ (List.mem_of_getElem? (i := 76) (by decide +kernel)), by decide +kernel⟩ ⟨List.mem_append_right _ (List.mem_of_getElem? (i := 4) (by decide +kernel)), by decide +kernel⟩ hA ⟨by show 13 ≤ 24; decide, by show 61 ≤ 115; decide⟩ dX7_init_68 hW (fun H hW => ?_)
  have hW : Wd (Es E a 14) (fun q => a ≤ q) s.heap (IL a [[(0, 1)], [], [], [], [], [], [], [], [], [], [], [], [], []]) J0 (PL a [[(8, 6), (6, 5), (5, 4), (3, 3), (2, 2), (1, 1)], [], [], [], [], [], [(1, 10), (0, 7)], [(1, 9), (0, 8)], [], [], [(1, 12), (0, 11)], [], [], []]) H locs := by
    rw [IL_new, PL_new] at hW; exact hW
  refine sg_alu (C.es (n' := 14)) dX7_init_71 rfl rfl ?_
  refine gr_ctor (n := 13) (k := 2) (sl := 12) (d := 1) (C.es (n' := 14)) hAO hL CF2 (cl2 (shl_sub hs (q := 13) (by decide))) (by omega) (by rw [show IL a [[(0, 1)], [], [], [], [], [], [], [], [], [], [], [], [], []] = IL a [[(0, 1)], [], [], [], [], [], [], [], [], [], [], [], []] from (IL_new (d := [[(0, 1)], [], [], [], [], [], [], [], [], [], [], [], []])).symm]; exact IL_end (by decide)) rfl (by rw [show PL a [[(8, 6), (6, 5), (5, 4), (3, 3), (2, 2), (1, 1)], [], [], [], [], [], [(1, 10), (0, 7)], [(1, 9), (0, 8)], [], [], [(1, 12), (0, 11)], [], [], []] = PL a [[(8, 6), (6, 5), (5, 4), (3, 3), (2, 2), (1, 1)], [], [], [], [], [], [(1, 10), (0, 7)], [(1, 9), (0, 8)], [], [], [(1, 12), (0, 11)], [], []] from (PL_new (d := [[(8, 6), (6, 5), (5, 4), (3, 3), (2, 2), (1, 1)], [], [], [], [], [], [(1, 10), (0, 7)], [(1, 9), (0, 8)], [], [], [(1, 12), (0, 11)], [], []])).symm]; exact PL_end (by decide)) ⟨List.mem_append_right _ (List.mem_of_getElem? (i := 77) (by decide +kernel)), by decide +kernel⟩ hA2 (Nat.le_of_ble_eq_true rfl) ⟨by show _ ≤ 3; decide, by show _ ≤ 60 * 3 + 20; decide⟩ ⟨by show 15 ≤ 24; decide, by show 73 ≤ 115; decide⟩ dX7_init_72 hW (fun I1 J1 P1 H locs hF hW => ?_)
  obtain ⟨rfl, rfl, rfl⟩ := hF
  have hW : Wd (Es E a 16) (fun q => a ≤ q) s.heap (IL a [[(0, 1)], [], [], [], [], [], [], [], [], [], [], [], [], [], [], []]) J0 (PL a [[(8, 6), (6, 5), (5, 4), (3, 3), (2, 2), (1, 1)], [], [], [], [], [], [(1, 10), (0, 7)], [(1, 9), (0, 8)], [], [], [(1, 12), (0, 11)], [], [], [(1, 15), (0, 14)], [], []]) H locs := by
    rw [show IL a [[(0, 1)], [], [], [], [], [], [], [], [], [], [], [], [], []] = IL a [[(0, 1)], [], [], [], [], [], [], [], [], [], [], [], []] from (IL_new (d := [[(0, 1)], [], [], [], [], [], [], [], [], [], [], [], []])).symm, show PL a [[(8, 6), (6, 5), (5, 4), (3, 3), (2, 2), (1, 1)], [], [], [], [], [], [(1, 10), (0, 7)], [(1, 9), (0, 8)], [], [], [(1, 12), (0, 11)], [], [], []] = PL a [[(8, 6), (6, 5), (5, 4), (3, 3), (2, 2), (1, 1)], [], [], [], [], [], [(1, 10), (0, 7)], [(1, 9), (0, 8)], [], [], [(1, 12), (0, 11)], [], []] from (PL_new (d := [[(8, 6), (6, 5), (5, 4), (3, 3), (2, 2), (1, 1)], [], [], [], [], [], [(1, 10), (0, 7)], [(1, 9), (0, 8)], [], [], [(1, 12), (0, 11)], [], []])).symm, IL_mrg (by rfl), PL_mrg (by rfl), J0_mrg] at hW; exact hW
  refine sg_ast (E := Es E a 16) (i := .aastore) C.es dX7_init_75 rfl ⟨Or.inl ⟨(eS_in (by omega) (by omega)).trans (hs 6 _ _ rfl).1, (eS_in (by omega) (by omega)).trans (hs 13 _ _ rfl).1⟩, by show vp_in _ (E.2.2.2.1 (a + 6)); rw [(hs 6 _ _ rfl).2]; exact fun h => h.elim (by decide) (by decide)⟩ hW (fun H locs hW => ?_)
  have hW : Wd (Es E a 16) (fun q => a ≤ q) s.heap (IL a [[(0, 1)], [], [], [], [], [], [], [], [], [], [], [], [], [], [], []]) J0 (u2 (PL a [[(8, 6), (6, 5), (5, 4), (3, 3), (2, 2), (1, 1)], [], [], [], [], [], [(1, 10), (0, 7)], [(1, 9), (0, 8)], [], [], [(1, 12), (0, 11)], [], [], [(1, 15), (0, 14)], [], []]) (a + 6) 2 (some (a + 13))) H locs := hW
  have hW : Wd (Es E a 16) (fun q => a ≤ q) s.heap (IL a [[(0, 1)], [], [], [], [], [], [], [], [], [], [], [], [], [], [], []]) J0 (PL a [[(8, 6), (6, 5), (5, 4), (3, 3), (2, 2), (1, 1)], [], [], [], [], [], [(2, 13), (1, 10), (0, 7)], [(1, 9), (0, 8)], [], [], [(1, 12), (0, 11)], [], [], [(1, 15), (0, 14)], [], []]) H locs := by
    rw [PL_put (by decide)] at hW; exact hW
  refine sg_inc (C.es (n' := 16)) dX7_init_76 hL rfl (fun ls hL => ?_)
  refine sg_go (tgt := 57) (C.es (n' := 16)) dX7_init_79 (fun _ _ => rfl) rfl (by decide) ?_
  refine sg_lod (C.es (n' := 16)) dX7_init_57 rfl hL rfl rfl ?_
  refine sg_alu (C.es (n' := 16)) dX7_init_58 rfl rfl ?_
  refine sg_br (tgt := 82) (C.es (n' := 16)) dX7_init_60 rfl (by decide) (fun z => absurd z (by decide)) (fun _ => ?_)
  refine sg_lod (C.es (n' := 16)) dX7_init_63 rfl hL rfl rfl ?_
  refine sg_getf (E := Es E a 16) C.es dX7_init_64 rfl (show eS E a 16 a = 7 from (eS_in (Nat.le_refl _) (by omega)).trans (hs 0 _ _ rfl).1) rfl hW ?_
  rw [show tx_v (IL a [[(0, 1)], [], [], [], [], [], [], [], [], [], [], [], [], [], [], []] a) (J0 a) (PL a [[(8, 6), (6, 5), (5, 4), (3, 3), (2, 2), (1, 1)], [], [], [], [], [], [(2, 13), (1, 10), (0, 7)], [(1, 9), (0, 8)], [], [], [(1, 12), (0, 11)], [], [], [(1, 15), (0, 14)], [], []] a) 2 8 = .ref (a + 6) from by simp [tx_v, PL, va_rf, List.lookup]]
  refine sg_lod (C.es (n' := 16)) dX7_init_67 rfl hL rfl rfl ?_
  refine gr_newO2 (n := 16) (k := 2) C.es (by decide) (by decide) (by omega) (hs 16 _ _ rfl).1 (IL_end (by decide)) rfl (PL_end (by decide)) ⟨List.mem_append_right _ (List.mem_of_getElem? (i := 74) (by decide +kernel)), by decide +kernel⟩ ⟨List.mem_append_right _ (List.mem_of_getElem? (i := 76) (by decide +kernel)), by decide +kernel⟩ ⟨List.mem_append_right _ (List.mem_of_getElem? (i := 4) (by decide +kernel)), by decide +kernel⟩ hA ⟨by show 16 ≤ 24; decide, by show 75 ≤ 115; decide⟩ dX7_init_68 hW (fun H hW => ?_)
  have hW : Wd (Es E a 17) (fun q => a ≤ q) s.heap (IL a [[(0, 1)], [], [], [], [], [], [], [], [], [], [], [], [], [], [], [], []]) J0 (PL a [[(8, 6), (6, 5), (5, 4), (3, 3), (2, 2), (1, 1)], [], [], [], [], [], [(2, 13), (1, 10), (0, 7)], [(1, 9), (0, 8)], [], [], [(1, 12), (0, 11)], [], [], [(1, 15), (0, 14)], [], [], []]) H locs := by
    rw [IL_new, PL_new] at hW; exact hW
  refine sg_alu (C.es (n' := 17)) dX7_init_71 rfl rfl ?_
  refine gr_ctor (n := 16) (k := 2) (sl := 12) (d := 1) (C.es (n' := 17)) hAO hL CF2 (cl2 (shl_sub hs (q := 16) (by decide))) (by omega) (by rw [show IL a [[(0, 1)], [], [], [], [], [], [], [], [], [], [], [], [], [], [], [], []] = IL a [[(0, 1)], [], [], [], [], [], [], [], [], [], [], [], [], [], [], []] from (IL_new (d := [[(0, 1)], [], [], [], [], [], [], [], [], [], [], [], [], [], [], []])).symm]; exact IL_end (by decide)) rfl (by rw [show PL a [[(8, 6), (6, 5), (5, 4), (3, 3), (2, 2), (1, 1)], [], [], [], [], [], [(2, 13), (1, 10), (0, 7)], [(1, 9), (0, 8)], [], [], [(1, 12), (0, 11)], [], [], [(1, 15), (0, 14)], [], [], []] = PL a [[(8, 6), (6, 5), (5, 4), (3, 3), (2, 2), (1, 1)], [], [], [], [], [], [(2, 13), (1, 10), (0, 7)], [(1, 9), (0, 8)], [], [], [(1, 12), (0, 11)], [], [], [(1, 15), (0, 14)], [], []] from (PL_new (d := [[(8, 6), (6, 5), (5, 4), (3, 3), (2, 2), (1, 1)], [], [], [], [], [], [(2, 13), (1, 10), (0, 7)], [(1, 9), (0, 8)], [], [], [(1, 12), (0, 11)], [], [], [(1, 15), (0, 14)], [], []])).symm]; exact PL_end (by decide)) ⟨List.mem_append_right _ (List.mem_of_getElem? (i := 77) (by decide +kernel)), by decide +kernel⟩ hA2 (Nat.le_of_ble_eq_true rfl) ⟨by show _ ≤ 3; decide, by show _ ≤ 60 * 3 + 20; decide⟩ ⟨by show 18 ≤ 24; decide, by show 87 ≤ 115; decide⟩ dX7_init_72 hW (fun I1 J1 P1 H locs hF hW => ?_)
  obtain ⟨rfl, rfl, rfl⟩ := hF
  have hW : Wd (Es E a 19) (fun q => a ≤ q) s.heap (IL a [[(0, 1)], [], [], [], [], [], [], [], [], [], [], [], [], [], [], [], [], [], []]) J0 (PL a [[(8, 6), (6, 5), (5, 4), (3, 3), (2, 2), (1, 1)], [], [], [], [], [], [(2, 13), (1, 10), (0, 7)], [(1, 9), (0, 8)], [], [], [(1, 12), (0, 11)], [], [], [(1, 15), (0, 14)], [], [], [(1, 18), (0, 17)], [], []]) H locs := by
    rw [show IL a [[(0, 1)], [], [], [], [], [], [], [], [], [], [], [], [], [], [], [], []] = IL a [[(0, 1)], [], [], [], [], [], [], [], [], [], [], [], [], [], [], []] from (IL_new (d := [[(0, 1)], [], [], [], [], [], [], [], [], [], [], [], [], [], [], []])).symm, show PL a [[(8, 6), (6, 5), (5, 4), (3, 3), (2, 2), (1, 1)], [], [], [], [], [], [(2, 13), (1, 10), (0, 7)], [(1, 9), (0, 8)], [], [], [(1, 12), (0, 11)], [], [], [(1, 15), (0, 14)], [], [], []] = PL a [[(8, 6), (6, 5), (5, 4), (3, 3), (2, 2), (1, 1)], [], [], [], [], [], [(2, 13), (1, 10), (0, 7)], [(1, 9), (0, 8)], [], [], [(1, 12), (0, 11)], [], [], [(1, 15), (0, 14)], [], []] from (PL_new (d := [[(8, 6), (6, 5), (5, 4), (3, 3), (2, 2), (1, 1)], [], [], [], [], [], [(2, 13), (1, 10), (0, 7)], [(1, 9), (0, 8)], [], [], [(1, 12), (0, 11)], [], [], [(1, 15), (0, 14)], [], []])).symm, IL_mrg (by rfl), PL_mrg (by rfl), J0_mrg] at hW; exact hW
  refine sg_ast (E := Es E a 19) (i := .aastore) C.es dX7_init_75 rfl ⟨Or.inl ⟨(eS_in (by omega) (by omega)).trans (hs 6 _ _ rfl).1, (eS_in (by omega) (by omega)).trans (hs 16 _ _ rfl).1⟩, by show vp_in _ (E.2.2.2.1 (a + 6)); rw [(hs 6 _ _ rfl).2]; exact fun h => h.elim (by decide) (by decide)⟩ hW (fun H locs hW => ?_)
  have hW : Wd (Es E a 19) (fun q => a ≤ q) s.heap (IL a [[(0, 1)], [], [], [], [], [], [], [], [], [], [], [], [], [], [], [], [], [], []]) J0 (u2 (PL a [[(8, 6), (6, 5), (5, 4), (3, 3), (2, 2), (1, 1)], [], [], [], [], [], [(2, 13), (1, 10), (0, 7)], [(1, 9), (0, 8)], [], [], [(1, 12), (0, 11)], [], [], [(1, 15), (0, 14)], [], [], [(1, 18), (0, 17)], [], []]) (a + 6) 3 (some (a + 16))) H locs := hW
  have hW : Wd (Es E a 19) (fun q => a ≤ q) s.heap (IL a [[(0, 1)], [], [], [], [], [], [], [], [], [], [], [], [], [], [], [], [], [], []]) J0 (PL a [[(8, 6), (6, 5), (5, 4), (3, 3), (2, 2), (1, 1)], [], [], [], [], [], [(3, 16), (2, 13), (1, 10), (0, 7)], [(1, 9), (0, 8)], [], [], [(1, 12), (0, 11)], [], [], [(1, 15), (0, 14)], [], [], [(1, 18), (0, 17)], [], []]) H locs := by
    rw [PL_put (by decide)] at hW; exact hW
  refine sg_inc (C.es (n' := 19)) dX7_init_76 hL rfl (fun ls hL => ?_)
  refine sg_go (tgt := 57) (C.es (n' := 19)) dX7_init_79 (fun _ _ => rfl) rfl (by decide) ?_
  refine sg_lod (C.es (n' := 19)) dX7_init_57 rfl hL rfl rfl ?_
  refine sg_alu (C.es (n' := 19)) dX7_init_58 rfl rfl ?_
  refine sg_br (tgt := 82) (C.es (n' := 19)) dX7_init_60 rfl (by decide) (fun z => absurd z (by decide)) (fun _ => ?_)
  refine sg_lod (C.es (n' := 19)) dX7_init_63 rfl hL rfl rfl ?_
  refine sg_getf (E := Es E a 19) C.es dX7_init_64 rfl (show eS E a 19 a = 7 from (eS_in (Nat.le_refl _) (by omega)).trans (hs 0 _ _ rfl).1) rfl hW ?_
  rw [show tx_v (IL a [[(0, 1)], [], [], [], [], [], [], [], [], [], [], [], [], [], [], [], [], [], []] a) (J0 a) (PL a [[(8, 6), (6, 5), (5, 4), (3, 3), (2, 2), (1, 1)], [], [], [], [], [], [(3, 16), (2, 13), (1, 10), (0, 7)], [(1, 9), (0, 8)], [], [], [(1, 12), (0, 11)], [], [], [(1, 15), (0, 14)], [], [], [(1, 18), (0, 17)], [], []] a) 2 8 = .ref (a + 6) from by simp [tx_v, PL, va_rf, List.lookup]]
  refine sg_lod (C.es (n' := 19)) dX7_init_67 rfl hL rfl rfl ?_
  refine gr_newO2 (n := 19) (k := 2) C.es (by decide) (by decide) (by omega) (hs 19 _ _ rfl).1 (IL_end (by decide)) rfl (PL_end (by decide)) ⟨List.mem_append_right _ (List.mem_of_getElem? (i := 74) (by decide +kernel)), by decide +kernel⟩ ⟨List.mem_append_right _ (List.mem_of_getElem? (i := 76) (by decide +kernel)), by decide +kernel⟩ ⟨List.mem_append_right _ (List.mem_of_getElem? (i := 4) (by decide +kernel)), by decide +kernel⟩ hA ⟨by show 19 ≤ 24; decide, by show 89 ≤ 115; decide⟩ dX7_init_68 hW (fun H hW => ?_)
  have hW : Wd (Es E a 20) (fun q => a ≤ q) s.heap (IL a [[(0, 1)], [], [], [], [], [], [], [], [], [], [], [], [], [], [], [], [], [], [], []]) J0 (PL a [[(8, 6), (6, 5), (5, 4), (3, 3), (2, 2), (1, 1)], [], [], [], [], [], [(3, 16), (2, 13), (1, 10), (0, 7)], [(1, 9), (0, 8)], [], [], [(1, 12), (0, 11)], [], [], [(1, 15), (0, 14)], [], [], [(1, 18), (0, 17)], [], [], []]) H locs := by
    rw [IL_new, PL_new] at hW; exact hW
  refine sg_alu (C.es (n' := 20)) dX7_init_71 rfl rfl ?_
  refine gr_ctor (n := 19) (k := 2) (sl := 12) (d := 1) (C.es (n' := 20)) hAO hL CF2 (cl2 (shl_sub hs (q := 19) (by decide))) (by omega) (by rw [show IL a [[(0, 1)], [], [], [], [], [], [], [], [], [], [], [], [], [], [], [], [], [], [], []] = IL a [[(0, 1)], [], [], [], [], [], [], [], [], [], [], [], [], [], [], [], [], [], []] from (IL_new (d := [[(0, 1)], [], [], [], [], [], [], [], [], [], [], [], [], [], [], [], [], [], []])).symm]; exact IL_end (by decide)) rfl (by rw [show PL a [[(8, 6), (6, 5), (5, 4), (3, 3), (2, 2), (1, 1)], [], [], [], [], [], [(3, 16), (2, 13), (1, 10), (0, 7)], [(1, 9), (0, 8)], [], [], [(1, 12), (0, 11)], [], [], [(1, 15), (0, 14)], [], [], [(1, 18), (0, 17)], [], [], []] = PL a [[(8, 6), (6, 5), (5, 4), (3, 3), (2, 2), (1, 1)], [], [], [], [], [], [(3, 16), (2, 13), (1, 10), (0, 7)], [(1, 9), (0, 8)], [], [], [(1, 12), (0, 11)], [], [], [(1, 15), (0, 14)], [], [], [(1, 18), (0, 17)], [], []] from (PL_new (d := [[(8, 6), (6, 5), (5, 4), (3, 3), (2, 2), (1, 1)], [], [], [], [], [], [(3, 16), (2, 13), (1, 10), (0, 7)], [(1, 9), (0, 8)], [], [], [(1, 12), (0, 11)], [], [], [(1, 15), (0, 14)], [], [], [(1, 18), (0, 17)], [], []])).symm]; exact PL_end (by decide)) ⟨List.mem_append_right _ (List.mem_of_getElem? (i := 77) (by decide +kernel)), by decide +kernel⟩ hA2 (Nat.le_of_ble_eq_true rfl) ⟨by show _ ≤ 3; decide, by show _ ≤ 60 * 3 + 20; decide⟩ ⟨by show 21 ≤ 24; decide, by show 101 ≤ 115; decide⟩ dX7_init_72 hW (fun I1 J1 P1 H locs hF hW => ?_)
  obtain ⟨rfl, rfl, rfl⟩ := hF
  have hW : Wd (Es E a 22) (fun q => a ≤ q) s.heap (IL a [[(0, 1)], [], [], [], [], [], [], [], [], [], [], [], [], [], [], [], [], [], [], [], [], []]) J0 (PL a [[(8, 6), (6, 5), (5, 4), (3, 3), (2, 2), (1, 1)], [], [], [], [], [], [(3, 16), (2, 13), (1, 10), (0, 7)], [(1, 9), (0, 8)], [], [], [(1, 12), (0, 11)], [], [], [(1, 15), (0, 14)], [], [], [(1, 18), (0, 17)], [], [], [(1, 21), (0, 20)], [], []]) H locs := by
    rw [show IL a [[(0, 1)], [], [], [], [], [], [], [], [], [], [], [], [], [], [], [], [], [], [], []] = IL a [[(0, 1)], [], [], [], [], [], [], [], [], [], [], [], [], [], [], [], [], [], []] from (IL_new (d := [[(0, 1)], [], [], [], [], [], [], [], [], [], [], [], [], [], [], [], [], [], []])).symm, show PL a [[(8, 6), (6, 5), (5, 4), (3, 3), (2, 2), (1, 1)], [], [], [], [], [], [(3, 16), (2, 13), (1, 10), (0, 7)], [(1, 9), (0, 8)], [], [], [(1, 12), (0, 11)], [], [], [(1, 15), (0, 14)], [], [], [(1, 18), (0, 17)], [], [], []] = PL a [[(8, 6), (6, 5), (5, 4), (3, 3), (2, 2), (1, 1)], [], [], [], [], [], [(3, 16), (2, 13), (1, 10), (0, 7)], [(1, 9), (0, 8)], [], [], [(1, 12), (0, 11)], [], [], [(1, 15), (0, 14)], [], [], [(1, 18), (0, 17)], [], []] from (PL_new (d := [[(8, 6), (6, 5), (5, 4), (3, 3), (2, 2), (1, 1)], [], [], [], [], [], [(3, 16), (2, 13), (1, 10), (0, 7)], [(1, 9), (0, 8)], [], [], [(1, 12), (0, 11)], [], [], [(1, 15), (0, 14)], [], [], [(1, 18), (0, 17)], [], []])).symm, IL_mrg (by rfl), PL_mrg (by rfl), J0_mrg] at hW; exact hW
  refine sg_ast (E := Es E a 22) (i := .aastore) C.es dX7_init_75 rfl ⟨Or.inl ⟨(eS_in (by omega) (by omega)).trans (hs 6 _ _ rfl).1, (eS_in (by omega) (by omega)).trans (hs 19 _ _ rfl).1⟩, by show vp_in _ (E.2.2.2.1 (a + 6)); rw [(hs 6 _ _ rfl).2]; exact fun h => h.elim (by decide) (by decide)⟩ hW (fun H locs hW => ?_)
  have hW : Wd (Es E a 22) (fun q => a ≤ q) s.heap (IL a [[(0, 1)], [], [], [], [], [], [], [], [], [], [], [], [], [], [], [], [], [], [], [], [], []]) J0 (u2 (PL a [[(8, 6), (6, 5), (5, 4), (3, 3), (2, 2), (1, 1)], [], [], [], [], [], [(3, 16), (2, 13), (1, 10), (0, 7)], [(1, 9), (0, 8)], [], [], [(1, 12), (0, 11)], [], [], [(1, 15), (0, 14)], [], [], [(1, 18), (0, 17)], [], [], [(1, 21), (0, 20)], [], []]) (a + 6) 4 (some (a + 19))) H locs := hW
  have hW : Wd (Es E a 22) (fun q => a ≤ q) s.heap (IL a [[(0, 1)], [], [], [], [], [], [], [], [], [], [], [], [], [], [], [], [], [], [], [], [], []]) J0 (PL a [[(8, 6), (6, 5), (5, 4), (3, 3), (2, 2), (1, 1)], [], [], [], [], [], [(4, 19), (3, 16), (2, 13), (1, 10), (0, 7)], [(1, 9), (0, 8)], [], [], [(1, 12), (0, 11)], [], [], [(1, 15), (0, 14)], [], [], [(1, 18), (0, 17)], [], [], [(1, 21), (0, 20)], [], []]) H locs := by
    rw [PL_put (by decide)] at hW; exact hW
  refine sg_inc (C.es (n' := 22)) dX7_init_76 hL rfl (fun ls hL => ?_)
  refine sg_go (tgt := 57) (C.es (n' := 22)) dX7_init_79 (fun _ _ => rfl) rfl (by decide) ?_
  refine sg_lod (C.es (n' := 22)) dX7_init_57 rfl hL rfl rfl ?_
  refine sg_alu (C.es (n' := 22)) dX7_init_58 rfl rfl ?_
  refine sg_br (tgt := 82) (C.es (n' := 22)) dX7_init_60 rfl (by decide) (fun z => absurd z (by decide)) (fun _ => ?_)
  refine sg_lod (C.es (n' := 22)) dX7_init_63 rfl hL rfl rfl ?_
  refine sg_getf (E := Es E a 22) C.es dX7_init_64 rfl (show eS E a 22 a = 7 from (eS_in (Nat.le_refl _) (by omega)).trans (hs 0 _ _ rfl).1) rfl hW ?_
  rw [show tx_v (IL a [[(0, 1)], [], [], [], [], [], [], [], [], [], [], [], [], [], [], [], [], [], [], [], [], []] a) (J0 a) (PL a [[(8, 6), (6, 5), (5, 4), (3, 3), (2, 2), (1, 1)], [], [], [], [], [], [(4, 19), (3, 16), (2, 13), (1, 10), (0, 7)], [(1, 9), (0, 8)], [], [], [(1, 12), (0, 11)], [], [], [(1, 15), (0, 14)], [], [], [(1, 18), (0, 17)], [], [], [(1, 21), (0, 20)], [], []] a) 2 8 = .ref (a + 6) from by simp [tx_v, PL, va_rf, List.lookup]]
  refine sg_lod (C.es (n' := 22)) dX7_init_67 rfl hL rfl rfl ?_
  refine gr_newO2 (n := 22) (k := 2) C.es (by decide) (by decide) (by omega) (hs 22 _ _ rfl).1 (IL_end (by decide)) rfl (PL_end (by decide)) ⟨List.mem_append_right _ (List.mem_of_getElem? (i := 74) (by decide +kernel)), by decide +kernel⟩ ⟨List.mem_append_right _ (List.mem_of_getElem? (i := 76) (by decide +kernel)), by decide +kernel⟩ ⟨List.mem_append_right _ (List.mem_of_getElem? (i := 4) (by decide +kernel)), by decide +kernel⟩ hA ⟨by show 22 ≤ 24; decide, by show 103 ≤ 115; decide⟩ dX7_init_68 hW (fun H hW => ?_)
  have hW : Wd (Es E a 23) (fun q => a ≤ q) s.heap (IL a [[(0, 1)], [], [], [], [], [], [], [], [], [], [], [], [], [], [], [], [], [], [], [], [], [], []]) J0 (PL a [[(8, 6), (6, 5), (5, 4), (3, 3), (2, 2), (1, 1)], [], [], [], [], [], [(4, 19), (3, 16), (2, 13), (1, 10), (0, 7)], [(1, 9), (0, 8)], [], [], [(1, 12), (0, 11)], [], [], [(1, 15), (0, 14)], [], [], [(1, 18), (0, 17)], [], [], [(1, 21), (0, 20)], [], [], []]) H locs := by
    rw [IL_new, PL_new] at hW; exact hW
  refine sg_alu (C.es (n' := 23)) dX7_init_71 rfl rfl ?_
  refine gr_ctor (n := 22) (k := 2) (sl := 12) (d := 1) (C.es (n' := 23)) hAO hL CF2 (cl2 (shl_sub hs (q := 22) (by decide))) (by omega) (by rw [show IL a [[(0, 1)], [], [], [], [], [], [], [], [], [], [], [], [], [], [], [], [], [], [], [], [], [], []] = IL a [[(0, 1)], [], [], [], [], [], [], [], [], [], [], [], [], [], [], [], [], [], [], [], [], []] from (IL_new (d := [[(0, 1)], [], [], [], [], [], [], [], [], [], [], [], [], [], [], [], [], [], [], [], [], []])).symm]; exact IL_end (by decide)) rfl (by rw [show PL a [[(8, 6), (6, 5), (5, 4), (3, 3), (2, 2), (1, 1)], [], [], [], [], [], [(4, 19), (3, 16), (2, 13), (1, 10), (0, 7)], [(1, 9), (0, 8)], [], [], [(1, 12), (0, 11)], [], [], [(1, 15), (0, 14)], [], [], [(1, 18), (0, 17)], [], [], [(1, 21), (0, 20)], [], [], []] = PL a [[(8, 6), (6, 5), (5, 4), (3, 3), (2, 2), (1, 1)], [], [], [], [], [], [(4, 19), (3, 16), (2, 13), (1, 10), (0, 7)], [(1, 9), (0, 8)], [], [], [(1, 12), (0, 11)], [], [], [(1, 15), (0, 14)], [], [], [(1, 18), (0, 17)], [], [], [(1, 21), (0, 20)], [], []] from (PL_new (d := [[(8, 6), (6, 5), (5, 4), (3, 3), (2, 2), (1, 1)], [], [], [], [], [], [(4, 19), (3, 16), (2, 13), (1, 10), (0, 7)], [(1, 9), (0, 8)], [], [], [(1, 12), (0, 11)], [], [], [(1, 15), (0, 14)], [], [], [(1, 18), (0, 17)], [], [], [(1, 21), (0, 20)], [], []])).symm]; exact PL_end (by decide)) ⟨List.mem_append_right _ (List.mem_of_getElem? (i := 77) (by decide +kernel)), by decide +kernel⟩ hA2 (Nat.le_of_ble_eq_true rfl) ⟨by show _ ≤ 3; decide, by show _ ≤ 60 * 3 + 20; decide⟩ ⟨by show 24 ≤ 24; decide, by show 115 ≤ 115; decide⟩ dX7_init_72 hW (fun I1 J1 P1 H locs hF hW => ?_)
  obtain ⟨rfl, rfl, rfl⟩ := hF
  have hW : Wd (Es E a 25) (fun q => a ≤ q) s.heap (IL a [[(0, 1)], [], [], [], [], [], [], [], [], [], [], [], [], [], [], [], [], [], [], [], [], [], [], [], []]) J0 (PL a [[(8, 6), (6, 5), (5, 4), (3, 3), (2, 2), (1, 1)], [], [], [], [], [], [(4, 19), (3, 16), (2, 13), (1, 10), (0, 7)], [(1, 9), (0, 8)], [], [], [(1, 12), (0, 11)], [], [], [(1, 15), (0, 14)], [], [], [(1, 18), (0, 17)], [], [], [(1, 21), (0, 20)], [], [], [(1, 24), (0, 23)], [], []]) H locs := by
    rw [show IL a [[(0, 1)], [], [], [], [], [], [], [], [], [], [], [], [], [], [], [], [], [], [], [], [], [], []] = IL a [[(0, 1)], [], [], [], [], [], [], [], [], [], [], [], [], [], [], [], [], [], [], [], [], []] from (IL_new (d := [[(0, 1)], [], [], [], [], [], [], [], [], [], [], [], [], [], [], [], [], [], [], [], [], []])).symm, show PL a [[(8, 6), (6, 5), (5, 4), (3, 3), (2, 2), (1, 1)], [], [], [], [], [], [(4, 19), (3, 16), (2, 13), (1, 10), (0, 7)], [(1, 9), (0, 8)], [], [], [(1, 12), (0, 11)], [], [], [(1, 15), (0, 14)], [], [], [(1, 18), (0, 17)], [], [], [(1, 21), (0, 20)], [], [], []] = PL a [[(8, 6), (6, 5), (5, 4), (3, 3), (2, 2), (1, 1)], [], [], [], [], [], [(4, 19), (3, 16), (2, 13), (1, 10), (0, 7)], [(1, 9), (0, 8)], [], [], [(1, 12), (0, 11)], [], [], [(1, 15), (0, 14)], [], [], [(1, 18), (0, 17)], [], [], [(1, 21), (0, 20)], [], []] from (PL_new (d := [[(8, 6), (6, 5), (5, 4), (3, 3), (2, 2), (1, 1)], [], [], [], [], [], [(4, 19), (3, 16), (2, 13), (1, 10), (0, 7)], [(1, 9), (0, 8)], [], [], [(1, 12), (0, 11)], [], [], [(1, 15), (0, 14)], [], [], [(1, 18), (0, 17)], [], [], [(1, 21), (0, 20)], [], []])).symm, IL_mrg (by rfl), PL_mrg (by rfl), J0_mrg] at hW; exact hW
  refine sg_ast (E := Es E a 25) (i := .aastore) C.es dX7_init_75 rfl ⟨Or.inl ⟨(eS_in (by omega) (by omega)).trans (hs 6 _ _ rfl).1, (eS_in (by omega) (by omega)).trans (hs 22 _ _ rfl).1⟩, by show vp_in _ (E.2.2.2.1 (a + 6)); rw [(hs 6 _ _ rfl).2]; exact fun h => h.elim (by decide) (by decide)⟩ hW (fun H locs hW => ?_)
  have hW : Wd (Es E a 25) (fun q => a ≤ q) s.heap (IL a [[(0, 1)], [], [], [], [], [], [], [], [], [], [], [], [], [], [], [], [], [], [], [], [], [], [], [], []]) J0 (u2 (PL a [[(8, 6), (6, 5), (5, 4), (3, 3), (2, 2), (1, 1)], [], [], [], [], [], [(4, 19), (3, 16), (2, 13), (1, 10), (0, 7)], [(1, 9), (0, 8)], [], [], [(1, 12), (0, 11)], [], [], [(1, 15), (0, 14)], [], [], [(1, 18), (0, 17)], [], [], [(1, 21), (0, 20)], [], [], [(1, 24), (0, 23)], [], []]) (a + 6) 5 (some (a + 22))) H locs := hW
  have hW : Wd (Es E a 25) (fun q => a ≤ q) s.heap (IL a [[(0, 1)], [], [], [], [], [], [], [], [], [], [], [], [], [], [], [], [], [], [], [], [], [], [], [], []]) J0 (PL a [[(8, 6), (6, 5), (5, 4), (3, 3), (2, 2), (1, 1)], [], [], [], [], [], [(5, 22), (4, 19), (3, 16), (2, 13), (1, 10), (0, 7)], [(1, 9), (0, 8)], [], [], [(1, 12), (0, 11)], [], [], [(1, 15), (0, 14)], [], [], [(1, 18), (0, 17)], [], [], [(1, 21), (0, 20)], [], [], [(1, 24), (0, 23)], [], []]) H locs := by
    rw [PL_put (by decide)] at hW; exact hW
  refine sg_inc (C.es (n' := 25)) dX7_init_76 hL rfl (fun ls hL => ?_)
  refine sg_go (tgt := 57) (C.es (n' := 25)) dX7_init_79 (fun _ _ => rfl) rfl (by decide) ?_
  refine sg_lod (C.es (n' := 25)) dX7_init_57 rfl hL rfl rfl ?_
  refine sg_alu (C.es (n' := 25)) dX7_init_58 rfl rfl ?_
  refine sg_br (tgt := 82) (C.es (n' := 25)) dX7_init_60 rfl (by decide) (fun _ => ?_) (fun z => absurd (by decide) z)
  exact gr_ret (k := 24) C.es hret ⟨rfl, rfl, rfl⟩ hW dX7_init_82
end CTL

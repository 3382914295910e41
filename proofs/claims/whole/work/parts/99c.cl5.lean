/-! constructors by lists: assessments, ledgers -/
section CTL
variable {l : Launch} {E : tx_En} {a : Nat}
theorem cl0 (hs : ShL E a lAs) : CtM l E yX0_init cX0_init 1 1 a 9 48 (fun I J P => I = IL a [[], [], [], [], [], [], [], [], [], []] ∧ J = J0 ∧ P = PL a [[(6, 3), (5, 2), (4, 1)], [], [], [(0, 4), (1, 5), (2, 6), (3, 7), (4, 8), (5, 9)], [], [], [], [], [], []]) := by
  refine CtM.of CF0 (fun p e s m args below meth c C hin hret hAO hz ls hL hW => ?_)
  have hA : ∀ q, s.heap.size ≤ q → a ≤ q := fun q h => by omega
  have hA2 : ∀ q, a ≤ q → a ≤ q := fun q h => h
  have hb : ∀ (α : Type) (k : Nat), ([[]] : DL α).getD k [] = [] := fun α k => by cases k <;> rfl
  rw [← IL_nil (a := a) (d := [[]]) (hb Int32), ← PL_nil (a := a) (d := [[]]) (hb Nat)] at hW
  refine sg_lod (C.es (n' := 1)) dX0_init_0 rfl hL rfl rfl ?_
  refine gr_obj (C.es (n' := 1)) hL ⟨List.mem_append_right _ (List.mem_of_getElem? (i := 207) (by decide +kernel)), by decide +kernel⟩ cObI cObC (Nat.le_of_ble_eq_true rfl) ⟨by show 1 ≤ 1; decide, by show 20 ≤ 60 * 1 + 20; decide⟩ dX0_init_1 ?_
  refine sg_lod (C.es (n' := 1)) dX0_init_4 rfl hL rfl rfl ?_
  refine sg_alu (C.es (n' := 1)) dX0_init_5 rfl rfl ?_
  refine gr_newJ2 (n := 1) C.es (by decide) (by omega) (hs 1 _ _ rfl).1 (hs 1 _ _ rfl).2 rfl cArJ hA (by decide) (by decide) (by decide) ⟨by show 1 ≤ 9; decide, by show 6 ≤ 48; decide⟩ dX0_init_7 hW (fun H hW => ?_)
  have hW : Wd (Es E a 2) (fun q => a ≤ q) s.heap (IL a [[], []]) J0 (PL a [[], []]) H [] := by
    rw [IL_new, PL_new] at hW; exact hW
  refine gr_putR (E := Es E a 2) (a' := a) (b := a + 1) C.es hin dX0_init_9 rfl (show eS E a 2 a = 0 from (eS_in (Nat.le_refl _) (by omega)).trans (hs 0 _ _ rfl).1) rfl rfl rfl rfl hW (fun H locs hW => ?_)
  have hW : Wd (Es E a 2) (fun q => a ≤ q) s.heap (IL a [[], []]) J0 (PL a [[(4, 1)], []]) H locs := by
    have e := PL_put (a := a) (k := 0) (j := 4) (v := 1) (d := [[], []]) (by decide); rw [Nat.add_zero] at e; rw [e] at hW; exact hW
  refine sg_lod (C.es (n' := 2)) dX0_init_12 rfl hL rfl rfl ?_
  refine sg_alu (C.es (n' := 2)) dX0_init_13 rfl rfl ?_
  refine gr_newJ2 (n := 2) C.es (by decide) (by omega) (hs 2 _ _ rfl).1 (hs 2 _ _ rfl).2 rfl cArJ hA (by decide) (by decide) (by decide) ⟨by show 2 ≤ 9; decide, by show 12 ≤ 48; decide⟩ dX0_init_15 hW (fun H hW => ?_)
  have hW : Wd (Es E a 3) (fun q => a ≤ q) s.heap (IL a [[], [], []]) J0 (PL a [[(4, 1)], [], []]) H locs := by
    rw [IL_new, PL_new] at hW; exact hW
  refine gr_putR (E := Es E a 3) (a' := a) (b := a + 2) C.es hin dX0_init_17 rfl (show eS E a 3 a = 0 from (eS_in (Nat.le_refl _) (by omega)).trans (hs 0 _ _ rfl).1) rfl rfl rfl rfl hW (fun H locs hW => ?_)
  have hW : Wd (Es E a 3) (fun q => a ≤ q) s.heap (IL a [[], [], []]) J0 (PL a [[(5, 2), (4, 1)], [], []]) H locs := by
    have e := PL_put (a := a) (k := 0) (j := 5) (v := 2) (d := [[(4, 1)], [], []]) (by decide); rw [Nat.add_zero] at e; rw [e] at hW; exact hW
  refine sg_lod (C.es (n' := 3)) dX0_init_20 rfl hL rfl rfl ?_
  refine sg_alu (C.es (n' := 3)) dX0_init_21 rfl rfl ?_
  refine sg_alu (C.es (n' := 3)) dX0_init_23 rfl rfl ?_
  refine gr_multi (n := 3) C.es hAO (by decide) (by omega) (hs 3 _ _ rfl).1 (hs 3 _ _ rfl).2 (fun i hi => six (P := fun i => E.2.2.1 (a + 3 + 1 + i) = 11 ∧ E.2.2.2.1 (a + 3 + 1 + i) = 5 ∧ J0 (a + 3 + 1 + i) = fun _ => 0) ⟨(hs 4 _ _ rfl).1, (hs 4 _ _ rfl).2, rfl⟩ ⟨(hs 5 _ _ rfl).1, (hs 5 _ _ rfl).2, rfl⟩ ⟨(hs 6 _ _ rfl).1, (hs 6 _ _ rfl).2, rfl⟩ ⟨(hs 7 _ _ rfl).1, (hs 7 _ _ rfl).2, rfl⟩ ⟨(hs 8 _ _ rfl).1, (hs 8 _ _ rfl).2, rfl⟩ ⟨(hs 9 _ _ rfl).1, (hs 9 _ _ rfl).2, rfl⟩ i hi) hA2 ⟨List.mem_append_right _ (List.mem_of_getElem? (i := 208) (by decide +kernel)), by decide +kernel⟩ cArJ ⟨by show 9 ≤ 9; decide, by show 48 ≤ 48; decide⟩ dX0_init_24 hW (fun H hW => ?_)
  have hW : Wd (Es E a 10) (fun q => a ≤ q) s.heap (IL a [[], [], [], [], [], [], [], [], [], []]) J0 (PL a [[(5, 2), (4, 1)], [], [], [(0, 4), (1, 5), (2, 6), (3, 7), (4, 8), (5, 9)], [], [], [], [], [], []]) H locs := by
    rw [PL_mu (by rfl), IL_new, IL_new, IL_new, IL_new, IL_new, IL_new, IL_new] at hW; exact hW
  refine gr_putR (E := Es E a 10) (a' := a) (b := a + 3) C.es hin dX0_init_28 rfl (show eS E a 10 a = 0 from (eS_in (Nat.le_refl _) (by omega)).trans (hs 0 _ _ rfl).1) rfl rfl rfl rfl hW (fun H locs hW => ?_)
  have hW : Wd (Es E a 10) (fun q => a ≤ q) s.heap (IL a [[], [], [], [], [], [], [], [], [], []]) J0 (PL a [[(6, 3), (5, 2), (4, 1)], [], [], [(0, 4), (1, 5), (2, 6), (3, 7), (4, 8), (5, 9)], [], [], [], [], [], []]) H locs := by
    have e := PL_put (a := a) (k := 0) (j := 6) (v := 3) (d := [[(5, 2), (4, 1)], [], [], [(0, 4), (1, 5), (2, 6), (3, 7), (4, 8), (5, 9)], [], [], [], [], [], []]) (by decide); rw [Nat.add_zero] at e; rw [e] at hW; exact hW
  exact gr_ret (k := 9) C.es hret ⟨rfl, rfl, rfl⟩ hW dX0_init_31
theorem dX5_init_0 : decode cX5_init 0 = .ok (.aload_n 0, 1) := by decide +kernel
theorem dX5_init_1 : decode cX5_init 1 = .ok (.invokespecial 3, 3) := by decide +kernel
theorem dX5_init_4 : decode cX5_init 4 = .ok (.aload_n 0, 1) := by decide +kernel
theorem dX5_init_5 : decode cX5_init 5 = .ok (.new 9, 3) := by decide +kernel
theorem dX5_init_8 : decode cX5_init 8 = .ok (.dup, 1) := by decide +kernel
theorem dX5_init_9 : decode cX5_init 9 = .ok (.invokespecial 11, 3) := by decide +kernel
theorem dX5_init_12 : decode cX5_init 12 = .ok (.putfield 12, 3) := by decide +kernel
theorem dX5_init_15 : decode cX5_init 15 = .ok (.aload_n 0, 1) := by decide +kernel
theorem dX5_init_16 : decode cX5_init 16 = .ok (.bipush 6, 2) := by decide +kernel
theorem dX5_init_18 : decode cX5_init 18 = .ok (.newarray .int, 2) := by decide +kernel
theorem dX5_init_20 : decode cX5_init 20 = .ok (.putfield 18, 3) := by decide +kernel
theorem dX5_init_23 : decode cX5_init 23 = .ok (.aload_n 0, 1) := by decide +kernel
theorem dX5_init_24 : decode cX5_init 24 = .ok (.bipush 6, 2) := by decide +kernel
theorem dX5_init_26 : decode cX5_init 26 = .ok (.newarray .int, 2) := by decide +kernel
theorem dX5_init_28 : decode cX5_init 28 = .ok (.putfield 22, 3) := by decide +kernel
theorem dX5_init_31 : decode cX5_init 31 = .ok (.aload_n 0, 1) := by decide +kernel
theorem dX5_init_32 : decode cX5_init 32 = .ok (.bipush 6, 2) := by decide +kernel
theorem dX5_init_34 : decode cX5_init 34 = .ok (.newarray .int, 2) := by decide +kernel
theorem dX5_init_36 : decode cX5_init 36 = .ok (.putfield 25, 3) := by decide +kernel
theorem dX5_init_39 : decode cX5_init 39 = .ok (.aload_n 0, 1) := by decide +kernel
theorem dX5_init_40 : decode cX5_init 40 = .ok (.bipush 6, 2) := by decide +kernel
theorem dX5_init_42 : decode cX5_init 42 = .ok (.newarray .int, 2) := by decide +kernel
theorem dX5_init_44 : decode cX5_init 44 = .ok (.putfield 28, 3) := by decide +kernel
theorem dX5_init_47 : decode cX5_init 47 = .ok (.iconst 0, 1) := by decide +kernel
theorem dX5_init_48 : decode cX5_init 48 = .ok (.istore_n 1, 1) := by decide +kernel
theorem dX5_init_49 : decode cX5_init 49 = .ok (.iload_n 1, 1) := by decide +kernel
theorem dX5_init_50 : decode cX5_init 50 = .ok (.bipush 6, 2) := by decide +kernel
theorem dX5_init_52 : decode cX5_init 52 = .ok (.if_icmp .ge 16, 3) := by decide +kernel
theorem dX5_init_55 : decode cX5_init 55 = .ok (.aload_n 0, 1) := by decide +kernel
theorem dX5_init_56 : decode cX5_init 56 = .ok (.getfield 28, 3) := by decide +kernel
theorem dX5_init_59 : decode cX5_init 59 = .ok (.iload_n 1, 1) := by decide +kernel
theorem dX5_init_60 : decode cX5_init 60 = .ok (.iconst (-1), 1) := by decide +kernel
theorem dX5_init_61 : decode cX5_init 61 = .ok (.iastore, 1) := by decide +kernel
theorem dX5_init_62 : decode cX5_init 62 = .ok (.iinc 1 1, 3) := by decide +kernel
theorem dX5_init_65 : decode cX5_init 65 = .ok (.goto (-16), 3) := by decide +kernel
theorem dX5_init_68 : decode cX5_init 68 = .ok (.return_, 1) := by decide +kernel
theorem CF5 : CF yX5_init cX5_init 2 5 := ⟨by decide +kernel, ⟨List.mem_append_right _ (List.mem_of_getElem? (i := 146) (by decide +kernel)), by decide +kernel⟩, ⟨List.mem_append_right _ (List.mem_of_getElem? (i := 5) (by decide +kernel)), by decide +kernel⟩, ⟨List.mem_append_right _ (List.mem_of_getElem? (i := 145) (by decide +kernel)), by decide +kernel⟩, rfl, ⟨by decide +kernel, by decide +kernel, by decide +kernel⟩, rfl, by decide, by decide⟩
theorem cl5 (hs : ShL E a lLe) : CtM l E yX5_init cX5_init 2 5 a 29 148 (fun I J P => I = IL a [[], [(0, 1)], [], [], [], [], [], [], [], [], [], [], [], [], [], [], [], [], [], [], [], [], [], [], [], [], [], [], [], [(5, (-1)), (4, (-1)), (3, (-1)), (2, (-1)), (1, (-1)), (0, (-1))]] ∧ J = J0 ∧ P = PL a [[(4, 29), (3, 28), (2, 27), (1, 26), (0, 1)], [(8, 7), (6, 6), (5, 5), (3, 4), (2, 3), (1, 2)], [], [], [], [], [], [(5, 23), (4, 20), (3, 17), (2, 14), (1, 11), (0, 8)], [(1, 10), (0, 9)], [], [], [(1, 13), (0, 12)], [], [], [(1, 16), (0, 15)], [], [], [(1, 19), (0, 18)], [], [], [(1, 22), (0, 21)], [], [], [(1, 25), (0, 24)], [], [], [], [], [], []]) := by
  refine CtM.of CF5 (fun p e s m args below meth c C hin hret hAO hz ls hL hW => ?_)
  have hA : ∀ q, s.heap.size ≤ q → a ≤ q := fun q h => by omega
  have hA2 : ∀ q, a ≤ q → a ≤ q := fun q h => h
  have hb : ∀ (α : Type) (k : Nat), ([[]] : DL α).getD k [] = [] := fun α k => by cases k <;> rfl
  rw [← IL_nil (a := a) (d := [[]]) (hb Int32), ← PL_nil (a := a) (d := [[]]) (hb Nat)] at hW
  refine sg_lod (C.es (n' := 1)) dX5_init_0 rfl hL rfl rfl ?_
  refine gr_obj (C.es (n' := 1)) hL ⟨List.mem_append_right _ (List.mem_of_getElem? (i := 147) (by decide +kernel)), by decide +kernel⟩ cObI cObC (Nat.le_of_ble_eq_true rfl) ⟨by show 1 ≤ 5; decide, by show 20 ≤ 60 * 5 + 20; decide⟩ dX5_init_1 ?_
  refine sg_lod (C.es (n' := 1)) dX5_init_4 rfl hL rfl rfl ?_
  refine gr_newO2 (n := 1) (k := 7) C.es (by decide) (by decide) (by omega) (hs 1 _ _ rfl).1 (IL_end (by decide)) rfl (PL_end (by decide)) ⟨List.mem_append_right _ (List.mem_of_getElem? (i := 148) (by decide +kernel)), by decide +kernel⟩ ⟨List.mem_append_right _ (List.mem_of_getElem? (i := 69) (by decide +kernel)), by decide +kernel⟩ ⟨List.mem_append_right _ (List.mem_of_getElem? (i := 3) (by decide +kernel)), by decide +kernel⟩ hA ⟨by show 1 ≤ 29; decide, by show 9 ≤ 148; decide⟩ dX5_init_5 hW (fun H hW => ?_)
  have hW : Wd (Es E a 2) (fun q => a ≤ q) s.heap (IL a [[], []]) J0 (PL a [[], []]) H [] := by
    rw [IL_new, PL_new] at hW; exact hW
  refine sg_alu (C.es (n' := 2)) dX5_init_8 rfl rfl ?_
  refine gr_ctor (n := 1) (k := 24) (sl := 115) (d := 3) (C.es (n' := 2)) hAO hL CF7 (cl7 (shl_sub hs (q := 1) (by decide))) (by omega) (by rw [show IL a [[], []] = IL a [[]] from (IL_new (d := [[]])).symm]; exact IL_end (by decide)) rfl (by rw [show PL a [[], []] = PL a [[]] from (PL_new (d := [[]])).symm]; exact PL_end (by decide)) ⟨List.mem_append_right _ (List.mem_of_getElem? (i := 149) (by decide +kernel)), by decide +kernel⟩ hA2 (Nat.le_of_ble_eq_true rfl) ⟨by show _ ≤ 5; decide, by show _ ≤ 60 * 5 + 20; decide⟩ ⟨by show 25 ≤ 29; decide, by show 124 ≤ 148; decide⟩ dX5_init_9 hW (fun I1 J1 P1 H locs hF hW => ?_)
  obtain ⟨rfl, rfl, rfl⟩ := hF
  have hW : Wd (Es E a 26) (fun q => a ≤ q) s.heap (IL a [[], [(0, 1)], [], [], [], [], [], [], [], [], [], [], [], [], [], [], [], [], [], [], [], [], [], [], [], []]) J0 (PL a [[], [(8, 7), (6, 6), (5, 5), (3, 4), (2, 3), (1, 2)], [], [], [], [], [], [(5, 23), (4, 20), (3, 17), (2, 14), (1, 11), (0, 8)], [(1, 10), (0, 9)], [], [], [(1, 13), (0, 12)], [], [], [(1, 16), (0, 15)], [], [], [(1, 19), (0, 18)], [], [], [(1, 22), (0, 21)], [], [], [(1, 25), (0, 24)], [], []]) H locs := by
    rw [show IL a [[], []] = IL a [[]] from (IL_new (d := [[]])).symm, show PL a [[], []] = PL a [[]] from (PL_new (d := [[]])).symm, IL_mrg (by rfl), PL_mrg (by rfl), J0_mrg] at hW; exact hW
  refine gr_putR (E := Es E a 26) (a' := a) (b := a + 1) C.es hin dX5_init_12 rfl (show eS E a 26 a = 5 from (eS_in (Nat.le_refl _) (by omega)).trans (hs 0 _ _ rfl).1) rfl rfl rfl rfl hW (fun H locs hW => ?_)
  have hW : Wd (Es E a 26) (fun q => a ≤ q) s.heap (IL a [[], [(0, 1)], [], [], [], [], [], [], [], [], [], [], [], [], [], [], [], [], [], [], [], [], [], [], [], []]) J0 (PL a [[(0, 1)], [(8, 7), (6, 6), (5, 5), (3, 4), (2, 3), (1, 2)], [], [], [], [], [], [(5, 23), (4, 20), (3, 17), (2, 14), (1, 11), (0, 8)], [(1, 10), (0, 9)], [], [], [(1, 13), (0, 12)], [], [], [(1, 16), (0, 15)], [], [], [(1, 19), (0, 18)], [], [], [(1, 22), (0, 21)], [], [], [(1, 25), (0, 24)], [], []]) H locs := by
    have e := PL_put (a := a) (k := 0) (j := 0) (v := 1) (d := [[], [(8, 7), (6, 6), (5, 5), (3, 4), (2, 3), (1, 2)], [], [], [], [], [], [(5, 23), (4, 20), (3, 17), (2, 14), (1, 11), (0, 8)], [(1, 10), (0, 9)], [], [], [(1, 13), (0, 12)], [], [], [(1, 16), (0, 15)], [], [], [(1, 19), (0, 18)], [], [], [(1, 22), (0, 21)], [], [], [(1, 25), (0, 24)], [], []]) (by decide); rw [Nat.add_zero] at e; rw [e] at hW; exact hW
  refine sg_lod (C.es (n' := 26)) dX5_init_15 rfl hL rfl rfl ?_
  refine sg_alu (C.es (n' := 26)) dX5_init_16 rfl rfl ?_
  refine gr_newI2 (n := 26) C.es (by decide) (by omega) (hs 26 _ _ rfl).1 (hs 26 _ _ rfl).2 (IL_end (by decide)) cArI hA (by decide) (by decide) (by decide) ⟨by show 26 ≤ 29; decide, by show 130 ≤ 148; decide⟩ dX5_init_18 hW (fun H hW => ?_)
  have hW : Wd (Es E a 27) (fun q => a ≤ q) s.heap (IL a [[], [(0, 1)], [], [], [], [], [], [], [], [], [], [], [], [], [], [], [], [], [], [], [], [], [], [], [], [], []]) J0 (PL a [[(0, 1)], [(8, 7), (6, 6), (5, 5), (3, 4), (2, 3), (1, 2)], [], [], [], [], [], [(5, 23), (4, 20), (3, 17), (2, 14), (1, 11), (0, 8)], [(1, 10), (0, 9)], [], [], [(1, 13), (0, 12)], [], [], [(1, 16), (0, 15)], [], [], [(1, 19), (0, 18)], [], [], [(1, 22), (0, 21)], [], [], [(1, 25), (0, 24)], [], [], []]) H locs := by
    rw [IL_new, PL_new] at hW; exact hW
  refine gr_putR (E := Es E a 27) (a' := a) (b := a + 26) C.es hin dX5_init_20 rfl (show eS E a 27 a = 5 from (eS_in (Nat.le_refl _) (by omega)).trans (hs 0 _ _ rfl).1) rfl rfl rfl rfl hW (fun H locs hW => ?_)
  have hW : Wd (Es E a 27) (fun q => a ≤ q) s.heap (IL a [[], [(0, 1)], [], [], [], [], [], [], [], [], [], [], [], [], [], [], [], [], [], [], [], [], [], [], [], [], []]) J0 (PL a [[(1, 26), (0, 1)], [(8, 7), (6, 6), (5, 5), (3, 4), (2, 3), (1, 2)], [], [], [], [], [], [(5, 23), (4, 20), (3, 17), (2, 14), (1, 11), (0, 8)], [(1, 10), (0, 9)], [], [], [(1, 13), (0, 12)], [], [], [(1, 16), (0, 15)], [], [], [(1, 19), (0, 18)], [], [], [(1, 22), (0, 21)], [], [], [(1, 25), (0, 24)], [], [], []]) H locs := by
    have e := PL_put (a := a) (k := 0) (j := 1) (v := 26) (d := [[(0, 1)], [(8, 7), (6, 6), (5, 5), (3, 4), (2, 3), (1, 2)], [], [], [], [], [], [(5, 23), (4, 20), (3, 17), (2, 14), (1, 11), (0, 8)], [(1, 10), (0, 9)], [], [], [(1, 13), (0, 12)], [], [], [(1, 16), (0, 15)], [], [], [(1, 19), (0, 18)], [], [], [(1, 22), (0, 21)], [], [], [(1, 25), (0, 24)], [], [], []]) (by decide); rw [Nat.add_zero] at e; rw [e] at hW; exact hW
  refine sg_lod (C.es (n' := 27)) dX5_init_23 rfl hL rfl rfl ?_
  refine sg_alu (C.es (n' := 27)) dX5_init_24 rfl rfl ?_
  refine gr_newI2 (n := 27) C.es (by decide) (by omega) (hs 27 _ _ rfl).1 (hs 27 _ _ rfl).2 (IL_end (by decide)) cArI hA (by decide) (by decide) (by decide) ⟨by show 27 ≤ 29; decide, by show 136 ≤ 148; decide⟩ dX5_init_26 hW (fun H hW => ?_)
  have hW : Wd (Es E a 28) (fun q => a ≤ q) s.heap (IL a [[], [(0, 1)], [], [], [], [], [], [], [], [], [], [], [], [], [], [], [], [], [], [], [], [], [], [], [], [], [], []]) J0 (PL a [[(1, 26), (0, 1)], [(8, 7), (6, 6), (5, 5), (3, 4), (2, 3), (1, 2)], [], [], [], [], [], [(5, 23), (4, 20), (3, 17), (2, 14), (1, 11), (0, 8)], [(1, 10), (0, 9)], [], [], [(1, 13), (0, 12)], [], [], [(1, 16), (0, 15)], [], [], [(1, 19), (0, 18)], [], [], [(1, 22), (0, 21)], [], [], [(1, 25), (0, 24)], [], [], [], []]) H locs := by
    rw [IL_new, PL_new] at hW; exact hW
  refine gr_putR (E := Es E a 28) (a' := a) (b := a + 27) C.es hin dX5_init_28 rfl (show eS E a 28 a = 5 from (eS_in (Nat.le_refl _) (by omega)).trans (hs 0 _ _ rfl).1) rfl rfl rfl rfl hW (fun H locs hW => ?_)
  have hW : Wd (Es E a 28) (fun q => a ≤ q) s.heap (IL a [[], [(0, 1)], [], [], [], [], [], [], [], [], [], [], [], [], [], [], [], [], [], [], [], [], [], [], [], [], [], []]) J0 (PL a [[(2, 27), (1, 26), (0, 1)], [(8, 7), (6, 6), (5, 5), (3, 4), (2, 3), (1, 2)], [], [], [], [], [], [(5, 23), (4, 20), (3, 17), (2, 14), (1, 11), (0, 8)], [(1, 10), (0, 9)], [], [], [(1, 13), (0, 12)], [], [], [(1, 16), (0, 15)], [], [], [(1, 19), (0, 18)], [], [], [(1, 22), (0, 21)], [], [], [(1, 25), (0, 24)], [], [], [], []]) H locs := by
    have e := PL_put (a := a) (k := 0) (j := 2) (v := 27) (d := [[(1, 26), (0, 1)], [(8, 7), (6, 6), (5, 5), (3, 4), (2, 3), (1, 2)], [], [], [], [], [], [(5, 23), (4, 20), (3, 17), (2, 14), (1, 11), (0, 8)], [(1, 10), (0, 9)], [], [], [(1, 13), (0, 12)], [], [], [(1, 16), (0, 15)], [], [], [(1, 19), (0, 18)], [], [], [(1, 22), (0, 21)], [], [], [(1, 25), (0, 24)], [], [], [], []]) (by decide); rw [Nat.add_zero] at e; rw [e] at hW; exact hW
  refine sg_lod (C.es (n' := 28)) dX5_init_31 rfl hL rfl rfl ?_
  refine sg_alu (C.es (n' := 28)) dX5_init_32 rfl rfl ?_
  refine gr_newI2 (n := 28) C.es (by decide) (by omega) (hs 28 _ _ rfl).1 (hs 28 _ _ rfl).2 (IL_end (by decide)) cArI hA (by decide) (by decide) (by decide) ⟨by show 28 ≤ 29; decide, by show 142 ≤ 148; decide⟩ dX5_init_34 hW (fun H hW => ?_)
  have hW : Wd (Es E a 29) (fun q => a ≤ q) s.heap (IL a [[], [(0, 1)], [], [], [], [], [], [], [], [], [], [], [], [], [], [], [], [], [], [], [], [], [], [], [], [], [], [], []]) J0 (PL a [[(2, 27), (1, 26), (0, 1)], [(8, 7), (6, 6), (5, 5), (3, 4), (2, 3), (1, 2)], [], [], [], [], [], [(5, 23), (4, 20), (3, 17), (2, 14), (1, 11), (0, 8)], [(1, 10), (0, 9)], [], [], [(1, 13), (0, 12)], [], [], [(1, 16), (0, 15)], [], [], [(1, 19), (0, 18)], [], [], [(1, 22), (0, 21)], [], [], [(1, 25), (0, 24)], [], [], [], [], []]) H locs := by
    rw [IL_new, PL_new] at hW; exact hW
  refine gr_putR (E := Es E a 29) (a' := a) (b := a + 28) C.es hin dX5_init_36 rfl (show eS E a 29 a = 5 from (eS_in (Nat.le_refl _) (by omega)).trans (hs 0 _ _ rfl).1) rfl rfl rfl rfl hW (fun H locs hW => ?_)
  have hW : Wd (Es E a 29) (fun q => a ≤ q) s.heap (IL a [[], [(0, 1)], [], [], [], [], [], [], [], [], [], [], [], [], [], [], [], [], [], [], [], [], [], [], [], [], [], [], []]) J0 (PL a [[(3, 28), (2, 27), (1, 26), (0, 1)], [(8, 7), (6, 6), (5, 5), (3, 4), (2, 3), (1, 2)], [], [], [], [], [], [(5, 23), (4, 20), (3, 17), (2, 14), (1, 11), (0, 8)], [(1, 10), (0, 9)], [], [], [(1, 13), (0, 12)], [], [], [(1, 16), (0, 15)], [], [], [(1, 19), (0, 18)], [], [], [(1, 22), (0, 21)], [], [], [(1, 25), (0, 24)], [], [], [], [], []]) H locs := by
    have e := PL_put (a := a) (k := 0) (j := 3) (v := 28) (d := [[(2, 27), (1, 26), (0, 1)], [(8, 7), (6, 6), (5, 5), (3, 4), (2, 3), (1, 2)], [], [], [], [], [], [(5, 23), (4, 20), (3, 17), (2, 14), (1, 11), (0, 8)], [(1, 10), (0, 9)], [], [], [(1, 13), (0, 12)], [], [], [(1, 16), (0, 15)], [], [], [(1, 19), (0, 18)], [], [], [(1, 22), (0, 21)], [], [], [(1, 25), (0, 24)], [], [], [], [], []]) (by decide); rw [Nat.add_zero] at e; rw [e] at hW; exact hW
  refine sg_lod (C.es (n' := 29)) dX5_init_39 rfl hL rfl rfl ?_
  refine sg_alu (C.es (n' := 29)) dX5_init_40 rfl rfl ?_
  refine gr_newI2 (n := 29) C.es (by decide) (by omega) (hs 29 _ _ rfl).1 (hs 29 _ _ rfl).2 (IL_end (by decide)) cArI hA (by decide) (by decide) (by decide) ⟨by show 29 ≤ 29; decide, by show 148 ≤ 148; decide⟩ dX5_init_42 hW (fun H hW => ?_)
  have hW : Wd (Es E a 30) (fun q => a ≤ q) s.heap (IL a [[], [(0, 1)], [], [], [], [], [], [], [], [], [], [], [], [], [], [], [], [], [], [], [], [], [], [], [], [], [], [], [], []]) J0 (PL a [[(3, 28), (2, 27), (1, 26), (0, 1)], [(8, 7), (6, 6), (5, 5), (3, 4), (2, 3), (1, 2)], [], [], [], [], [], [(5, 23), (4, 20), (3, 17), (2, 14), (1, 11), (0, 8)], [(1, 10), (0, 9)], [], [], [(1, 13), (0, 12)], [], [], [(1, 16), (0, 15)], [], [], [(1, 19), (0, 18)], [], [], [(1, 22), (0, 21)], [], [], [(1, 25), (0, 24)], [], [], [], [], [], []]) H locs := by
    rw [IL_new, PL_new] at hW; exact hW
  refine gr_putR (E := Es E a 30) (a' := a) (b := a + 29) C.es hin dX5_init_44 rfl (show eS E a 30 a = 5 from (eS_in (Nat.le_refl _) (by omega)).trans (hs 0 _ _ rfl).1) rfl rfl rfl rfl hW (fun H locs hW => ?_)
  have hW : Wd (Es E a 30) (fun q => a ≤ q) s.heap (IL a [[], [(0, 1)], [], [], [], [], [], [], [], [], [], [], [], [], [], [], [], [], [], [], [], [], [], [], [], [], [], [], [], []]) J0 (PL a [[(4, 29), (3, 28), (2, 27), (1, 26), (0, 1)], [(8, 7), (6, 6), (5, 5), (3, 4), (2, 3), (1, 2)], [], [], [], [], [], [(5, 23), (4, 20), (3, 17), (2, 14), (1, 11), (0, 8)], [(1, 10), (0, 9)], [], [], [(1, 13), (0, 12)], [], [], [(1, 16), (0, 15)], [], [], [(1, 19), (0, 18)], [], [], [(1, 22), (0, 21)], [], [], [(1, 25), (0, 24)], [], [], [], [], [], []]) H locs := by
    have e := PL_put (a := a) (k := 0) (j := 4) (v := 29) (d := [[(3, 28), (2, 27), (1, 26), (0, 1)], [(8, 7), (6, 6), (5, 5), (3, 4), (2, 3), (1, 2)], [], [], [], [], [], [(5, 23), (4, 20), (3, 17), (2, 14), (1, 11), (0, 8)], [(1, 10), (0, 9)], [], [], [(1, 13), (0, 12)], [], [], [(1, 16), (0, 15)], [], [], [(1, 19), (0, 18)], [], [], [(1, 22), (0, 21)], [], [], [(1, 25), (0, 24)], [], [], [], [], [], []]) (by decide); rw [Nat.add_zero] at e; rw [e] at hW; exact hW
  refine sg_alu (C.es (n' := 30)) dX5_init_47 rfl rfl ?_
  refine sg_sto (C.es (n' := 30)) dX5_init_48 rfl hL rfl (Nat.le_of_ble_eq_true rfl) (fun ls hL => ?_)
  refine sg_lod (C.es (n' := 30)) dX5_init_49 rfl hL rfl rfl ?_
  refine sg_alu (C.es (n' := 30)) dX5_init_50 rfl rfl ?_
  refine sg_br (tgt := 68) (C.es (n' := 30)) dX5_init_52 rfl (by decide) (fun z => absurd z (by decide)) (fun _ => ?_)
  refine sg_lod (C.es (n' := 30)) dX5_init_55 rfl hL rfl rfl ?_
  refine sg_getf (E := Es E a 30) C.es dX5_init_56 rfl (show eS E a 30 a = 5 from (eS_in (Nat.le_refl _) (by omega)).trans (hs 0 _ _ rfl).1) rfl hW ?_
  rw [show tx_v (IL a [[], [(0, 1)], [], [], [], [], [], [], [], [], [], [], [], [], [], [], [], [], [], [], [], [], [], [], [], [], [], [], [], []] a) (J0 a) (PL a [[(4, 29), (3, 28), (2, 27), (1, 26), (0, 1)], [(8, 7), (6, 6), (5, 5), (3, 4), (2, 3), (1, 2)], [], [], [], [], [], [(5, 23), (4, 20), (3, 17), (2, 14), (1, 11), (0, 8)], [(1, 10), (0, 9)], [], [], [(1, 13), (0, 12)], [], [], [(1, 16), (0, 15)], [], [], [(1, 19), (0, 18)], [], [], [(1, 22), (0, 21)], [], [], [(1, 25), (0, 24)], [], [], [], [], [], []] a) 2 4 = .ref (a + 29) from by simp [tx_v, PL, va_rf, List.lookup]]
  refine sg_lod (C.es (n' := 30)) dX5_init_59 rfl hL rfl rfl ?_
  refine sg_alu (C.es (n' := 30)) dX5_init_60 rfl rfl ?_
  refine sg_ast (E := Es E a 30) (i := .iastore) C.es dX5_init_61 rfl ⟨(eS_in (by omega) (by omega)).trans (hs 29 _ _ rfl).1, by show vp_in _ (E.2.2.2.1 (a + 29)); rw [(hs 29 _ _ rfl).2]; exact fun h => h.elim (by decide) (by decide)⟩ hW (fun H locs hW => ?_)
  have hW : Wd (Es E a 30) (fun q => a ≤ q) s.heap (u2 (IL a [[], [(0, 1)], [], [], [], [], [], [], [], [], [], [], [], [], [], [], [], [], [], [], [], [], [], [], [], [], [], [], [], []]) (a + 29) 0 (-1)) J0 (PL a [[(4, 29), (3, 28), (2, 27), (1, 26), (0, 1)], [(8, 7), (6, 6), (5, 5), (3, 4), (2, 3), (1, 2)], [], [], [], [], [], [(5, 23), (4, 20), (3, 17), (2, 14), (1, 11), (0, 8)], [(1, 10), (0, 9)], [], [], [(1, 13), (0, 12)], [], [], [(1, 16), (0, 15)], [], [], [(1, 19), (0, 18)], [], [], [(1, 22), (0, 21)], [], [], [(1, 25), (0, 24)], [], [], [], [], [], []]) H locs := hW
  have hW : Wd (Es E a 30) (fun q => a ≤ q) s.heap (IL a [[], [(0, 1)], [], [], [], [], [], [], [], [], [], [], [], [], [], [], [], [], [], [], [], [], [], [], [], [], [], [], [], [(0, (-1))]]) J0 (PL a [[(4, 29), (3, 28), (2, 27), (1, 26), (0, 1)], [(8, 7), (6, 6), (5, 5), (3, 4), (2, 3), (1, 2)], [], [], [], [], [], [(5, 23), (4, 20), (3, 17), (2, 14), (1, 11), (0, 8)], [(1, 10), (0, 9)], [], [], [(1, 13), (0, 12)], [], [], [(1, 16), (0, 15)], [], [], [(1, 19), (0, 18)], [], [], [(1, 22), (0, 21)], [], [], [(1, 25), (0, 24)], [], [], [], [], [], []]) H locs := by
    rw [IL_put (by decide)] at hW; exact hW
  refine sg_inc (C.es (n' := 30)) dX5_init_62 hL rfl (fun ls hL => ?_)
  refine sg_go (tgt := 49) (C.es (n' := 30)) dX5_init_65 (fun _ _ => rfl) rfl (by decide) ?_
  refine sg_lod (C.es (n' := 30)) dX5_init_49 rfl hL rfl rfl ?_
  refine sg_alu (C.es (n' := 30)) dX5_init_50 rfl rfl ?_
  refine sg_br (tgt := 68) (C.es (n' := 30)) dX5_init_52 rfl (by decide) (fun z => absurd z (by decide)) (fun _ => ?_)
  refine sg_lod (C.es (n' := 30)) dX5_init_55 rfl hL rfl rfl ?_
  refine sg_getf (E := Es E a 30) C.es dX5_init_56 rfl (show eS E a 30 a = 5 from (eS_in (Nat.le_refl _) (by omega)).trans (hs 0 _ _ rfl).1) rfl hW ?_
  rw [show tx_v (IL a [[], [(0, 1)], [], [], [], [], [], [], [], [], [], [], [], [], [], [], [], [], [], [], [], [], [], [], [], [], [], [], [], [(0, (-1))]] a) (J0 a) (PL a [[(4, 29), (3, 28), (2, 27), (1, 26), (0, 1)], [(8, 7), (6, 6), (5, 5), (3, 4), (2, 3), (1, 2)], [], [], [], [], [], [(5, 23), (4, 20), (3, 17), (2, 14), (1, 11), (0, 8)], [(1, 10), (0, 9)], [], [], [(1, 13), (0, 12)], [], [], [(1, 16), (0, 15)], [], [], [(1, 19), (0, 18)], [], [], [(1, 22), (0, 21)], [], [], [(1, 25), (0, 24)], [], [], [], [], [], []] a) 2 4 = .ref (a + 29) from by simp [tx_v, PL, va_rf, List.lookup]]
  refine sg_lod (C.es (n' := 30)) dX5_init_59 rfl hL rfl rfl ?_
  refine sg_alu (C.es (n' := 30)) dX5_init_60 rfl rfl ?_
  refine sg_ast (E := Es E a 30) (i := .iastore) C.es dX5_init_61 rfl ⟨(eS_in (by omega) (by omega)).trans (hs 29 _ _ rfl).1, by show vp_in _ (E.2.2.2.1 (a + 29)); rw [(hs 29 _ _ rfl).2]; exact fun h => h.elim (by decide) (by decide)⟩ hW (fun H locs hW => ?_)
  have hW : Wd (Es E a 30) (fun q => a ≤ q) s.heap (u2 (IL a [[], [(0, 1)], [], [], [], [], [], [], [], [], [], [], [], [], [], [], [], [], [], [], [], [], [], [], [], [], [], [], [], [(0, (-1))]]) (a + 29) 1 (-1)) J0 (PL a [[(4, 29), (3, 28), (2, 27), (1, 26), (0, 1)], [(8, 7), (6, 6), (5, 5), (3, 4), (2, 3), (1, 2)], [], [], [], [], [], [(5, 23), (4, 20), (3, 17), (2, 14), (1, 11), (0, 8)], [(1, 10), (0, 9)], [], [], [(1, 13), (0, 12)], [], [], [(1, 16), (0, 15)], [], [], [(1, 19), (0, 18)], [], [], [(1, 22), (0, 21)], [], [], [(1, 25), (0, 24)], [], [], [], [], [], []]) H locs := hW
  have hW : Wd (Es E a 30) (fun q => a ≤ q) s.heap (IL a [[], [(0, 1)], [], [], [], [], [], [], [], [], [], [], [], [], [], [], [], [], [], [], [], [], [], [], [], [], [], [], [], [(1, (-1)), (0, (-1))]]) J0 (PL a [[(4, 29), (3, 28), (2, 27), (1, 26), (0, 1)], [(8, 7), (6, 6), (5, 5), (3, 4), (2, 3), (1, 2)], [], [], [], [], [], [(5, 23), (4, 20), (3, 17), (2, 14), (1, 11), (0, 8)], [(1, 10), (0, 9)], [], [], [(1, 13), (0, 12)], [], [], [(1, 16), (0, 15)], [], [], [(1, 19), (0, 18)], [], [], [(1, 22), (0, 21)], [], [], [(1, 25), (0, 24)], [], [], [], [], [], []]) H locs := by
    rw [IL_put (by decide)] at hW; exact hW
  refine sg_inc (C.es (n' := 30)) dX5_init_62 hL rfl (fun ls hL => ?_)
  refine sg_go (tgt := 49) (C.es (n' := 30)) dX5_init_65 (fun _ _ => rfl) rfl (by decide) ?_
  refine sg_lod (C.es (n' := 30)) dX5_init_49 rfl hL rfl rfl ?_
  refine sg_alu (C.es (n' := 30)) dX5_init_50 rfl rfl ?_
  refine sg_br (tgt := 68) (C.es (n' := 30)) dX5_init_52 rfl (by decide) (fun z => absurd z (by decide)) (fun _ => ?_)
  refine sg_lod (C.es (n' := 30)) dX5_init_55 rfl hL rfl rfl ?_
  refine sg_getf (E := Es E a 30) C.es dX5_init_56 rfl (show eS E a 30 a = 5 from (eS_in (Nat.le_refl _) (by omega)).trans (hs 0 _ _ rfl).1) rfl hW ?_
  rw [show tx_v (IL a [[], [(0, 1)], [], [], [], [], [], [], [], [], [], [], [], [], [], [], [], [], [], [], [], [], [], [], [], [], [], [], [], [(1, (-1)), (0, (-1))]] a) (J0 a) (PL a [[(4, 29), (3, 28), (2, 27), (1, 26), (0, 1)], [(8, 7), (6, 6), (5, 5), (3, 4), (2, 3), (1, 2)], [], [], [], [], [], [(5, 23), (4, 20), (3, 17), (2, 14), (1, 11), (0, 8)], [(1, 10), (0, 9)], [], [], [(1, 13), (0, 12)], [], [], [(1, 16), (0, 15)], [], [], [(1, 19), (0, 18)], [], [], [(1, 22), (0, 21)], [], [], [(1, 25), (0, 24)], [], [], [], [], [], []] a) 2 4 = .ref (a + 29) from by simp [tx_v, PL, va_rf, List.lookup]]
  refine sg_lod (C.es (n' := 30)) dX5_init_59 rfl hL rfl rfl ?_
  refine sg_alu (C.es (n' := 30)) dX5_init_60 rfl rfl ?_
  refine sg_ast (E := Es E a 30) (i := .iastore) C.es dX5_init_61 rfl ⟨(eS_in (by omega) (by omega)).trans (hs 29 _ _ rfl).1, by show vp_in _ (E.2.2.2.1 (a + 29)); rw [(hs 29 _ _ rfl).2]; exact fun h => h.elim (by decide) (by decide)⟩ hW (fun H locs hW => ?_)
  have hW : Wd (Es E a 30) (fun q => a ≤ q) s.heap (u2 (IL a [[], [(0, 1)], [], [], [], [], [], [], [], [], [], [], [], [], [], [], [], [], [], [], [], [], [], [], [], [], [], [], [], [(1, (-1)), (0, (-1))]]) (a + 29) 2 (-1)) J0 (PL a [[(4, 29), (3, 28), (2, 27), (1, 26), (0, 1)], [(8, 7), (6, 6), (5, 5), (3, 4), (2, 3), (1, 2)], [], [], [], [], [], [(5, 23), (4, 20), (3, 17), (2, 14), (1, 11), (0, 8)], [(1, 10), (0, 9)], [], [], [(1, 13), (0, 12)], [], [], [(1, 16), (0, 15)], [], [], [(1, 19), (0, 18)], [], [], [(1, 22), (0, 21)], [], [], [(1, 25), (0, 24)], [], [], [], [], [], []]) H locs := hW
  have hW : Wd (Es E a 30) (fun q => a ≤ q) s.heap (IL a [[], [(0, 1)], [], [], [], [], [], [], [], [], [], [], [], [], [], [], [], [], [], [], [], [], [], [], [], [], [], [], [], [(2, (-1)), (1, (-1)), (0, (-1))]]) J0 (PL a [[(4, 29), (3, 28), (2, 27), (1, 26), (0, 1)], [(8, 7), (6, 6), (5, 5), (3, 4), (2, 3), (1, 2)], [], [], [], [], [], [(5, 23), (4, 20), (3, 17), (2, 14), (1, 11), (0, 8)], [(1, 10), (0, 9)], [], [], [(1, 13), (0, 12)], [], [], [(1, 16), (0, 15)], [], [], [(1, 19), (0, 18)], [], [], [(1, 22), (0, 21)], [], [], [(1, 25), (0, 24)], [], [], [], [], [], []]) H locs := by
    rw [IL_put (by decide)] at hW; exact hW
  refine sg_inc (C.es (n' := 30)) dX5_init_62 hL rfl (fun ls hL => ?_)
  refine sg_go (tgt := 49) (C.es (n' := 30)) dX5_init_65 (fun _ _ => rfl) rfl (by decide) ?_
  refine sg_lod (C.es (n' := 30)) dX5_init_49 rfl hL rfl rfl ?_
  refine sg_alu (C.es (n' := 30)) dX5_init_50 rfl rfl ?_
  refine sg_br (tgt := 68) (C.es (n' := 30)) dX5_init_52 rfl (by decide) (fun z => absurd z (by decide)) (fun _ => ?_)
  refine sg_lod (C.es (n' := 30)) dX5_init_55 rfl hL rfl rfl ?_
  refine sg_getf (E := Es E a 30) C.es dX5_init_56 rfl (show eS E a 30 a = 5 from (eS_in (Nat.le_refl _) (by omega)).trans (hs 0 _ _ rfl).1) rfl hW ?_
  rw [show tx_v (IL a [[], [(0, 1)], [], [], [], [], [], [], [], [], [], [], [], [], [], [], [], [], [], [], [], [], [], [], [], [], [], [], [], [(2, (-1)), (1, (-1)), (0, (-1))]] a) (J0 a) (PL a [[(4, 29), (3, 28), (2, 27), (1, 26), (0, 1)], [(8, 7), (6, 6), (5, 5), (3, 4), (2, 3), (1, 2)], [], [], [], [], [], [(5, 23), (4, 20), (3, 17), (2, 14), (1, 11), (0, 8)], [(1, 10), (0, 9)], [], [], [(1, 13), (0, 12)], [], [], [(1, 16), (0, 15)], [], [], [(1, 19), (0, 18)], [], [], [(1, 22), (0, 21)], [], [], [(1, 25), (0, 24)], [], [], [], [], [], []] a) 2 4 = .ref (a + 29) from by simp [tx_v, PL, va_rf, List.lookup]]
  refine sg_lod (C.es (n' := 30)) dX5_init_59 rfl hL rfl rfl ?_
  refine sg_alu (C.es (n' := 30)) dX5_init_60 rfl rfl ?_
  refine sg_ast (E := Es E a 30) (i := .iastore) C.es dX5_init_61 rfl ⟨(eS_in (by omega) (by omega)).trans (hs 29 _ _ rfl).1, by show vp_in _ (E.2.2.2.1 (a + 29)); rw [(hs 29 _ _ rfl).2]; exact fun h => h.elim (by decide) (by decide)⟩ hW (fun H locs hW => ?_)
  have hW : Wd (Es E a 30) (fun q => a ≤ q) s.heap (u2 (IL a [[], [(0, 1)], [], [], [], [], [], [], [], [], [], [], [], [], [], [], [], [], [], [], [], [], [], [], [], [], [], [], [], [(2, (-1)), (1, (-1)), (0, (-1))]]) (a + 29) 3 (-1)) J0 (PL a [[(4, 29), (3, 28), (2, 27), (1, 26), (0, 1)], [(8, 7), (6, 6), (5, 5), (3, 4), (2, 3), (1, 2)], [], [], [], [], [], [(5, 23), (4, 20), (3, 17), (2, 14), (1, 11), (0, 8)], [(1, 10), (0, 9)], [], [], [(1, 13), (0, 12)], [], [], [(1, 16), (0, 15)], [], [], [(1, 19), (0, 18)], [], [], [(1, 22), (0, 21)], [], [], [(1, 25), (0, 24)], [], [], [], [], [], []]) H locs := hW
  have hW : Wd (Es E a 30) (fun q => a ≤ q) s.heap (IL a [[], [(0, 1)], [], [], [], [], [], [], [], [], [], [], [], [], [], [], [], [], [], [], [], [], [], [], [], [], [], [], [], [(3, (-1)), (2, (-1)), (1, (-1)), (0, (-1))]]) J0 (PL a [[(4, 29), (3, 28), (2, 27), (1, 26), (0, 1)], [(8, 7), (6, 6), (5, 5), (3, 4), (2, 3), (1, 2)], [], [], [], [], [], [(5, 23), (4, 20), (3, 17), (2, 14), (1, 11), (0, 8)], [(1, 10), (0, 9)], [], [], [(1, 13), (0, 12)], [], [], [(1, 16), (0, 15)], [], [], [(1, 19), (0, 18)], [], [], [(1, 22), (0, 21)], [], [], [(1, 25), (0, 24)], [], [], [], [], [], []]) H locs := by
    rw [IL_put (by decide)] at hW; exact hW
  refine sg_inc (C.es (n' := 30)) dX5_init_62 hL rfl (fun ls hL => ?_)
  refine sg_go (tgt := 49) (C.es (n' := 30)) dX5_init_65 (fun _ _ => rfl) rfl (by decide) ?_
  refine sg_lod (C.es (n' := 30)) dX5_init_49 rfl hL rfl rfl ?_
  refine sg_alu (C.es (n' := 30)) dX5_init_50 rfl rfl ?_
  refine sg_br (tgt := 68) (C.es (n' := 30)) dX5_init_52 rfl (by decide) (fun z => absurd z (by decide)) (fun _ => ?_)
  refine sg_lod (C.es (n' := 30)) dX5_init_55 rfl hL rfl rfl ?_
  refine sg_getf (E := Es E a 30) C.es dX5_init_56 rfl (show eS E a 30 a = 5 from (eS_in (Nat.le_refl _) (by omega)).trans (hs 0 _ _ rfl).1) rfl hW ?_
  rw [show tx_v (IL a [[], [(0, 1)], [], [], [], [], [], [], [], [], [], [], [], [], [], [], [], [], [], [], [], [], [], [], [], [], [], [], [], [(3, (-1)), (2, (-1)), (1, (-1)), (0, (-1))]] a) (J0 a) (PL a [[(4, 29), (3, 28), (2, 27), (1, 26), (0, 1)], [(8, 7), (6, 6), (5, 5), (3, 4), (2, 3), (1, 2)], [], [], [], [], [], [(5, 23), (4, 20), (3, 17), (2, 14), (1, 11), (0, 8)], [(1, 10), (0, 9)], [], [], [(1, 13), (0, 12)], [], [], [(1, 16), (0, 15)], [], [], [(1, 19), (0, 18)], [], [], [(1, 22), (0, 21)], [], [], [(1, 25), (0, 24)], [], [], [], [], [], []] a) 2 4 = .ref (a + 29) from by simp [tx_v, PL, va_rf, List.lookup]]
  refine sg_lod (C.es (n' := 30)) dX5_init_59 rfl hL rfl rfl ?_
  refine sg_alu (C.es (n' := 30)) dX5_init_60 rfl rfl ?_
  refine sg_ast (E := Es E a 30) (i := .iastore) C.es dX5_init_61 rfl ⟨(eS_in (by omega) (by omega)).trans (hs 29 _ _ rfl).1, by show vp_in _ (E.2.2.2.1 (a + 29)); rw [(hs 29 _ _ rfl).2]; exact fun h => h.elim (by decide) (by decide)⟩ hW (fun H locs hW => ?_)
  have hW : Wd (Es E a 30) (fun q => a ≤ q) s.heap (u2 (IL a [[], [(0, 1)], [], [], [], [], [], [], [], [], [], [], [], [], [], [], [], [], [], [], [], [], [], [], [], [], [], [], [], [(3, (-1)), (2, (-1)), (1, (-1)), (0, (-1))]]) (a + 29) 4 (-1)) J0 (PL a [[(4, 29), (3, 28), (2, 27), (1, 26), (0, 1)], [(8, 7), (6, 6), (5, 5), (3, 4), (2, 3), (1, 2)], [], [], [], [], [], [(5, 23), (4, 20), (3, 17), (2, 14), (1, 11), (0, 8)], [(1, 10), (0, 9)], [], [], [(1, 13), (0, 12)], [], [], [(1, 16), (0, 15)], [], [], [(1, 19), (0, 18)], [], [], [(1, 22), (0, 21)], [], [], [(1, 25), (0, 24)], [], [], [], [], [], []]) H locs := hW
  have hW : Wd (Es E a 30) (fun q => a ≤ q) s.heap (IL a [[], [(0, 1)], [], [], [], [], [], [], [], [], [], [], [], [], [], [], [], [], [], [], [], [], [], [], [], [], [], [], [], [(4, (-1)), (3, (-1)), (2, (-1)), (1, (-1)), (0, (-1))]]) J0 (PL a [[(4, 29), (3, 28), (2, 27), (1, 26), (0, 1)], [(8, 7), (6, 6), (5, 5), (3, 4), (2, 3), (1, 2)], [], [], [], [], [], [(5, 23), (4, 20), (3, 17), (2, 14), (1, 11), (0, 8)], [(1, 10), (0, 9)], [], [], [(1, 13), (0, 12)], [], [], [(1, 16), (0, 15)], [], [], [(1, 19), (0, 18)], [], [], [(1, 22), (0, 21)], [], [], [(1, 25), (0, 24)], [], [], [], [], [], []]) H locs := by
    rw [IL_put (by decide)] at hW; exact hW
  refine sg_inc (C.es (n' := 30)) dX5_init_62 hL rfl (fun ls hL => ?_)
  refine sg_go (tgt := 49) (C.es (n' := 30)) dX5_init_65 (fun _ _ => rfl) rfl (by decide) ?_
  refine sg_lod (C.es (n' := 30)) dX5_init_49 rfl hL rfl rfl ?_
  refine sg_alu (C.es (n' := 30)) dX5_init_50 rfl rfl ?_
  refine sg_br (tgt := 68) (C.es (n' := 30)) dX5_init_52 rfl (by decide) (fun z => absurd z (by decide)) (fun _ => ?_)
  refine sg_lod (C.es (n' := 30)) dX5_init_55 rfl hL rfl rfl ?_
  refine sg_getf (E := Es E a 30) C.es dX5_init_56 rfl (show eS E a 30 a = 5 from (eS_in (Nat.le_refl _) (by omega)).trans (hs 0 _ _ rfl).1) rfl hW ?_
  rw [show tx_v (IL a [[], [(0, 1)], [], [], [], [], [], [], [], [], [], [], [], [], [], [], [], [], [], [], [], [], [], [], [], [], [], [], [], [(4, (-1)), (3, (-1)), (2, (-1)), (1, (-1)), (0, (-1))]] a) (J0 a) (PL a [[(4, 29), (3, 28), (2, 27), (1, 26), (0, 1)], [(8, 7), (6, 6), (5, 5), (3, 4), (2, 3), (1, 2)], [], [], [], [], [], [(5, 23), (4, 20), (3, 17), (2, 14), (1, 11), (0, 8)], [(1, 10), (0, 9)], [], [], [(1, 13), (0, 12)], [], [], [(1, 16), (0, 15)], [], [], [(1, 19), (0, 18)], [], [], [(1, 22), (0, 21)], [], [], [(1, 25), (0, 24)], [], [], [], [], [], []] a) 2 4 = .ref (a + 29) from by simp [tx_v, PL, va_rf, List.lookup]]
  refine sg_lod (C.es (n' := 30)) dX5_init_59 rfl hL rfl rfl ?_
  refine sg_alu (C.es (n' := 30)) dX5_init_60 rfl rfl ?_
  refine sg_ast (E := Es E a 30) (i := .iastore) C.es dX5_init_61 rfl ⟨(eS_in (by omega) (by omega)).trans (hs 29 _ _ rfl).1, by show vp_in _ (E.2.2.2.1 (a + 29)); rw [(hs 29 _ _ rfl).2]; exact fun h => h.elim (by decide) (by decide)⟩ hW (fun H locs hW => ?_)
  have hW : Wd (Es E a 30) (fun q => a ≤ q) s.heap (u2 (IL a [[], [(0, 1)], [], [], [], [], [], [], [], [], [], [], [], [], [], [], [], [], [], [], [], [], [], [], [], [], [], [], [], [(4, (-1)), (3, (-1)), (2, (-1)), (1, (-1)), (0, (-1))]]) (a + 29) 5 (-1)) J0 (PL a [[(4, 29), (3, 28), (2, 27), (1, 26), (0, 1)], [(8, 7), (6, 6), (5, 5), (3, 4), (2, 3), (1, 2)], [], [], [], [], [], [(5, 23), (4, 20), (3, 17), (2, 14), (1, 11), (0, 8)], [(1, 10), (0, 9)], [], [], [(1, 13), (0, 12)], [], [], [(1, 16), (0, 15)], [], [], [(1, 19), (0, 18)], [], [], [(1, 22), (0, 21)], [], [], [(1, 25), (0, 24)], [], [], [], [], [], []]) H locs := hW
  have hW : Wd (Es E a 30) (fun q => a ≤ q) s.heap (IL a [[], [(0, 1)], [], [], [], [], [], [], [], [], [], [], [], [], [], [], [], [], [], [], [], [], [], [], [], [], [], [], [], [(5, (-1)), (4, (-1)), (3, (-1)), (2, (-1)), (1, (-1)), (0, (-1))]]) J0 (PL a [[(4, 29), (3, 28), (2, 27), (1, 26), (0, 1)], [(8, 7), (6, 6), (5, 5), (3, 4), (2, 3), (1, 2)], [], [], [], [], [], [(5, 23), (4, 20), (3, 17), (2, 14), (1, 11), (0, 8)], [(1, 10), (0, 9)], [], [], [(1, 13), (0, 12)], [], [], [(1, 16), (0, 15)], [], [], [(1, 19), (0, 18)], [], [], [(1, 22), (0, 21)], [], [], [(1, 25), (0, 24)], [], [], [], [], [], []]) H locs := by
    rw [IL_put (by decide)] at hW; exact hW
  refine sg_inc (C.es (n' := 30)) dX5_init_62 hL rfl (fun ls hL => ?_)
  refine sg_go (tgt := 49) (C.es (n' := 30)) dX5_init_65 (fun _ _ => rfl) rfl (by decide) ?_
  refine sg_lod (C.es (n' := 30)) dX5_init_49 rfl hL rfl rfl ?_
  refine sg_alu (C.es (n' := 30)) dX5_init_50 rfl rfl ?_
  refine sg_br (tgt := 68) (C.es (n' := 30)) dX5_init_52 rfl (by decide) (fun _ => ?_) (fun z => absurd (by decide) z)
  exact gr_ret (k := 29) C.es hret ⟨rfl, rfl, rfl⟩ hW dX5_init_68
end CTL

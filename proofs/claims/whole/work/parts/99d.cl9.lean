/-! constructors by lists: couple, explorer, the model -/
section CTL
variable {l : Launch} {E : tx_En} {a : Nat}
theorem dX1_init_0 : decode cX1_init 0 = .ok (.aload_n 0, 1) := by decide +kernel
theorem dX1_init_1 : decode cX1_init 1 = .ok (.invokespecial 1, 3) := by decide +kernel
theorem dX1_init_4 : decode cX1_init 4 = .ok (.aload_n 0, 1) := by decide +kernel
theorem dX1_init_5 : decode cX1_init 5 = .ok (.new 7, 3) := by decide +kernel
theorem dX1_init_8 : decode cX1_init 8 = .ok (.dup, 1) := by decide +kernel
theorem dX1_init_9 : decode cX1_init 9 = .ok (.invokespecial 9, 3) := by decide +kernel
theorem dX1_init_12 : decode cX1_init 12 = .ok (.putfield 10, 3) := by decide +kernel
theorem dX1_init_15 : decode cX1_init 15 = .ok (.return_, 1) := by decide +kernel
theorem CF1 : CF yX1_init cX1_init 1 1 := ⟨by decide +kernel, ⟨List.mem_append_right _ (List.mem_of_getElem? (i := 245) (by decide +kernel)), by decide +kernel⟩, ⟨List.mem_append_right _ (List.mem_of_getElem? (i := 8) (by decide +kernel)), by decide +kernel⟩, ⟨List.mem_append_right _ (List.mem_of_getElem? (i := 244) (by decide +kernel)), by decide +kernel⟩, rfl, ⟨by decide +kernel, by decide +kernel, by decide +kernel⟩, rfl, by decide, by decide⟩
theorem cl1 (hs : ShL E a lCo) : CtM l E yX1_init cX1_init 1 3 a 10 56 (fun I J P => I = IL a [[], [], [], [], [], [], [], [], [], [], []] ∧ J = J0 ∧ P = PL a [[(0, 1)], [(6, 4), (5, 3), (4, 2)], [], [], [(0, 5), (1, 6), (2, 7), (3, 8), (4, 9), (5, 10)], [], [], [], [], [], []]) := by
  refine CtM.of CF1 (fun p e s m args below meth c C hin hret hAO hz ls hL hW => ?_)
  have hA : ∀ q, s.heap.size ≤ q → a ≤ q := fun q h => by omega
  have hA2 : ∀ q, a ≤ q → a ≤ q := fun q h => h
  have hb : ∀ (α : Type) (k : Nat), ([[]] : DL α).getD k [] = [] := fun α k => by cases k <;> rfl
  rw [← IL_nil (a := a) (d := [[]]) (hb Int32), ← PL_nil (a := a) (d := [[]]) (hb Nat)] at hW
  refine sg_lod (C.es (n' := 1)) dX1_init_0 rfl hL rfl rfl ?_
  refine gr_obj (C.es (n' := 1)) hL ⟨List.mem_append_right _ (List.mem_of_getElem? (i := 246) (by decide +kernel)), by decide +kernel⟩ cObI cObC (Nat.le_of_ble_eq_true rfl) ⟨by show 1 ≤ 3; decide, by show 20 ≤ 60 * 3 + 20; decide⟩ dX1_init_1 ?_
  refine sg_lod (C.es (n' := 1)) dX1_init_4 rfl hL rfl rfl ?_
  refine gr_newO2 (n := 1) (k := 0) C.es (by decide) (by decide) (by omega) (hs 1 _ _ rfl).1 (IL_end (by decide)) rfl (PL_end (by decide)) ⟨List.mem_append_right _ (List.mem_of_getElem? (i := 247) (by decide +kernel)), by decide +kernel⟩ ⟨List.mem_append_right _ (List.mem_of_getElem? (i := 203) (by decide +kernel)), by decide +kernel⟩ ⟨List.mem_append_right _ (List.mem_of_getElem? (i := 7) (by decide +kernel)), by decide +kernel⟩ hA ⟨by show 1 ≤ 10; decide, by show 8 ≤ 56; decide⟩ dX1_init_5 hW (fun H hW => ?_)
  have hW : Wd (Es E a 2) (fun q => a ≤ q) s.heap (IL a [[], []]) J0 (PL a [[], []]) H [] := by
    rw [IL_new, PL_new] at hW; exact hW
  refine sg_alu (C.es (n' := 2)) dX1_init_8 rfl rfl ?_
  refine gr_ctor (n := 1) (k := 9) (sl := 48) (d := 1) (C.es (n' := 2)) hAO hL CF0 (cl0 (shl_sub hs (q := 1) (by decide))) (by omega) (by rw [show IL a [[], []] = IL a [[]] from (IL_new (d := [[]])).symm]; exact IL_end (by decide)) rfl (by rw [show PL a [[], []] = PL a [[]] from (PL_new (d := [[]])).symm]; exact PL_end (by decide)) ⟨List.mem_append_right _ (List.mem_of_getElem? (i := 248) (by decide +kernel)), by decide +kernel⟩ hA2 (Nat.le_of_ble_eq_true rfl) ⟨by show _ ≤ 3; decide, by show _ ≤ 60 * 3 + 20; decide⟩ ⟨by show 10 ≤ 10; decide, by show 56 ≤ 56; decide⟩ dX1_init_9 hW (fun I1 J1 P1 H locs hF hW => ?_)
  obtain ⟨rfl, rfl, rfl⟩ := hF
  have hW : Wd (Es E a 11) (fun q => a ≤ q) s.heap (IL a [[], [], [], [], [], [], [], [], [], [], []]) J0 (PL a [[], [(6, 4), (5, 3), (4, 2)], [], [], [(0, 5), (1, 6), (2, 7), (3, 8), (4, 9), (5, 10)], [], [], [], [], [], []]) H locs := by
    rw [show IL a [[], []] = IL a [[]] from (IL_new (d := [[]])).symm, show PL a [[], []] = PL a [[]] from (PL_new (d := [[]])).symm, IL_mrg (by rfl), PL_mrg (by rfl), J0_mrg] at hW; exact hW
  refine gr_putR (E := Es E a 11) (a' := a) (b := a + 1) C.es hin dX1_init_12 rfl (show eS E a 11 a = 1 from (eS_in (Nat.le_refl _) (by omega)).trans (hs 0 _ _ rfl).1) rfl rfl rfl rfl hW (fun H locs hW => ?_)
  have hW : Wd (Es E a 11) (fun q => a ≤ q) s.heap (IL a [[], [], [], [], [], [], [], [], [], [], []]) J0 (PL a [[(0, 1)], [(6, 4), (5, 3), (4, 2)], [], [], [(0, 5), (1, 6), (2, 7), (3, 8), (4, 9), (5, 10)], [], [], [], [], [], []]) H locs := by
    have e := PL_put (a := a) (k := 0) (j := 0) (v := 1) (d := [[], [(6, 4), (5, 3), (4, 2)], [], [], [(0, 5), (1, 6), (2, 7), (3, 8), (4, 9), (5, 10)], [], [], [], [], [], []]) (by decide); rw [Nat.add_zero] at e; rw [e] at hW; exact hW
  exact gr_ret (k := 10) C.es hret ⟨rfl, rfl, rfl⟩ hW dX1_init_15
theorem dX3_init_0 : decode cX3_init 0 = .ok (.aload_n 0, 1) := by decide +kernel
theorem dX3_init_1 : decode cX3_init 1 = .ok (.invokespecial 3, 3) := by decide +kernel
theorem dX3_init_4 : decode cX3_init 4 = .ok (.aload_n 0, 1) := by decide +kernel
theorem dX3_init_5 : decode cX3_init 5 = .ok (.new 9, 3) := by decide +kernel
theorem dX3_init_8 : decode cX3_init 8 = .ok (.dup, 1) := by decide +kernel
theorem dX3_init_9 : decode cX3_init 9 = .ok (.invokespecial 11, 3) := by decide +kernel
theorem dX3_init_12 : decode cX3_init 12 = .ok (.putfield 12, 3) := by decide +kernel
theorem dX3_init_15 : decode cX3_init 15 = .ok (.return_, 1) := by decide +kernel
theorem CF3 : CF yX3_init cX3_init 1 3 := ⟨by decide +kernel, ⟨List.mem_append_right _ (List.mem_of_getElem? (i := 278) (by decide +kernel)), by decide +kernel⟩, ⟨List.mem_append_right _ (List.mem_of_getElem? (i := 9) (by decide +kernel)), by decide +kernel⟩, ⟨List.mem_append_right _ (List.mem_of_getElem? (i := 277) (by decide +kernel)), by decide +kernel⟩, rfl, ⟨by decide +kernel, by decide +kernel, by decide +kernel⟩, rfl, by decide, by decide⟩
theorem cl3 (hs : ShL E a lEx) : CtM l E yX3_init cX3_init 1 3 a 10 56 (fun I J P => I = IL a [[], [], [], [], [], [], [], [], [], [], []] ∧ J = J0 ∧ P = PL a [[(0, 1)], [(6, 4), (5, 3), (4, 2)], [], [], [(0, 5), (1, 6), (2, 7), (3, 8), (4, 9), (5, 10)], [], [], [], [], [], []]) := by
  refine CtM.of CF3 (fun p e s m args below meth c C hin hret hAO hz ls hL hW => ?_)
  have hA : ∀ q, s.heap.size ≤ q → a ≤ q := fun q h => by omega
  have hA2 : ∀ q, a ≤ q → a ≤ q := fun q h => h
  have hb : ∀ (α : Type) (k : Nat), ([[]] : DL α).getD k [] = [] := fun α k => by cases k <;> rfl
  rw [← IL_nil (a := a) (d := [[]]) (hb Int32), ← PL_nil (a := a) (d := [[]]) (hb Nat)] at hW
  refine sg_lod (C.es (n' := 1)) dX3_init_0 rfl hL rfl rfl ?_
  refine gr_obj (C.es (n' := 1)) hL ⟨List.mem_append_right _ (List.mem_of_getElem? (i := 279) (by decide +kernel)), by decide +kernel⟩ cObI cObC (Nat.le_of_ble_eq_true rfl) ⟨by show 1 ≤ 3; decide, by show 20 ≤ 60 * 3 + 20; decide⟩ dX3_init_1 ?_
  refine sg_lod (C.es (n' := 1)) dX3_init_4 rfl hL rfl rfl ?_
  refine gr_newO2 (n := 1) (k := 0) C.es (by decide) (by decide) (by omega) (hs 1 _ _ rfl).1 (IL_end (by decide)) rfl (PL_end (by decide)) ⟨List.mem_append_right _ (List.mem_of_getElem? (i := 280) (by decide +kernel)), by decide +kernel⟩ ⟨List.mem_append_right _ (List.mem_of_getElem? (i := 203) (by decide +kernel)), by decide +kernel⟩ ⟨List.mem_append_right _ (List.mem_of_getElem? (i := 7) (by decide +kernel)), by decide +kernel⟩ hA ⟨by show 1 ≤ 10; decide, by show 8 ≤ 56; decide⟩ dX3_init_5 hW (fun H hW => ?_)
  have hW : Wd (Es E a 2) (fun q => a ≤ q) s.heap (IL a [[], []]) J0 (PL a [[], []]) H [] := by
    rw [IL_new, PL_new] at hW; exact hW
  refine sg_alu (C.es (n' := 2)) dX3_init_8 rfl rfl ?_
  refine gr_ctor (n := 1) (k := 9) (sl := 48) (d := 1) (C.es (n' := 2)) hAO hL CF0 (cl0 (shl_sub hs (q := 1) (by decide))) (by omega) (by rw [show IL a [[], []] = IL a [[]] from (IL_new (d := [[]])).symm]; exact IL_end (by decide)) rfl (by rw [show PL a [[], []] = PL a [[]] from (PL_new (d := [[]])).symm]; exact PL_end (by decide)) ⟨List.mem_append_right _ (List.mem_of_getElem? (i := 281) (by decide +kernel)), by decide +kernel⟩ hA2 (Nat.le_of_ble_eq_true rfl) ⟨by show _ ≤ 3; decide, by show _ ≤ 60 * 3 + 20; decide⟩ ⟨by show 10 ≤ 10; decide, by show 56 ≤ 56; decide⟩ dX3_init_9 hW (fun I1 J1 P1 H locs hF hW => ?_)
  obtain ⟨rfl, rfl, rfl⟩ := hF
  have hW : Wd (Es E a 11) (fun q => a ≤ q) s.heap (IL a [[], [], [], [], [], [], [], [], [], [], []]) J0 (PL a [[], [(6, 4), (5, 3), (4, 2)], [], [], [(0, 5), (1, 6), (2, 7), (3, 8), (4, 9), (5, 10)], [], [], [], [], [], []]) H locs := by
    rw [show IL a [[], []] = IL a [[]] from (IL_new (d := [[]])).symm, show PL a [[], []] = PL a [[]] from (PL_new (d := [[]])).symm, IL_mrg (by rfl), PL_mrg (by rfl), J0_mrg] at hW; exact hW
  refine gr_putR (E := Es E a 11) (a' := a) (b := a + 1) C.es hin dX3_init_12 rfl (show eS E a 11 a = 3 from (eS_in (Nat.le_refl _) (by omega)).trans (hs 0 _ _ rfl).1) rfl rfl rfl rfl hW (fun H locs hW => ?_)
  have hW : Wd (Es E a 11) (fun q => a ≤ q) s.heap (IL a [[], [], [], [], [], [], [], [], [], [], []]) J0 (PL a [[(0, 1)], [(6, 4), (5, 3), (4, 2)], [], [], [(0, 5), (1, 6), (2, 7), (3, 8), (4, 9), (5, 10)], [], [], [], [], [], []]) H locs := by
    have e := PL_put (a := a) (k := 0) (j := 0) (v := 1) (d := [[], [(6, 4), (5, 3), (4, 2)], [], [], [(0, 5), (1, 6), (2, 7), (3, 8), (4, 9), (5, 10)], [], [], [], [], [], []]) (by decide); rw [Nat.add_zero] at e; rw [e] at hW; exact hW
  exact gr_ret (k := 10) C.es hret ⟨rfl, rfl, rfl⟩ hW dX3_init_15
theorem dX9_init_0 : decode cX9_init 0 = .ok (.aload_n 0, 1) := by decide +kernel
theorem dX9_init_1 : decode cX9_init 1 = .ok (.invokespecial 1, 3) := by decide +kernel
theorem dX9_init_4 : decode cX9_init 4 = .ok (.aload_n 0, 1) := by decide +kernel
theorem dX9_init_5 : decode cX9_init 5 = .ok (.bipush 89, 2) := by decide +kernel
theorem dX9_init_7 : decode cX9_init 7 = .ok (.newarray .int, 2) := by decide +kernel
theorem dX9_init_9 : decode cX9_init 9 = .ok (.putfield 7, 3) := by decide +kernel
theorem dX9_init_12 : decode cX9_init 12 = .ok (.aload_n 0, 1) := by decide +kernel
theorem dX9_init_13 : decode cX9_init 13 = .ok (.bipush 36, 2) := by decide +kernel
theorem dX9_init_15 : decode cX9_init 15 = .ok (.newarray .long, 2) := by decide +kernel
theorem dX9_init_17 : decode cX9_init 17 = .ok (.putfield 13, 3) := by decide +kernel
theorem dX9_init_20 : decode cX9_init 20 = .ok (.aload_n 0, 1) := by decide +kernel
theorem dX9_init_21 : decode cX9_init 21 = .ok (.bipush 89, 2) := by decide +kernel
theorem dX9_init_23 : decode cX9_init 23 = .ok (.newarray .int, 2) := by decide +kernel
theorem dX9_init_25 : decode cX9_init 25 = .ok (.putfield 17, 3) := by decide +kernel
theorem dX9_init_28 : decode cX9_init 28 = .ok (.aload_n 0, 1) := by decide +kernel
theorem dX9_init_29 : decode cX9_init 29 = .ok (.bipush 36, 2) := by decide +kernel
theorem dX9_init_31 : decode cX9_init 31 = .ok (.newarray .long, 2) := by decide +kernel
theorem dX9_init_33 : decode cX9_init 33 = .ok (.putfield 20, 3) := by decide +kernel
theorem dX9_init_36 : decode cX9_init 36 = .ok (.aload_n 0, 1) := by decide +kernel
theorem dX9_init_37 : decode cX9_init 37 = .ok (.sipush 534, 3) := by decide +kernel
theorem dX9_init_40 : decode cX9_init 40 = .ok (.newarray .int, 2) := by decide +kernel
theorem dX9_init_42 : decode cX9_init 42 = .ok (.putfield 23, 3) := by decide +kernel
theorem dX9_init_45 : decode cX9_init 45 = .ok (.aload_n 0, 1) := by decide +kernel
theorem dX9_init_46 : decode cX9_init 46 = .ok (.sipush 216, 3) := by decide +kernel
theorem dX9_init_49 : decode cX9_init 49 = .ok (.newarray .long, 2) := by decide +kernel
theorem dX9_init_51 : decode cX9_init 51 = .ok (.putfield 26, 3) := by decide +kernel
theorem dX9_init_54 : decode cX9_init 54 = .ok (.aload_n 0, 1) := by decide +kernel
theorem dX9_init_55 : decode cX9_init 55 = .ok (.bipush 80, 2) := by decide +kernel
theorem dX9_init_57 : decode cX9_init 57 = .ok (.newarray .int, 2) := by decide +kernel
theorem dX9_init_59 : decode cX9_init 59 = .ok (.putfield 29, 3) := by decide +kernel
theorem dX9_init_62 : decode cX9_init 62 = .ok (.aload_n 0, 1) := by decide +kernel
theorem dX9_init_63 : decode cX9_init 63 = .ok (.iconst (-1), 1) := by decide +kernel
theorem dX9_init_64 : decode cX9_init 64 = .ok (.putfield 32, 3) := by decide +kernel
theorem dX9_init_67 : decode cX9_init 67 = .ok (.aload_n 0, 1) := by decide +kernel
theorem dX9_init_68 : decode cX9_init 68 = .ok (.bipush 89, 2) := by decide +kernel
theorem dX9_init_70 : decode cX9_init 70 = .ok (.newarray .int, 2) := by decide +kernel
theorem dX9_init_72 : decode cX9_init 72 = .ok (.putfield 36, 3) := by decide +kernel
theorem dX9_init_75 : decode cX9_init 75 = .ok (.aload_n 0, 1) := by decide +kernel
theorem dX9_init_76 : decode cX9_init 76 = .ok (.bipush 6, 2) := by decide +kernel
theorem dX9_init_78 : decode cX9_init 78 = .ok (.newarray .long, 2) := by decide +kernel
theorem dX9_init_80 : decode cX9_init 80 = .ok (.putfield 39, 3) := by decide +kernel
theorem dX9_init_83 : decode cX9_init 83 = .ok (.aload_n 0, 1) := by decide +kernel
theorem dX9_init_84 : decode cX9_init 84 = .ok (.bipush 6, 2) := by decide +kernel
theorem dX9_init_86 : decode cX9_init 86 = .ok (.newarray .long, 2) := by decide +kernel
theorem dX9_init_88 : decode cX9_init 88 = .ok (.putfield 42, 3) := by decide +kernel
theorem dX9_init_91 : decode cX9_init 91 = .ok (.aload_n 0, 1) := by decide +kernel
theorem dX9_init_92 : decode cX9_init 92 = .ok (.bipush 6, 2) := by decide +kernel
theorem dX9_init_94 : decode cX9_init 94 = .ok (.newarray .long, 2) := by decide +kernel
theorem dX9_init_96 : decode cX9_init 96 = .ok (.putfield 45, 3) := by decide +kernel
theorem dX9_init_99 : decode cX9_init 99 = .ok (.aload_n 0, 1) := by decide +kernel
theorem dX9_init_100 : decode cX9_init 100 = .ok (.bipush 6, 2) := by decide +kernel
theorem dX9_init_102 : decode cX9_init 102 = .ok (.newarray .long, 2) := by decide +kernel
theorem dX9_init_104 : decode cX9_init 104 = .ok (.putfield 48, 3) := by decide +kernel
theorem dX9_init_107 : decode cX9_init 107 = .ok (.aload_n 0, 1) := by decide +kernel
theorem dX9_init_108 : decode cX9_init 108 = .ok (.bipush 6, 2) := by decide +kernel
theorem dX9_init_110 : decode cX9_init 110 = .ok (.newarray .long, 2) := by decide +kernel
theorem dX9_init_112 : decode cX9_init 112 = .ok (.putfield 51, 3) := by decide +kernel
theorem dX9_init_115 : decode cX9_init 115 = .ok (.aload_n 0, 1) := by decide +kernel
theorem dX9_init_116 : decode cX9_init 116 = .ok (.bipush 36, 2) := by decide +kernel
theorem dX9_init_118 : decode cX9_init 118 = .ok (.newarray .long, 2) := by decide +kernel
theorem dX9_init_120 : decode cX9_init 120 = .ok (.putfield 54, 3) := by decide +kernel
theorem dX9_init_123 : decode cX9_init 123 = .ok (.aload_n 0, 1) := by decide +kernel
theorem dX9_init_124 : decode cX9_init 124 = .ok (.getfield 7, 3) := by decide +kernel
theorem dX9_init_127 : decode cX9_init 127 = .ok (.iconst 0, 1) := by decide +kernel
theorem dX9_init_128 : decode cX9_init 128 = .ok (.iconst 1, 1) := by decide +kernel
theorem dX9_init_129 : decode cX9_init 129 = .ok (.iastore, 1) := by decide +kernel
theorem dX9_init_130 : decode cX9_init 130 = .ok (.iconst 0, 1) := by decide +kernel
theorem dX9_init_131 : decode cX9_init 131 = .ok (.istore_n 1, 1) := by decide +kernel
theorem dX9_init_132 : decode cX9_init 132 = .ok (.iload_n 1, 1) := by decide +kernel
theorem dX9_init_133 : decode cX9_init 133 = .ok (.bipush 6, 2) := by decide +kernel
theorem dX9_init_135 : decode cX9_init 135 = .ok (.if_icmp .ge 19, 3) := by decide +kernel
theorem dX9_init_138 : decode cX9_init 138 = .ok (.aload_n 0, 1) := by decide +kernel
theorem dX9_init_139 : decode cX9_init 139 = .ok (.getfield 7, 3) := by decide +kernel
theorem dX9_init_142 : decode cX9_init 142 = .ok (.bipush 82, 2) := by decide +kernel
theorem dX9_init_144 : decode cX9_init 144 = .ok (.iload_n 1, 1) := by decide +kernel
theorem dX9_init_145 : decode cX9_init 145 = .ok (.iadd, 1) := by decide +kernel
theorem dX9_init_146 : decode cX9_init 146 = .ok (.iconst (-1), 1) := by decide +kernel
theorem dX9_init_147 : decode cX9_init 147 = .ok (.iastore, 1) := by decide +kernel
theorem dX9_init_148 : decode cX9_init 148 = .ok (.iinc 1 1, 3) := by decide +kernel
theorem dX9_init_151 : decode cX9_init 151 = .ok (.goto (-19), 3) := by decide +kernel
theorem dX9_init_154 : decode cX9_init 154 = .ok (.return_, 1) := by decide +kernel
theorem CF9 : CF yX9_init cX9_init 2 9 := ⟨by decide +kernel, ⟨List.mem_append_right _ (List.mem_of_getElem? (i := 993) (by decide +kernel)), by decide +kernel⟩, ⟨List.mem_append_right _ (List.mem_of_getElem? (i := 10) (by decide +kernel)), by decide +kernel⟩, ⟨List.mem_append_right _ (List.mem_of_getElem? (i := 992) (by decide +kernel)), by decide +kernel⟩, rfl, ⟨by decide +kernel, by decide +kernel, by decide +kernel⟩, rfl, by decide, by decide⟩
theorem cl9 (hs : ShL E a lMd) : CtM l E yX9_init cX9_init 2 1 a 14 1235 (fun I J P => I = IL a [[(13, (-1))], [(87, (-1)), (86, (-1)), (85, (-1)), (84, (-1)), (83, (-1)), (82, (-1)), (0, 1)], [], [], [], [], [], [], [], [], [], [], [], [], []] ∧ J = J0 ∧ P = PL a [[(22, 14), (20, 13), (19, 12), (18, 11), (17, 10), (16, 9), (15, 8), (9, 7), (6, 6), (5, 5), (3, 4), (2, 3), (1, 2), (0, 1)], [], [], [], [], [], [], [], [], [], [], [], [], [], []]) := by
  refine CtM.of CF9 (fun p e s m args below meth c C hin hret hAO hz ls hL hW => ?_)
  have hA : ∀ q, s.heap.size ≤ q → a ≤ q := fun q h => by omega
  have hA2 : ∀ q, a ≤ q → a ≤ q := fun q h => h
  have hb : ∀ (α : Type) (k : Nat), ([[]] : DL α).getD k [] = [] := fun α k => by cases k <;> rfl
  rw [← IL_nil (a := a) (d := [[]]) (hb Int32), ← PL_nil (a := a) (d := [[]]) (hb Nat)] at hW
  refine sg_lod (C.es (n' := 1)) dX9_init_0 rfl hL rfl rfl ?_
  refine gr_obj (C.es (n' := 1)) hL ⟨List.mem_append_right _ (List.mem_of_getElem? (i := 994) (by decide +kernel)), by decide +kernel⟩ cObI cObC (Nat.le_of_ble_eq_true rfl) ⟨by show 1 ≤ 1; decide, by show 20 ≤ 60 * 1 + 20; decide⟩ dX9_init_1 ?_
  refine sg_lod (C.es (n' := 1)) dX9_init_4 rfl hL rfl rfl ?_
  refine sg_alu (C.es (n' := 1)) dX9_init_5 rfl rfl ?_
  refine gr_newI2 (n := 1) C.es (by decide) (by omega) (hs 1 _ _ rfl).1 (hs 1 _ _ rfl).2 (IL_end (by decide)) cArI hA (by decide) (by decide) (by decide) ⟨by show 1 ≤ 14; decide, by show 89 ≤ 1235; decide⟩ dX9_init_7 hW (fun H hW => ?_)
  have hW : Wd (Es E a 2) (fun q => a ≤ q) s.heap (IL a [[], []]) J0 (PL a [[], []]) H [] := by
    rw [IL_new, PL_new] at hW; exact hW
  refine gr_putR (E := Es E a 2) (a' := a) (b := a + 1) C.es hin dX9_init_9 rfl (show eS E a 2 a = 9 from (eS_in (Nat.le_refl _) (by omega)).trans (hs 0 _ _ rfl).1) rfl rfl rfl rfl hW (fun H locs hW => ?_)
  have hW : Wd (Es E a 2) (fun q => a ≤ q) s.heap (IL a [[], []]) J0 (PL a [[(0, 1)], []]) H locs := by
    have e := PL_put (a := a) (k := 0) (j := 0) (v := 1) (d := [[], []]) (by decide); rw [Nat.add_zero] at e; rw [e] at hW; exact hW
  refine sg_lod (C.es (n' := 2)) dX9_init_12 rfl hL rfl rfl ?_
  refine sg_alu (C.es (n' := 2)) dX9_init_13 rfl rfl ?_
  refine gr_newJ2 (n := 2) C.es (by decide) (by omega) (hs 2 _ _ rfl).1 (hs 2 _ _ rfl).2 rfl cArJ hA (by decide) (by decide) (by decide) ⟨by show 2 ≤ 14; decide, by show 125 ≤ 1235; decide⟩ dX9_init_15 hW (fun H hW => ?_)
  have hW : Wd (Es E a 3) (fun q => a ≤ q) s.heap (IL a [[], [], []]) J0 (PL a [[(0, 1)], [], []]) H locs := by
    rw [IL_new, PL_new] at hW; exact hW
  refine gr_putR (E := Es E a 3) (a' := a) (b := a + 2) C.es hin dX9_init_17 rfl (show eS E a 3 a = 9 from (eS_in (Nat.le_refl _) (by omega)).trans (hs 0 _ _ rfl).1) rfl rfl rfl rfl hW (fun H locs hW => ?_)
  have hW : Wd (Es E a 3) (fun q => a ≤ q) s.heap (IL a [[], [], []]) J0 (PL a [[(1, 2), (0, 1)], [], []]) H locs := by
    have e := PL_put (a := a) (k := 0) (j := 1) (v := 2) (d := [[(0, 1)], [], []]) (by decide); rw [Nat.add_zero] at e; rw [e] at hW; exact hW
  refine sg_lod (C.es (n' := 3)) dX9_init_20 rfl hL rfl rfl ?_
  refine sg_alu (C.es (n' := 3)) dX9_init_21 rfl rfl ?_
  refine gr_newI2 (n := 3) C.es (by decide) (by omega) (hs 3 _ _ rfl).1 (hs 3 _ _ rfl).2 (IL_end (by decide)) cArI hA (by decide) (by decide) (by decide) ⟨by show 3 ≤ 14; decide, by show 214 ≤ 1235; decide⟩ dX9_init_23 hW (fun H hW => ?_)
  have hW : Wd (Es E a 4) (fun q => a ≤ q) s.heap (IL a [[], [], [], []]) J0 (PL a [[(1, 2), (0, 1)], [], [], []]) H locs := by
    rw [IL_new, PL_new] at hW; exact hW
  refine gr_putR (E := Es E a 4) (a' := a) (b := a + 3) C.es hin dX9_init_25 rfl (show eS E a 4 a = 9 from (eS_in (Nat.le_refl _) (by omega)).trans (hs 0 _ _ rfl).1) rfl rfl rfl rfl hW (fun H locs hW => ?_)
  have hW : Wd (Es E a 4) (fun q => a ≤ q) s.heap (IL a [[], [], [], []]) J0 (PL a [[(2, 3), (1, 2), (0, 1)], [], [], []]) H locs := by
    have e := PL_put (a := a) (k := 0) (j := 2) (v := 3) (d := [[(1, 2), (0, 1)], [], [], []]) (by decide); rw [Nat.add_zero] at e; rw [e] at hW; exact hW
  refine sg_lod (C.es (n' := 4)) dX9_init_28 rfl hL rfl rfl ?_
  refine sg_alu (C.es (n' := 4)) dX9_init_29 rfl rfl ?_
  refine gr_newJ2 (n := 4) C.es (by decide) (by omega) (hs 4 _ _ rfl).1 (hs 4 _ _ rfl).2 rfl cArJ hA (by decide) (by decide) (by decide) ⟨by show 4 ≤ 14; decide, by show 250 ≤ 1235; decide⟩ dX9_init_31 hW (fun H hW => ?_)
  have hW : Wd (Es E a 5) (fun q => a ≤ q) s.heap (IL a [[], [], [], [], []]) J0 (PL a [[(2, 3), (1, 2), (0, 1)], [], [], [], []]) H locs := by
    rw [IL_new, PL_new] at hW; exact hW
  refine gr_putR (E := Es E a 5) (a' := a) (b := a + 4) C.es hin dX9_init_33 rfl (show eS E a 5 a = 9 from (eS_in (Nat.le_refl _) (by omega)).trans (hs 0 _ _ rfl).1) rfl rfl rfl rfl hW (fun H locs hW => ?_)
  have hW : Wd (Es E a 5) (fun q => a ≤ q) s.heap (IL a [[], [], [], [], []]) J0 (PL a [[(3, 4), (2, 3), (1, 2), (0, 1)], [], [], [], []]) H locs := by
    have e := PL_put (a := a) (k := 0) (j := 3) (v := 4) (d := [[(2, 3), (1, 2), (0, 1)], [], [], [], []]) (by decide); rw [Nat.add_zero] at e; rw [e] at hW; exact hW
  refine sg_lod (C.es (n' := 5)) dX9_init_36 rfl hL rfl rfl ?_
  refine sg_alu (C.es (n' := 5)) dX9_init_37 rfl rfl ?_
  refine gr_newI2 (n := 5) C.es (by decide) (by omega) (hs 5 _ _ rfl).1 (hs 5 _ _ rfl).2 (IL_end (by decide)) cArI hA (by decide) (by decide) (by decide) ⟨by show 5 ≤ 14; decide, by show 784 ≤ 1235; decide⟩ dX9_init_40 hW (fun H hW => ?_)
  have hW : Wd (Es E a 6) (fun q => a ≤ q) s.heap (IL a [[], [], [], [], [], []]) J0 (PL a [[(3, 4), (2, 3), (1, 2), (0, 1)], [], [], [], [], []]) H locs := by
    rw [IL_new, PL_new] at hW; exact hW
  refine gr_putR (E := Es E a 6) (a' := a) (b := a + 5) C.es hin dX9_init_42 rfl (show eS E a 6 a = 9 from (eS_in (Nat.le_refl _) (by omega)).trans (hs 0 _ _ rfl).1) rfl rfl rfl rfl hW (fun H locs hW => ?_)
  have hW : Wd (Es E a 6) (fun q => a ≤ q) s.heap (IL a [[], [], [], [], [], []]) J0 (PL a [[(5, 5), (3, 4), (2, 3), (1, 2), (0, 1)], [], [], [], [], []]) H locs := by
    have e := PL_put (a := a) (k := 0) (j := 5) (v := 5) (d := [[(3, 4), (2, 3), (1, 2), (0, 1)], [], [], [], [], []]) (by decide); rw [Nat.add_zero] at e; rw [e] at hW; exact hW
  refine sg_lod (C.es (n' := 6)) dX9_init_45 rfl hL rfl rfl ?_
  refine sg_alu (C.es (n' := 6)) dX9_init_46 rfl rfl ?_
  refine gr_newJ2 (n := 6) C.es (by decide) (by omega) (hs 6 _ _ rfl).1 (hs 6 _ _ rfl).2 rfl cArJ hA (by decide) (by decide) (by decide) ⟨by show 6 ≤ 14; decide, by show 1000 ≤ 1235; decide⟩ dX9_init_49 hW (fun H hW => ?_)
  have hW : Wd (Es E a 7) (fun q => a ≤ q) s.heap (IL a [[], [], [], [], [], [], []]) J0 (PL a [[(5, 5), (3, 4), (2, 3), (1, 2), (0, 1)], [], [], [], [], [], []]) H locs := by
    rw [IL_new, PL_new] at hW; exact hW
  refine gr_putR (E := Es E a 7) (a' := a) (b := a + 6) C.es hin dX9_init_51 rfl (show eS E a 7 a = 9 from (eS_in (Nat.le_refl _) (by omega)).trans (hs 0 _ _ rfl).1) rfl rfl rfl rfl hW (fun H locs hW => ?_)
  have hW : Wd (Es E a 7) (fun q => a ≤ q) s.heap (IL a [[], [], [], [], [], [], []]) J0 (PL a [[(6, 6), (5, 5), (3, 4), (2, 3), (1, 2), (0, 1)], [], [], [], [], [], []]) H locs := by
    have e := PL_put (a := a) (k := 0) (j := 6) (v := 6) (d := [[(5, 5), (3, 4), (2, 3), (1, 2), (0, 1)], [], [], [], [], [], []]) (by decide); rw [Nat.add_zero] at e; rw [e] at hW; exact hW
  refine sg_lod (C.es (n' := 7)) dX9_init_54 rfl hL rfl rfl ?_
  refine sg_alu (C.es (n' := 7)) dX9_init_55 rfl rfl ?_
  refine gr_newI2 (n := 7) C.es (by decide) (by omega) (hs 7 _ _ rfl).1 (hs 7 _ _ rfl).2 (IL_end (by decide)) cArI hA (by decide) (by decide) (by decide) ⟨by show 7 ≤ 14; decide, by show 1080 ≤ 1235; decide⟩ dX9_init_57 hW (fun H hW => ?_)
  have hW : Wd (Es E a 8) (fun q => a ≤ q) s.heap (IL a [[], [], [], [], [], [], [], []]) J0 (PL a [[(6, 6), (5, 5), (3, 4), (2, 3), (1, 2), (0, 1)], [], [], [], [], [], [], []]) H locs := by
    rw [IL_new, PL_new] at hW; exact hW
  refine gr_putR (E := Es E a 8) (a' := a) (b := a + 7) C.es hin dX9_init_59 rfl (show eS E a 8 a = 9 from (eS_in (Nat.le_refl _) (by omega)).trans (hs 0 _ _ rfl).1) rfl rfl rfl rfl hW (fun H locs hW => ?_)
  have hW : Wd (Es E a 8) (fun q => a ≤ q) s.heap (IL a [[], [], [], [], [], [], [], []]) J0 (PL a [[(9, 7), (6, 6), (5, 5), (3, 4), (2, 3), (1, 2), (0, 1)], [], [], [], [], [], [], []]) H locs := by
    have e := PL_put (a := a) (k := 0) (j := 9) (v := 7) (d := [[(6, 6), (5, 5), (3, 4), (2, 3), (1, 2), (0, 1)], [], [], [], [], [], [], []]) (by decide); rw [Nat.add_zero] at e; rw [e] at hW; exact hW
  refine sg_lod (C.es (n' := 8)) dX9_init_62 rfl hL rfl rfl ?_
  refine sg_alu (C.es (n' := 8)) dX9_init_63 rfl rfl ?_
  refine sg_putf (E := Es E a 8) (a := a) C.es dX9_init_64 rfl (show eS E a 8 a = 9 from (eS_in (Nat.le_refl _) (by omega)).trans (hs 0 _ _ rfl).1) rfl rfl ⟨rfl, rfl, rfl⟩ hW (fun H locs hW => ?_)
  have hW : Wd (Es E a 8) (fun q => a ≤ q) s.heap (IL a [[(13, (-1))], [], [], [], [], [], [], []]) J0 (PL a [[(9, 7), (6, 6), (5, 5), (3, 4), (2, 3), (1, 2), (0, 1)], [], [], [], [], [], [], []]) H locs := by
    have e := IL_put (a := a) (k := 0) (j := 13) (v := (-1)) (d := [[], [], [], [], [], [], [], []]) (by decide); rw [Nat.add_zero] at e; exact e ▸ hW
  refine sg_lod (C.es (n' := 8)) dX9_init_67 rfl hL rfl rfl ?_
  refine sg_alu (C.es (n' := 8)) dX9_init_68 rfl rfl ?_
  refine gr_newI2 (n := 8) C.es (by decide) (by omega) (hs 8 _ _ rfl).1 (hs 8 _ _ rfl).2 (IL_end (by decide)) cArI hA (by decide) (by decide) (by decide) ⟨by show 8 ≤ 14; decide, by show 1169 ≤ 1235; decide⟩ dX9_init_70 hW (fun H hW => ?_)
  have hW : Wd (Es E a 9) (fun q => a ≤ q) s.heap (IL a [[(13, (-1))], [], [], [], [], [], [], [], []]) J0 (PL a [[(9, 7), (6, 6), (5, 5), (3, 4), (2, 3), (1, 2), (0, 1)], [], [], [], [], [], [], [], []]) H locs := by
    rw [IL_new, PL_new] at hW; exact hW
  refine gr_putR (E := Es E a 9) (a' := a) (b := a + 8) C.es hin dX9_init_72 rfl (show eS E a 9 a = 9 from (eS_in (Nat.le_refl _) (by omega)).trans (hs 0 _ _ rfl).1) rfl rfl rfl rfl hW (fun H locs hW => ?_)
  have hW : Wd (Es E a 9) (fun q => a ≤ q) s.heap (IL a [[(13, (-1))], [], [], [], [], [], [], [], []]) J0 (PL a [[(15, 8), (9, 7), (6, 6), (5, 5), (3, 4), (2, 3), (1, 2), (0, 1)], [], [], [], [], [], [], [], []]) H locs := by
    have e := PL_put (a := a) (k := 0) (j := 15) (v := 8) (d := [[(9, 7), (6, 6), (5, 5), (3, 4), (2, 3), (1, 2), (0, 1)], [], [], [], [], [], [], [], []]) (by decide); rw [Nat.add_zero] at e; rw [e] at hW; exact hW
  refine sg_lod (C.es (n' := 9)) dX9_init_75 rfl hL rfl rfl ?_
  refine sg_alu (C.es (n' := 9)) dX9_init_76 rfl rfl ?_
  refine gr_newJ2 (n := 9) C.es (by decide) (by omega) (hs 9 _ _ rfl).1 (hs 9 _ _ rfl).2 rfl cArJ hA (by decide) (by decide) (by decide) ⟨by show 9 ≤ 14; decide, by show 1175 ≤ 1235; decide⟩ dX9_init_78 hW (fun H hW => ?_)
  have hW : Wd (Es E a 10) (fun q => a ≤ q) s.heap (IL a [[(13, (-1))], [], [], [], [], [], [], [], [], []]) J0 (PL a [[(15, 8), (9, 7), (6, 6), (5, 5), (3, 4), (2, 3), (1, 2), (0, 1)], [], [], [], [], [], [], [], [], []]) H locs := by
    rw [IL_new, PL_new] at hW; exact hW
  refine gr_putR (E := Es E a 10) (a' := a) (b := a + 9) C.es hin dX9_init_80 rfl (show eS E a 10 a = 9 from (eS_in (Nat.le_refl _) (by omega)).trans (hs 0 _ _ rfl).1) rfl rfl rfl rfl hW (fun H locs hW => ?_)
  have hW : Wd (Es E a 10) (fun q => a ≤ q) s.heap (IL a [[(13, (-1))], [], [], [], [], [], [], [], [], []]) J0 (PL a [[(16, 9), (15, 8), (9, 7), (6, 6), (5, 5), (3, 4), (2, 3), (1, 2), (0, 1)], [], [], [], [], [], [], [], [], []]) H locs := by
    have e := PL_put (a := a) (k := 0) (j := 16) (v := 9) (d := [[(15, 8), (9, 7), (6, 6), (5, 5), (3, 4), (2, 3), (1, 2), (0, 1)], [], [], [], [], [], [], [], [], []]) (by decide); rw [Nat.add_zero] at e; rw [e] at hW; exact hW
  refine sg_lod (C.es (n' := 10)) dX9_init_83 rfl hL rfl rfl ?_
  refine sg_alu (C.es (n' := 10)) dX9_init_84 rfl rfl ?_
  refine gr_newJ2 (n := 10) C.es (by decide) (by omega) (hs 10 _ _ rfl).1 (hs 10 _ _ rfl).2 rfl cArJ hA (by decide) (by decide) (by decide) ⟨by show 10 ≤ 14; decide, by show 1181 ≤ 1235; decide⟩ dX9_init_86 hW (fun H hW => ?_)
  have hW : Wd (Es E a 11) (fun q => a ≤ q) s.heap (IL a [[(13, (-1))], [], [], [], [], [], [], [], [], [], []]) J0 (PL a [[(16, 9), (15, 8), (9, 7), (6, 6), (5, 5), (3, 4), (2, 3), (1, 2), (0, 1)], [], [], [], [], [], [], [], [], [], []]) H locs := by
    rw [IL_new, PL_new] at hW; exact hW
  refine gr_putR (E := Es E a 11) (a' := a) (b := a + 10) C.es hin dX9_init_88 rfl (show eS E a 11 a = 9 from (eS_in (Nat.le_refl _) (by omega)).trans (hs 0 _ _ rfl).1) rfl rfl rfl rfl hW (fun H locs hW => ?_)
  have hW : Wd (Es E a 11) (fun q => a ≤ q) s.heap (IL a [[(13, (-1))], [], [], [], [], [], [], [], [], [], []]) J0 (PL a [[(17, 10), (16, 9), (15, 8), (9, 7), (6, 6), (5, 5), (3, 4), (2, 3), (1, 2), (0, 1)], [], [], [], [], [], [], [], [], [], []]) H locs := by
    have e := PL_put (a := a) (k := 0) (j := 17) (v := 10) (d := [[(16, 9), (15, 8), (9, 7), (6, 6), (5, 5), (3, 4), (2, 3), (1, 2), (0, 1)], [], [], [], [], [], [], [], [], [], []]) (by decide); rw [Nat.add_zero] at e; rw [e] at hW; exact hW
  refine sg_lod (C.es (n' := 11)) dX9_init_91 rfl hL rfl rfl ?_
  refine sg_alu (C.es (n' := 11)) dX9_init_92 rfl rfl ?_
  refine gr_newJ2 (n := 11) C.es (by decide) (by omega) (hs 11 _ _ rfl).1 (hs 11 _ _ rfl).2 rfl cArJ hA (by decide) (by decide) (by decide) ⟨by show 11 ≤ 14; decide, by show 1187 ≤ 1235; decide⟩ dX9_init_94 hW (fun H hW => ?_)
  have hW : Wd (Es E a 12) (fun q => a ≤ q) s.heap (IL a [[(13, (-1))], [], [], [], [], [], [], [], [], [], [], []]) J0 (PL a [[(17, 10), (16, 9), (15, 8), (9, 7), (6, 6), (5, 5), (3, 4), (2, 3), (1, 2), (0, 1)], [], [], [], [], [], [], [], [], [], [], []]) H locs := by
    rw [IL_new, PL_new] at hW; exact hW
  refine gr_putR (E := Es E a 12) (a' := a) (b := a + 11) C.es hin dX9_init_96 rfl (show eS E a 12 a = 9 from (eS_in (Nat.le_refl _) (by omega)).trans (hs 0 _ _ rfl).1) rfl rfl rfl rfl hW (fun H locs hW => ?_)
  have hW : Wd (Es E a 12) (fun q => a ≤ q) s.heap (IL a [[(13, (-1))], [], [], [], [], [], [], [], [], [], [], []]) J0 (PL a [[(18, 11), (17, 10), (16, 9), (15, 8), (9, 7), (6, 6), (5, 5), (3, 4), (2, 3), (1, 2), (0, 1)], [], [], [], [], [], [], [], [], [], [], []]) H locs := by
    have e := PL_put (a := a) (k := 0) (j := 18) (v := 11) (d := [[(17, 10), (16, 9), (15, 8), (9, 7), (6, 6), (5, 5), (3, 4), (2, 3), (1, 2), (0, 1)], [], [], [], [], [], [], [], [], [], [], []]) (by decide); rw [Nat.add_zero] at e; rw [e] at hW; exact hW
  refine sg_lod (C.es (n' := 12)) dX9_init_99 rfl hL rfl rfl ?_
  refine sg_alu (C.es (n' := 12)) dX9_init_100 rfl rfl ?_
  refine gr_newJ2 (n := 12) C.es (by decide) (by omega) (hs 12 _ _ rfl).1 (hs 12 _ _ rfl).2 rfl cArJ hA (by decide) (by decide) (by decide) ⟨by show 12 ≤ 14; decide, by show 1193 ≤ 1235; decide⟩ dX9_init_102 hW (fun H hW => ?_)
  have hW : Wd (Es E a 13) (fun q => a ≤ q) s.heap (IL a [[(13, (-1))], [], [], [], [], [], [], [], [], [], [], [], []]) J0 (PL a [[(18, 11), (17, 10), (16, 9), (15, 8), (9, 7), (6, 6), (5, 5), (3, 4), (2, 3), (1, 2), (0, 1)], [], [], [], [], [], [], [], [], [], [], [], []]) H locs := by
    rw [IL_new, PL_new] at hW; exact hW
  refine gr_putR (E := Es E a 13) (a' := a) (b := a + 12) C.es hin dX9_init_104 rfl (show eS E a 13 a = 9 from (eS_in (Nat.le_refl _) (by omega)).trans (hs 0 _ _ rfl).1) rfl rfl rfl rfl hW (fun H locs hW => ?_)
  have hW : Wd (Es E a 13) (fun q => a ≤ q) s.heap (IL a [[(13, (-1))], [], [], [], [], [], [], [], [], [], [], [], []]) J0 (PL a [[(19, 12), (18, 11), (17, 10), (16, 9), (15, 8), (9, 7), (6, 6), (5, 5), (3, 4), (2, 3), (1, 2), (0, 1)], [], [], [], [], [], [], [], [], [], [], [], []]) H locs := by
    have e := PL_put (a := a) (k := 0) (j := 19) (v := 12) (d := [[(18, 11), (17, 10), (16, 9), (15, 8), (9, 7), (6, 6), (5, 5), (3, 4), (2, 3), (1, 2), (0, 1)], [], [], [], [], [], [], [], [], [], [], [], []]) (by decide); rw [Nat.add_zero] at e; rw [e] at hW; exact hW
  refine sg_lod (C.es (n' := 13)) dX9_init_107 rfl hL rfl rfl ?_
  refine sg_alu (C.es (n' := 13)) dX9_init_108 rfl rfl ?_
  refine gr_newJ2 (n := 13) C.es (by decide) (by omega) (hs 13 _ _ rfl).1 (hs 13 _ _ rfl).2 rfl cArJ hA (by decide) (by decide) (by decide) ⟨by show 13 ≤ 14; decide, by show 1199 ≤ 1235; decide⟩ dX9_init_110 hW (fun H hW => ?_)
  have hW : Wd (Es E a 14) (fun q => a ≤ q) s.heap (IL a [[(13, (-1))], [], [], [], [], [], [], [], [], [], [], [], [], []]) J0 (PL a [[(19, 12), (18, 11), (17, 10), (16, 9), (15, 8), (9, 7), (6, 6), (5, 5), (3, 4), (2, 3), (1, 2), (0, 1)], [], [], [], [], [], [], [], [], [], [], [], [], []]) H locs := by
    rw [IL_new, PL_new] at hW; exact hW
  refine gr_putR (E := Es E a 14) (a' := a) (b := a + 13) C.es hin dX9_init_112 rfl (show eS E a 14 a = 9 from (eS_in (Nat.le_refl _) (by omega)).trans (hs 0 _ _ rfl).1) rfl rfl rfl rfl hW (fun H locs hW => ?_)
  have hW : Wd (Es E a 14) (fun q => a ≤ q) s.heap (IL a [[(13, (-1))], [], [], [], [], [], [], [], [], [], [], [], [], []]) J0 (PL a [[(20, 13), (19, 12), (18, 11), (17, 10), (16, 9), (15, 8), (9, 7), (6, 6), (5, 5), (3, 4), (2, 3), (1, 2), (0, 1)], [], [], [], [], [], [], [], [], [], [], [], [], []]) H locs := by
    have e := PL_put (a := a) (k := 0) (j := 20) (v := 13) (d := [[(19, 12), (18, 11), (17, 10), (16, 9), (15, 8), (9, 7), (6, 6), (5, 5), (3, 4), (2, 3), (1, 2), (0, 1)], [], [], [], [], [], [], [], [], [], [], [], [], []]) (by decide); rw [Nat.add_zero] at e; rw [e] at hW; exact hW
  refine sg_lod (C.es (n' := 14)) dX9_init_115 rfl hL rfl rfl ?_
  refine sg_alu (C.es (n' := 14)) dX9_init_116 rfl rfl ?_
  refine gr_newJ2 (n := 14) C.es (by decide) (by omega) (hs 14 _ _ rfl).1 (hs 14 _ _ rfl).2 rfl cArJ hA (by decide) (by decide) (by decide) ⟨by show 14 ≤ 14; decide, by show 1235 ≤ 1235; decide⟩ dX9_init_118 hW (fun H hW => ?_)
  have hW : Wd (Es E a 15) (fun q => a ≤ q) s.heap (IL a [[(13, (-1))], [], [], [], [], [], [], [], [], [], [], [], [], [], []]) J0 (PL a [[(20, 13), (19, 12), (18, 11), (17, 10), (16, 9), (15, 8), (9, 7), (6, 6), (5, 5), (3, 4), (2, 3), (1, 2), (0, 1)], [], [], [], [], [], [], [], [], [], [], [], [], [], []]) H locs := by
    rw [IL_new, PL_new] at hW; exact hW
  refine gr_putR (E := Es E a 15) (a' := a) (b := a + 14) C.es hin dX9_init_120 rfl (show eS E a 15 a = 9 from (eS_in (Nat.le_refl _) (by omega)).trans (hs 0 _ _ rfl).1) rfl rfl rfl rfl hW (fun H locs hW => ?_)
  have hW : Wd (Es E a 15) (fun q => a ≤ q) s.heap (IL a [[(13, (-1))], [], [], [], [], [], [], [], [], [], [], [], [], [], []]) J0 (PL a [[(22, 14), (20, 13), (19, 12), (18, 11), (17, 10), (16, 9), (15, 8), (9, 7), (6, 6), (5, 5), (3, 4), (2, 3), (1, 2), (0, 1)], [], [], [], [], [], [], [], [], [], [], [], [], [], []]) H locs := by
    have e := PL_put (a := a) (k := 0) (j := 22) (v := 14) (d := [[(20, 13), (19, 12), (18, 11), (17, 10), (16, 9), (15, 8), (9, 7), (6, 6), (5, 5), (3, 4), (2, 3), (1, 2), (0, 1)], [], [], [], [], [], [], [], [], [], [], [], [], [], []]) (by decide); rw [Nat.add_zero] at e; rw [e] at hW; exact hW
  refine sg_lod (C.es (n' := 15)) dX9_init_123 rfl hL rfl rfl ?_
  refine sg_getf (E := Es E a 15) C.es dX9_init_124 rfl (show eS E a 15 a = 9 from (eS_in (Nat.le_refl _) (by omega)).trans (hs 0 _ _ rfl).1) rfl hW ?_
  rw [show tx_v (IL a [[(13, (-1))], [], [], [], [], [], [], [], [], [], [], [], [], [], []] a) (J0 a) (PL a [[(22, 14), (20, 13), (19, 12), (18, 11), (17, 10), (16, 9), (15, 8), (9, 7), (6, 6), (5, 5), (3, 4), (2, 3), (1, 2), (0, 1)], [], [], [], [], [], [], [], [], [], [], [], [], [], []] a) 2 0 = .ref (a + 1) from by simp [tx_v, PL, va_rf, List.lookup]]
  refine sg_alu (C.es (n' := 15)) dX9_init_127 rfl rfl ?_
  refine sg_alu (C.es (n' := 15)) dX9_init_128 rfl rfl ?_
  refine sg_ast (E := Es E a 15) (i := .iastore) C.es dX9_init_129 rfl ⟨(eS_in (by omega) (by omega)).trans (hs 1 _ _ rfl).1, by show vp_in _ (E.2.2.2.1 (a + 1)); rw [(hs 1 _ _ rfl).2]; exact fun h => h.elim (by decide) (by decide)⟩ hW (fun H locs hW => ?_)
  have hW : Wd (Es E a 15) (fun q => a ≤ q) s.heap (u2 (IL a [[(13, (-1))], [], [], [], [], [], [], [], [], [], [], [], [], [], []]) (a + 1) 0 1) J0 (PL a [[(22, 14), (20, 13), (19, 12), (18, 11), (17, 10), (16, 9), (15, 8), (9, 7), (6, 6), (5, 5), (3, 4), (2, 3), (1, 2), (0, 1)], [], [], [], [], [], [], [], [], [], [], [], [], [], []]) H locs := hW
  have hW : Wd (Es E a 15) (fun q => a ≤ q) s.heap (IL a [[(13, (-1))], [(0, 1)], [], [], [], [], [], [], [], [], [], [], [], [], []]) J0 (PL a [[(22, 14), (20, 13), (19, 12), (18, 11), (17, 10), (16, 9), (15, 8), (9, 7), (6, 6), (5, 5), (3, 4), (2, 3), (1, 2), (0, 1)], [], [], [], [], [], [], [], [], [], [], [], [], [], []]) H locs := by
    rw [IL_put (by decide)] at hW; exact hW
  refine sg_alu (C.es (n' := 15)) dX9_init_130 rfl rfl ?_
  refine sg_sto (C.es (n' := 15)) dX9_init_131 rfl hL rfl (Nat.le_of_ble_eq_true rfl) (fun ls hL => ?_)
  refine sg_lod (C.es (n' := 15)) dX9_init_132 rfl hL rfl rfl ?_
  refine sg_alu (C.es (n' := 15)) dX9_init_133 rfl rfl ?_
  refine sg_br (tgt := 154) (C.es (n' := 15)) dX9_init_135 rfl (by decide) (fun z => absurd z (by decide)) (fun _ => ?_)
  refine sg_lod (C.es (n' := 15)) dX9_init_138 rfl hL rfl rfl ?_
  refine sg_getf (E := Es E a 15) C.es dX9_init_139 rfl (show eS E a 15 a = 9 from (eS_in (Nat.le_refl _) (by omega)).trans (hs 0 _ _ rfl).1) rfl hW ?_
  rw [show tx_v (IL a [[(13, (-1))], [(0, 1)], [], [], [], [], [], [], [], [], [], [], [], [], []] a) (J0 a) (PL a [[(22, 14), (20, 13), (19, 12), (18, 11), (17, 10), (16, 9), (15, 8), (9, 7), (6, 6), (5, 5), (3, 4), (2, 3), (1, 2), (0, 1)], [], [], [], [], [], [], [], [], [], [], [], [], [], []] a) 2 0 = .ref (a + 1) from by simp [tx_v, PL, va_rf, List.lookup]]
  refine sg_alu (C.es (n' := 15)) dX9_init_142 rfl rfl ?_
  refine sg_lod (C.es (n' := 15)) dX9_init_144 rfl hL rfl rfl ?_
  refine sg_alu (C.es (n' := 15)) dX9_init_145 rfl rfl ?_
  refine sg_alu (C.es (n' := 15)) dX9_init_146 rfl rfl ?_
  refine sg_ast (E := Es E a 15) (i := .iastore) C.es dX9_init_147 rfl ⟨(eS_in (by omega) (by omega)).trans (hs 1 _ _ rfl).1, by show vp_in _ (E.2.2.2.1 (a + 1)); rw [(hs 1 _ _ rfl).2]; exact fun h => h.elim (by decide) (by decide)⟩ hW (fun H locs hW => ?_)
  have hW : Wd (Es E a 15) (fun q => a ≤ q) s.heap (u2 (IL a [[(13, (-1))], [(0, 1)], [], [], [], [], [], [], [], [], [], [], [], [], []]) (a + 1) 82 (-1)) J0 (PL a [[(22, 14), (20, 13), (19, 12), (18, 11), (17, 10), (16, 9), (15, 8), (9, 7), (6, 6), (5, 5), (3, 4), (2, 3), (1, 2), (0, 1)], [], [], [], [], [], [], [], [], [], [], [], [], [], []]) H locs := hW
  have hW : Wd (Es E a 15) (fun q => a ≤ q) s.heap (IL a [[(13, (-1))], [(82, (-1)), (0, 1)], [], [], [], [], [], [], [], [], [], [], [], [], []]) J0 (PL a [[(22, 14), (20, 13), (19, 12), (18, 11), (17, 10), (16, 9), (15, 8), (9, 7), (6, 6), (5, 5), (3, 4), (2, 3), (1, 2), (0, 1)], [], [], [], [], [], [], [], [], [], [], [], [], [], []]) H locs := by
    rw [IL_put (by decide)] at hW; exact hW
  refine sg_inc (C.es (n' := 15)) dX9_init_148 hL rfl (fun ls hL => ?_)
  refine sg_go (tgt := 132) (C.es (n' := 15)) dX9_init_151 (fun _ _ => rfl) rfl (by decide) ?_
  refine sg_lod (C.es (n' := 15)) dX9_init_132 rfl hL rfl rfl ?_
  refine sg_alu (C.es (n' := 15)) dX9_init_133 rfl rfl ?_
  refine sg_br (tgt := 154) (C.es (n' := 15)) dX9_init_135 rfl (by decide) (fun z => absurd z (by decide)) (fun _ => ?_)
  refine sg_lod (C.es (n' := 15)) dX9_init_138 rfl hL rfl rfl ?_
  refine sg_getf (E := Es E a 15) C.es dX9_init_139 rfl (show eS E a 15 a = 9 from (eS_in (Nat.le_refl _) (by omega)).trans (hs 0 _ _ rfl).1) rfl hW ?_
  rw [show tx_v (IL a [[(13, (-1))], [(82, (-1)), (0, 1)], [], [], [], [], [], [], [], [], [], [], [], [], []] a) (J0 a) (PL a [[(22, 14), (20, 13), (19, 12), (18, 11), (17, 10), (16, 9), (15, 8), (9, 7), (6, 6), (5, 5), (3, 4), (2, 3), (1, 2), (0, 1)], [], [], [], [], [], [], [], [], [], [], [], [], [], []] a) 2 0 = .ref (a + 1) from by simp [tx_v, PL, va_rf, List.lookup]]
  refine sg_alu (C.es (n' := 15)) dX9_init_142 rfl rfl ?_
  refine sg_lod (C.es (n' := 15)) dX9_init_144 rfl hL rfl rfl ?_
  refine sg_alu (C.es (n' := 15)) dX9_init_145 rfl rfl ?_
  refine sg_alu (C.es (n' := 15)) dX9_init_146 rfl rfl ?_
  refine sg_ast (E := Es E a 15) (i := .iastore) C.es dX9_init_147 rfl ⟨(eS_in (by omega) (by omega)).trans (hs 1 _ _ rfl).1, by show vp_in _ (E.2.2.2.1 (a + 1)); rw [(hs 1 _ _ rfl).2]; exact fun h => h.elim (by decide) (by decide)⟩ hW (fun H locs hW => ?_)
  have hW : Wd (Es E a 15) (fun q => a ≤ q) s.heap (u2 (IL a [[(13, (-1))], [(82, (-1)), (0, 1)], [], [], [], [], [], [], [], [], [], [], [], [], []]) (a + 1) 83 (-1)) J0 (PL a [[(22, 14), (20, 13), (19, 12), (18, 11), (17, 10), (16, 9), (15, 8), (9, 7), (6, 6), (5, 5), (3, 4), (2, 3), (1, 2), (0, 1)], [], [], [], [], [], [], [], [], [], [], [], [], [], []]) H locs := hW
  have hW : Wd (Es E a 15) (fun q => a ≤ q) s.heap (IL a [[(13, (-1))], [(83, (-1)), (82, (-1)), (0, 1)], [], [], [], [], [], [], [], [], [], [], [], [], []]) J0 (PL a [[(22, 14), (20, 13), (19, 12), (18, 11), (17, 10), (16, 9), (15, 8), (9, 7), (6, 6), (5, 5), (3, 4), (2, 3), (1, 2), (0, 1)], [], [], [], [], [], [], [], [], [], [], [], [], [], []]) H locs := by
    rw [IL_put (by decide)] at hW; exact hW
  refine sg_inc (C.es (n' := 15)) dX9_init_148 hL rfl (fun ls hL => ?_)
  refine sg_go (tgt := 132) (C.es (n' := 15)) dX9_init_151 (fun _ _ => rfl) rfl (by decide) ?_
  refine sg_lod (C.es (n' := 15)) dX9_init_132 rfl hL rfl rfl ?_
  refine sg_alu (C.es (n' := 15)) dX9_init_133 rfl rfl ?_
  refine sg_br (tgt := 154) (C.es (n' := 15)) dX9_init_135 rfl (by decide) (fun z => absurd z (by decide)) (fun _ => ?_)
  refine sg_lod (C.es (n' := 15)) dX9_init_138 rfl hL rfl rfl ?_
  refine sg_getf (E := Es E a 15) C.es dX9_init_139 rfl (show eS E a 15 a = 9 from (eS_in (Nat.le_refl _) (by omega)).trans (hs 0 _ _ rfl).1) rfl hW ?_
  rw [show tx_v (IL a [[(13, (-1))], [(83, (-1)), (82, (-1)), (0, 1)], [], [], [], [], [], [], [], [], [], [], [], [], []] a) (J0 a) (PL a [[(22, 14), (20, 13), (19, 12), (18, 11), (17, 10), (16, 9), (15, 8), (9, 7), (6, 6), (5, 5), (3, 4), (2, 3), (1, 2), (0, 1)], [], [], [], [], [], [], [], [], [], [], [], [], [], []] a) 2 0 = .ref (a + 1) from by simp [tx_v, PL, va_rf, List.lookup]]
  refine sg_alu (C.es (n' := 15)) dX9_init_142 rfl rfl ?_
  refine sg_lod (C.es (n' := 15)) dX9_init_144 rfl hL rfl rfl ?_
  refine sg_alu (C.es (n' := 15)) dX9_init_145 rfl rfl ?_
  refine sg_alu (C.es (n' := 15)) dX9_init_146 rfl rfl ?_
  refine sg_ast (E := Es E a 15) (i := .iastore) C.es dX9_init_147 rfl ⟨(eS_in (by omega) (by omega)).trans (hs 1 _ _ rfl).1, by show vp_in _ (E.2.2.2.1 (a + 1)); rw [(hs 1 _ _ rfl).2]; exact fun h => h.elim (by decide) (by decide)⟩ hW (fun H locs hW => ?_)
  have hW : Wd (Es E a 15) (fun q => a ≤ q) s.heap (u2 (IL a [[(13, (-1))], [(83, (-1)), (82, (-1)), (0, 1)], [], [], [], [], [], [], [], [], [], [], [], [], []]) (a + 1) 84 (-1)) J0 (PL a [[(22, 14), (20, 13), (19, 12), (18, 11), (17, 10), (16, 9), (15, 8), (9, 7), (6, 6), (5, 5), (3, 4), (2, 3), (1, 2), (0, 1)], [], [], [], [], [], [], [], [], [], [], [], [], [], []]) H locs := hW
  have hW : Wd (Es E a 15) (fun q => a ≤ q) s.heap (IL a [[(13, (-1))], [(84, (-1)), (83, (-1)), (82, (-1)), (0, 1)], [], [], [], [], [], [], [], [], [], [], [], [], []]) J0 (PL a [[(22, 14), (20, 13), (19, 12), (18, 11), (17, 10), (16, 9), (15, 8), (9, 7), (6, 6), (5, 5), (3, 4), (2, 3), (1, 2), (0, 1)], [], [], [], [], [], [], [], [], [], [], [], [], [], []]) H locs := by
    rw [IL_put (by decide)] at hW; exact hW
  refine sg_inc (C.es (n' := 15)) dX9_init_148 hL rfl (fun ls hL => ?_)
  refine sg_go (tgt := 132) (C.es (n' := 15)) dX9_init_151 (fun _ _ => rfl) rfl (by decide) ?_
  refine sg_lod (C.es (n' := 15)) dX9_init_132 rfl hL rfl rfl ?_
  refine sg_alu (C.es (n' := 15)) dX9_init_133 rfl rfl ?_
  refine sg_br (tgt := 154) (C.es (n' := 15)) dX9_init_135 rfl (by decide) (fun z => absurd z (by decide)) (fun _ => ?_)
  refine sg_lod (C.es (n' := 15)) dX9_init_138 rfl hL rfl rfl ?_
  refine sg_getf (E := Es E a 15) C.es dX9_init_139 rfl (show eS E a 15 a = 9 from (eS_in (Nat.le_refl _) (by omega)).trans (hs 0 _ _ rfl).1) rfl hW ?_
  rw [show tx_v (IL a [[(13, (-1))], [(84, (-1)), (83, (-1)), (82, (-1)), (0, 1)], [], [], [], [], [], [], [], [], [], [], [], [], []] a) (J0 a) (PL a [[(22, 14), (20, 13), (19, 12), (18, 11), (17, 10), (16, 9), (15, 8), (9, 7), (6, 6), (5, 5), (3, 4), (2, 3), (1, 2), (0, 1)], [], [], [], [], [], [], [], [], [], [], [], [], [], []] a) 2 0 = .ref (a + 1) from by simp [tx_v, PL, va_rf, List.lookup]]
  refine sg_alu (C.es (n' := 15)) dX9_init_142 rfl rfl ?_
  refine sg_lod (C.es (n' := 15)) dX9_init_144 rfl hL rfl rfl ?_
  refine sg_alu (C.es (n' := 15)) dX9_init_145 rfl rfl ?_
  refine sg_alu (C.es (n' := 15)) dX9_init_146 rfl rfl ?_
  refine sg_ast (E := Es E a 15) (i := .iastore) C.es dX9_init_147 rfl ⟨(eS_in (by omega) (by omega)).trans (hs 1 _ _ rfl).1, by show vp_in _ (E.2.2.2.1 (a + 1)); rw [(hs 1 _ _ rfl).2]; exact fun h => h.elim (by decide) (by decide)⟩ hW (fun H locs hW => ?_)
  have hW : Wd (Es E a 15) (fun q => a ≤ q) s.heap (u2 (IL a [[(13, (-1))], [(84, (-1)), (83, (-1)), (82, (-1)), (0, 1)], [], [], [], [], [], [], [], [], [], [], [], [], []]) (a + 1) 85 (-1)) J0 (PL a [[(22, 14), (20, 13), (19, 12), (18, 11), (17, 10), (16, 9), (15, 8), (9, 7), (6, 6), (5, 5), (3, 4), (2, 3), (1, 2), (0, 1)], [], [], [], [], [], [], [], [], [], [], [], [], [], []]) H locs := hW
  have hW : Wd (Es E a 15) (fun q => a ≤ q) s.heap (IL a [[(13, (-1))], [(85, (-1)), (84, (-1)), (83, (-1)), (82, (-1)), (0, 1)], [], [], [], [], [], [], [], [], [], [], [], [], []]) J0 (PL a [[(22, 14), (20, 13), (19, 12), (18, 11), (17, 10), (16, 9), (15, 8), (9, 7), (6, 6), (5, 5), (3, 4), (2, 3), (1, 2), (0, 1)], [], [], [], [], [], [], [], [], [], [], [], [], [], []]) H locs := by
    rw [IL_put (by decide)] at hW; exact hW
  refine sg_inc (C.es (n' := 15)) dX9_init_148 hL rfl (fun ls hL => ?_)
  refine sg_go (tgt := 132) (C.es (n' := 15)) dX9_init_151 (fun _ _ => rfl) rfl (by decide) ?_
  refine sg_lod (C.es (n' := 15)) dX9_init_132 rfl hL rfl rfl ?_
  refine sg_alu (C.es (n' := 15)) dX9_init_133 rfl rfl ?_
  refine sg_br (tgt := 154) (C.es (n' := 15)) dX9_init_135 rfl (by decide) (fun z => absurd z (by decide)) (fun _ => ?_)
  refine sg_lod (C.es (n' := 15)) dX9_init_138 rfl hL rfl rfl ?_
  refine sg_getf (E := Es E a 15) C.es dX9_init_139 rfl (show eS E a 15 a = 9 from (eS_in (Nat.le_refl _) (by omega)).trans (hs 0 _ _ rfl).1) rfl hW ?_
  rw [show tx_v (IL a [[(13, (-1))], [(85, (-1)), (84, (-1)), (83, (-1)), (82, (-1)), (0, 1)], [], [], [], [], [], [], [], [], [], [], [], [], []] a) (J0 a) (PL a [[(22, 14), (20, 13), (19, 12), (18, 11), (17, 10), (16, 9), (15, 8), (9, 7), (6, 6), (5, 5), (3, 4), (2, 3), (1, 2), (0, 1)], [], [], [], [], [], [], [], [], [], [], [], [], [], []] a) 2 0 = .ref (a + 1) from by simp [tx_v, PL, va_rf, List.lookup]]
  refine sg_alu (C.es (n' := 15)) dX9_init_142 rfl rfl ?_
  refine sg_lod (C.es (n' := 15)) dX9_init_144 rfl hL rfl rfl ?_
  refine sg_alu (C.es (n' := 15)) dX9_init_145 rfl rfl ?_
  refine sg_alu (C.es (n' := 15)) dX9_init_146 rfl rfl ?_
  refine sg_ast (E := Es E a 15) (i := .iastore) C.es dX9_init_147 rfl ⟨(eS_in (by omega) (by omega)).trans (hs 1 _ _ rfl).1, by show vp_in _ (E.2.2.2.1 (a + 1)); rw [(hs 1 _ _ rfl).2]; exact fun h => h.elim (by decide) (by decide)⟩ hW (fun H locs hW => ?_)
  have hW : Wd (Es E a 15) (fun q => a ≤ q) s.heap (u2 (IL a [[(13, (-1))], [(85, (-1)), (84, (-1)), (83, (-1)), (82, (-1)), (0, 1)], [], [], [], [], [], [], [], [], [], [], [], [], []]) (a + 1) 86 (-1)) J0 (PL a [[(22, 14), (20, 13), (19, 12), (18, 11), (17, 10), (16, 9), (15, 8), (9, 7), (6, 6), (5, 5), (3, 4), (2, 3), (1, 2), (0, 1)], [], [], [], [], [], [], [], [], [], [], [], [], [], []]) H locs := hW
  have hW : Wd (Es E a 15) (fun q => a ≤ q) s.heap (IL a [[(13, (-1))], [(86, (-1)), (85, (-1)), (84, (-1)), (83, (-1)), (82, (-1)), (0, 1)], [], [], [], [], [], [], [], [], [], [], [], [], []]) J0 (PL a [[(22, 14), (20, 13), (19, 12), (18, 11), (17, 10), (16, 9), (15, 8), (9, 7), (6, 6), (5, 5), (3, 4), (2, 3), (1, 2), (0, 1)], [], [], [], [], [], [], [], [], [], [], [], [], [], []]) H locs := by
    rw [IL_put (by decide)] at hW; exact hW
  refine sg_inc (C.es (n' := 15)) dX9_init_148 hL rfl (fun ls hL => ?_)
  refine sg_go (tgt := 132) (C.es (n' := 15)) dX9_init_151 (fun _ _ => rfl) rfl (by decide) ?_
  refine sg_lod (C.es (n' := 15)) dX9_init_132 rfl hL rfl rfl ?_
  refine sg_alu (C.es (n' := 15)) dX9_init_133 rfl rfl ?_
  refine sg_br (tgt := 154) (C.es (n' := 15)) dX9_init_135 rfl (by decide) (fun z => absurd z (by decide)) (fun _ => ?_)
  refine sg_lod (C.es (n' := 15)) dX9_init_138 rfl hL rfl rfl ?_
  refine sg_getf (E := Es E a 15) C.es dX9_init_139 rfl (show eS E a 15 a = 9 from (eS_in (Nat.le_refl _) (by omega)).trans (hs 0 _ _ rfl).1) rfl hW ?_
  rw [show tx_v (IL a [[(13, (-1))], [(86, (-1)), (85, (-1)), (84, (-1)), (83, (-1)), (82, (-1)), (0, 1)], [], [], [], [], [], [], [], [], [], [], [], [], []] a) (J0 a) (PL a [[(22, 14), (20, 13), (19, 12), (18, 11), (17, 10), (16, 9), (15, 8), (9, 7), (6, 6), (5, 5), (3, 4), (2, 3), (1, 2), (0, 1)], [], [], [], [], [], [], [], [], [], [], [], [], [], []] a) 2 0 = .ref (a + 1) from by simp [tx_v, PL, va_rf, List.lookup]]
  refine sg_alu (C.es (n' := 15)) dX9_init_142 rfl rfl ?_
  refine sg_lod (C.es (n' := 15)) dX9_init_144 rfl hL rfl rfl ?_
  refine sg_alu (C.es (n' := 15)) dX9_init_145 rfl rfl ?_
  refine sg_alu (C.es (n' := 15)) dX9_init_146 rfl rfl ?_
  refine sg_ast (E := Es E a 15) (i := .iastore) C.es dX9_init_147 rfl ⟨(eS_in (by omega) (by omega)).trans (hs 1 _ _ rfl).1, by show vp_in _ (E.2.2.2.1 (a + 1)); rw [(hs 1 _ _ rfl).2]; exact fun h => h.elim (by decide) (by decide)⟩ hW (fun H locs hW => ?_)
  have hW : Wd (Es E a 15) (fun q => a ≤ q) s.heap (u2 (IL a [[(13, (-1))], [(86, (-1)), (85, (-1)), (84, (-1)), (83, (-1)), (82, (-1)), (0, 1)], [], [], [], [], [], [], [], [], [], [], [], [], []]) (a + 1) 87 (-1)) J0 (PL a [[(22, 14), (20, 13), (19, 12), (18, 11), (17, 10), (16, 9), (15, 8), (9, 7), (6, 6), (5, 5), (3, 4), (2, 3), (1, 2), (0, 1)], [], [], [], [], [], [], [], [], [], [], [], [], [], []]) H locs := hW
  have hW : Wd (Es E a 15) (fun q => a ≤ q) s.heap (IL a [[(13, (-1))], [(87, (-1)), (86, (-1)), (85, (-1)), (84, (-1)), (83, (-1)), (82, (-1)), (0, 1)], [], [], [], [], [], [], [], [], [], [], [], [], []]) J0 (PL a [[(22, 14), (20, 13), (19, 12), (18, 11), (17, 10), (16, 9), (15, 8), (9, 7), (6, 6), (5, 5), (3, 4), (2, 3), (1, 2), (0, 1)], [], [], [], [], [], [], [], [], [], [], [], [], [], []]) H locs := by
    rw [IL_put (by decide)] at hW; exact hW
  refine sg_inc (C.es (n' := 15)) dX9_init_148 hL rfl (fun ls hL => ?_)
  refine sg_go (tgt := 132) (C.es (n' := 15)) dX9_init_151 (fun _ _ => rfl) rfl (by decide) ?_
  refine sg_lod (C.es (n' := 15)) dX9_init_132 rfl hL rfl rfl ?_
  refine sg_alu (C.es (n' := 15)) dX9_init_133 rfl rfl ?_
  refine sg_br (tgt := 154) (C.es (n' := 15)) dX9_init_135 rfl (by decide) (fun _ => ?_) (fun z => absurd (by decide) z)
  exact gr_ret (k := 14) C.es hret ⟨rfl, rfl, rfl⟩ hW dX9_init_154
end CTL

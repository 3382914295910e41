/-! constructors by lists -/
section CTL
variable {l : Launch} {E : tx_En} {a : Nat}
theorem cl2 (hs : ShL E a lCr) : CtM l E yX2_init cX2_init 1 1 a 2 12 (fun I J P => I = IL a [[], [], []] ∧ J = J0 ∧ P = PL a [[(1, 2), (0, 1)], [], []]) := by
  refine CtM.of CF2 (fun p e s m args below meth c C hin hret hAO hz ls hL hW => ?_)
  have hA : ∀ q, s.heap.size ≤ q → a ≤ q := fun q h => by omega
  have hA2 : ∀ q, a ≤ q → a ≤ q := fun q h => h
  have hb : ∀ (α : Type) (k : Nat), ([[]] : DL α).getD k [] = [] := fun α k => by cases k <;> rfl
  rw [← IL_nil (a := a) (d := [[]]) (hb Int32), ← PL_nil (a := a) (d := [[]]) (hb Nat)] at hW
  refine sg_lod (C.es (n' := 1)) dX2_init_0 rfl hL rfl rfl ?_
  refine gr_obj (C.es (n' := 1)) hL ⟨List.mem_append_right _ (List.mem_of_getElem? (i := 80) (by decide +kernel)), by decide +kernel⟩ cObI cObC (Nat.le_of_ble_eq_true rfl) ⟨by show 1 ≤ 1; decide, by show 20 ≤ 60 * 1 + 20; decide⟩ dX2_init_1 ?_
  refine sg_lod (C.es (n' := 1)) dX2_init_4 rfl hL rfl rfl ?_
  refine sg_alu (C.es (n' := 1)) dX2_init_5 rfl rfl ?_
  refine gr_newI2 (n := 1) C.es (by decide) (by omega) (hs 1 _ _ rfl).1 (hs 1 _ _ rfl).2 (IL_end (by decide)) cArI hA (by decide) (by decide) (by decide) ⟨by show 1 ≤ 2; decide, by show 6 ≤ 12; decide⟩ dX2_init_7 hW (fun H hW => ?_)
  have hW : Wd (Es E a 2) (fun q => a ≤ q) s.heap (IL a [[], []]) J0 (PL a [[], []]) H [] := by
    rw [IL_new, PL_new] at hW; exact hW
  refine gr_putR (E := Es E a 2) (a' := a) (b := a + 1) C.es hin dX2_init_9 rfl (show eS E a 2 a = 2 from (eS_in (Nat.le_refl _) (by omega)).trans (hs 0 _ _ rfl).1) rfl rfl rfl rfl hW (fun H locs hW => ?_)
  have hW : Wd (Es E a 2) (fun q => a ≤ q) s.heap (IL a [[], []]) J0 (PL a [[(0, 1)], []]) H locs := by
    have e := PL_put (a := a) (k := 0) (j := 0) (v := 1) (d := [[], []]) (by decide); rw [Nat.add_zero] at e; rw [e] at hW; exact hW
  refine sg_lod (C.es (n' := 2)) dX2_init_12 rfl hL rfl rfl ?_
  refine sg_alu (C.es (n' := 2)) dX2_init_13 rfl rfl ?_
  refine gr_newJ2 (n := 2) C.es (by decide) (by omega) (hs 2 _ _ rfl).1 (hs 2 _ _ rfl).2 rfl cArJ hA (by decide) (by decide) (by decide) ⟨by show 2 ≤ 2; decide, by show 12 ≤ 12; decide⟩ dX2_init_15 hW (fun H hW => ?_)
  have hW : Wd (Es E a 3) (fun q => a ≤ q) s.heap (IL a [[], [], []]) J0 (PL a [[(0, 1)], [], []]) H locs := by
    rw [IL_new, PL_new] at hW; exact hW
  refine gr_putR (E := Es E a 3) (a' := a) (b := a + 2) C.es hin dX2_init_17 rfl (show eS E a 3 a = 2 from (eS_in (Nat.le_refl _) (by omega)).trans (hs 0 _ _ rfl).1) rfl rfl rfl rfl hW (fun H locs hW => ?_)
  have hW : Wd (Es E a 3) (fun q => a ≤ q) s.heap (IL a [[], [], []]) J0 (PL a [[(1, 2), (0, 1)], [], []]) H locs := by
    have e := PL_put (a := a) (k := 0) (j := 1) (v := 2) (d := [[(0, 1)], [], []]) (by decide); rw [Nat.add_zero] at e; rw [e] at hW; exact hW
  exact gr_ret (k := 2) C.es hret ⟨rfl, rfl, rfl⟩ hW dX2_init_20
theorem cl6 (hs : ShL E a lRt) : CtM l E yX6_init cX6_init 1 1 a 2 160 (fun I J P => I = IL a [[(2, (-1))], [], []] ∧ J = J0 ∧ P = PL a [[(6, 2), (0, 1)], [], []]) := by
  refine CtM.of CF6 (fun p e s m args below meth c C hin hret hAO hz ls hL hW => ?_)
  have hA : ∀ q, s.heap.size ≤ q → a ≤ q := fun q h => by omega
  have hA2 : ∀ q, a ≤ q → a ≤ q := fun q h => h
  have hb : ∀ (α : Type) (k : Nat), ([[]] : DL α).getD k [] = [] := fun α k => by cases k <;> rfl
  rw [← IL_nil (a := a) (d := [[]]) (hb Int32), ← PL_nil (a := a) (d := [[]]) (hb Nat)] at hW
  refine sg_lod (C.es (n' := 1)) dX6_init_0 rfl hL rfl rfl ?_
  refine gr_obj (C.es (n' := 1)) hL ⟨List.mem_append_right _ (List.mem_of_getElem? (i := 36) (by decide +kernel)), by decide +kernel⟩ cObI cObC (Nat.le_of_ble_eq_true rfl) ⟨by show 1 ≤ 1; decide, by show 20 ≤ 60 * 1 + 20; decide⟩ dX6_init_1 ?_
  refine sg_lod (C.es (n' := 1)) dX6_init_4 rfl hL rfl rfl ?_
  refine sg_alu (C.es (n' := 1)) dX6_init_5 rfl rfl ?_
  refine gr_newI2 (n := 1) C.es (by decide) (by omega) (hs 1 _ _ rfl).1 (hs 1 _ _ rfl).2 (IL_end (by decide)) cArI hA (by decide) (by decide) (by decide) ⟨by show 1 ≤ 2; decide, by show 80 ≤ 160; decide⟩ dX6_init_7 hW (fun H hW => ?_)
  have hW : Wd (Es E a 2) (fun q => a ≤ q) s.heap (IL a [[], []]) J0 (PL a [[], []]) H [] := by
    rw [IL_new, PL_new] at hW; exact hW
  refine gr_putR (E := Es E a 2) (a' := a) (b := a + 1) C.es hin dX6_init_9 rfl (show eS E a 2 a = 6 from (eS_in (Nat.le_refl _) (by omega)).trans (hs 0 _ _ rfl).1) rfl rfl rfl rfl hW (fun H locs hW => ?_)
  have hW : Wd (Es E a 2) (fun q => a ≤ q) s.heap (IL a [[], []]) J0 (PL a [[(0, 1)], []]) H locs := by
    have e := PL_put (a := a) (k := 0) (j := 0) (v := 1) (d := [[], []]) (by decide); rw [Nat.add_zero] at e; rw [e] at hW; exact hW
  refine sg_lod (C.es (n' := 2)) dX6_init_12 rfl hL rfl rfl ?_
  refine sg_alu (C.es (n' := 2)) dX6_init_13 rfl rfl ?_
  refine sg_putf (E := Es E a 2) (a := a) C.es dX6_init_14 rfl (show eS E a 2 a = 6 from (eS_in (Nat.le_refl _) (by omega)).trans (hs 0 _ _ rfl).1) rfl rfl ⟨rfl, rfl, rfl⟩ hW (fun H locs hW => ?_)
  have hW : Wd (Es E a 2) (fun q => a ≤ q) s.heap (IL a [[(2, (-1))], []]) J0 (PL a [[(0, 1)], []]) H locs := by
    have e := IL_put (a := a) (k := 0) (j := 2) (v := (-1)) (d := [[], []]) (by decide); rw [Nat.add_zero] at e; exact e ▸ hW
  refine sg_lod (C.es (n' := 2)) dX6_init_17 rfl hL rfl rfl ?_
  refine sg_alu (C.es (n' := 2)) dX6_init_18 rfl rfl ?_
  refine gr_newI2 (n := 2) C.es (by decide) (by omega) (hs 2 _ _ rfl).1 (hs 2 _ _ rfl).2 (IL_end (by decide)) cArI hA (by decide) (by decide) (by decide) ⟨by show 2 ≤ 2; decide, by show 160 ≤ 160; decide⟩ dX6_init_20 hW (fun H hW => ?_)
  have hW : Wd (Es E a 3) (fun q => a ≤ q) s.heap (IL a [[(2, (-1))], [], []]) J0 (PL a [[(0, 1)], [], []]) H locs := by
    rw [IL_new, PL_new] at hW; exact hW
  refine gr_putR (E := Es E a 3) (a' := a) (b := a + 2) C.es hin dX6_init_22 rfl (show eS E a 3 a = 6 from (eS_in (Nat.le_refl _) (by omega)).trans (hs 0 _ _ rfl).1) rfl rfl rfl rfl hW (fun H locs hW => ?_)
  have hW : Wd (Es E a 3) (fun q => a ≤ q) s.heap (IL a [[(2, (-1))], [], []]) J0 (PL a [[(6, 2), (0, 1)], [], []]) H locs := by
    have e := PL_put (a := a) (k := 0) (j := 6) (v := 2) (d := [[(0, 1)], [], []]) (by decide); rw [Nat.add_zero] at e; rw [e] at hW; exact hW
  exact gr_ret (k := 2) C.es hret ⟨rfl, rfl, rfl⟩ hW dX6_init_25
end CTL

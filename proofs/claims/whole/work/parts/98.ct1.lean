/-! constructors, one after another -/
def ShL (E : tx_En) (a : Nat) (ss : List (Nat × Nat)) : Prop := ∀ k s n, ss[k]? = some (s, n) → E.2.2.1 (a + k) = s ∧ E.2.2.2.1 (a + k) = n
theorem six {P : Nat → Prop} (h0 : P 0) (h1 : P 1) (h2 : P 2) (h3 : P 3) (h4 : P 4) (h5 : P 5) : ∀ i, i < 6 → P i := by
  intro i hi
  match i, hi with
  | 0, _ => exact h0
  | 1, _ => exact h1
  | 2, _ => exact h2
  | 3, _ => exact h3
  | 4, _ => exact h4
  | 5, _ => exact h5
def lCr : List (Nat × Nat) := [(2, 0), (10, 6), (11, 6)]
def lRt : List (Nat × Nat) := [(6, 0), (10, 80), (10, 80)]
def lAs : List (Nat × Nat) := [(0, 0), (11, 6), (11, 6), (14, 6), (11, 5), (11, 5), (11, 5), (11, 5), (11, 5), (11, 5)]
def lRu : List (Nat × Nat) := [(7, 0), (10, 6), (10, 6), (10, 5), (10, 4), (10, 4), (12, 6)] ++ (lCr ++ lCr ++ lCr ++ lCr ++ lCr ++ lCr)
def lLe : List (Nat × Nat) := [(5, 0)] ++ lRu ++ [(10, 6), (10, 6), (10, 6), (10, 6)]
def lHi : List (Nat × Nat) := [(4, 0), (13, 6)] ++ (lLe ++ lLe ++ lLe ++ lLe ++ lLe ++ lLe)
def lCo : List (Nat × Nat) := [(1, 0)] ++ lAs
def lEx : List (Nat × Nat) := [(3, 0)] ++ lAs
def lWb : List (Nat × Nat) := [(8, 0)] ++ lRt ++ lRu ++ lLe ++ lLe ++ lHi ++ lAs ++ lCo ++ lEx
def lMd : List (Nat × Nat) := [(9, 0), (10, 89), (11, 36), (10, 89), (11, 36), (10, 534), (11, 216), (10, 80), (10, 89), (11, 6), (11, 6), (11, 6), (11, 6), (11, 6), (11, 36)]
theorem cArI : tbG (.arrayClass .int) := ⟨List.mem_append_right _ (List.mem_of_getElem? (i := 67) (by decide +kernel)), by decide +kernel⟩
theorem cArJ : tbG (.arrayClass .long) := ⟨List.mem_append_right _ (List.mem_of_getElem? (i := 94) (by decide +kernel)), by decide +kernel⟩
theorem cObI : tbG (.instanceMethod Lib.objectInit) := ⟨List.mem_append_right _ (List.mem_of_getElem? (i := 29) (by decide +kernel)), by decide +kernel⟩
theorem cObC : tbG (.code Lib.objectInit ⟨#[0xb1]⟩ 1 none) := ⟨List.mem_append_right _ (List.mem_of_getElem? (i := 30) (by decide +kernel)), by decide +kernel⟩
section GR2
variable {p : Program} {l : Launch} {e : Env} {R : Room} {s : State} {m : MethodId} {args : Array Value} {below : List Frame} {meth : Method} {c : Code} {Q : State → Prop}
variable {E : tx_En} {A : Nat → Prop} {H0 H : Heap} {locs : List Loc} {cells slots : Nat} {cc : ByteArray} {nL o pc a n : Nat} {st : List Value} {ls : Array Slot} {I : IM} {J : JM} {P : PM}
theorem gr_newI2 {N' : Nat} {v : Int32} (C : Cx (Es E a n) o cc nL p s m args meth c) (h1 : 1 ≤ n) (hsz : s.heap.size + cells = a + n) (hS : E.2.2.1 (a + n) = 10) (hN : E.2.2.2.1 (a + n) = N') (hI : I (a + n) = fun _ => 0) (harr : tbG (.arrayClass .int)) (hA : ∀ q, H0.size ≤ q → A q) (hv0 : ¬ v < 0) (hvN : v.toNatClampNeg = N') (hb : N' ≤ 1000) (hR : cells + 1 ≤ R.cells ∧ slots + N' ≤ R.slots) (hd : decode cc pc = .ok (.newarray .int, 2)) (hW : Wd (Es E a n) A H0 I J P H locs)
    (kk : ∀ H1, Wd (Es E a (n + 1)) A H0 I J P H1 locs → W p l e R s m args below meth c H1 locs (cells + 1) (slots + N') Q (F0 m (pc + 2) ls (.ref (a + n) :: st))) : W p l e R s m args below meth c H locs cells slots Q (F0 m pc ls (.int v :: st)) := by
  refine gr_size (fun hup => ?_)
  have hlow := gr_low h1 hW
  exact gr_newI C (by omega) hS hN hI harr hA hv0 hvN hb hR hd hW (fun H1 _ _ h => kk H1 h)
theorem gr_newJ2 {N' : Nat} {v : Int32} (C : Cx (Es E a n) o cc nL p s m args meth c) (h1 : 1 ≤ n) (hsz : s.heap.size + cells = a + n) (hS : E.2.2.1 (a + n) = 11) (hN : E.2.2.2.1 (a + n) = N') (hI : J (a + n) = fun _ => 0) (harr : tbG (.arrayClass .long)) (hA : ∀ q, H0.size ≤ q → A q) (hv0 : ¬ v < 0) (hvN : v.toNatClampNeg = N') (hb : N' ≤ 1000) (hR : cells + 1 ≤ R.cells ∧ slots + N' ≤ R.slots) (hd : decode cc pc = .ok (.newarray .long, 2)) (hW : Wd (Es E a n) A H0 I J P H locs)
    (kk : ∀ H1, Wd (Es E a (n + 1)) A H0 I J P H1 locs → W p l e R s m args below meth c H1 locs (cells + 1) (slots + N') Q (F0 m (pc + 2) ls (.ref (a + n) :: st))) : W p l e R s m args below meth c H locs cells slots Q (F0 m pc ls (.int v :: st)) := by
  refine gr_size (fun hup => ?_)
  have hlow := gr_low h1 hW
  exact gr_newJ C (by omega) hS hN hI harr hA hv0 hvN hb hR hd hW (fun H1 _ _ h => kk H1 h)
end GR2
section CTO
variable {l : Launch} {E : tx_En} {a : Nat}
theorem dX2_init_0 : decode cX2_init 0 = .ok (.aload_n 0, 1) := by decide +kernel
theorem dX2_init_1 : decode cX2_init 1 = .ok (.invokespecial 3, 3) := by decide +kernel
theorem dX2_init_4 : decode cX2_init 4 = .ok (.aload_n 0, 1) := by decide +kernel
theorem dX2_init_5 : decode cX2_init 5 = .ok (.bipush 6, 2) := by decide +kernel
theorem dX2_init_7 : decode cX2_init 7 = .ok (.newarray .int, 2) := by decide +kernel
theorem dX2_init_9 : decode cX2_init 9 = .ok (.putfield 9, 3) := by decide +kernel
theorem dX2_init_12 : decode cX2_init 12 = .ok (.aload_n 0, 1) := by decide +kernel
theorem dX2_init_13 : decode cX2_init 13 = .ok (.bipush 6, 2) := by decide +kernel
theorem dX2_init_15 : decode cX2_init 15 = .ok (.newarray .long, 2) := by decide +kernel
theorem dX2_init_17 : decode cX2_init 17 = .ok (.putfield 15, 3) := by decide +kernel
theorem dX2_init_20 : decode cX2_init 20 = .ok (.return_, 1) := by decide +kernel
theorem CF2 : CF yX2_init cX2_init 1 2 := ⟨by decide +kernel, ⟨List.mem_append_right _ (List.mem_of_getElem? (i := 79) (by decide +kernel)), by decide +kernel⟩, ⟨List.mem_append_right _ (List.mem_of_getElem? (i := 4) (by decide +kernel)), by decide +kernel⟩, ⟨List.mem_append_right _ (List.mem_of_getElem? (i := 78) (by decide +kernel)), by decide +kernel⟩, rfl, ⟨by decide +kernel, by decide +kernel, by decide +kernel⟩, rfl, by decide, by decide⟩
theorem ct2 (hs : ShL E a lCr) : CtM l E yX2_init cX2_init 1 1 a 2 12 (fun I J P => I = I0 ∧ J = J0 ∧ P a 0 = some (a + 1) ∧ P a 1 = some (a + 2)) := by
  refine CtM.of CF2 (fun p e s m args below meth c C hin hret hAO hz ls hL hW => ?_)
  have hA : ∀ q, s.heap.size ≤ q → a ≤ q := fun q h => by omega
  have hA2 : ∀ q, a ≤ q → a ≤ q := fun q h => h
  refine sg_lod (C.es (n' := 1)) dX2_init_0 rfl hL rfl rfl ?_
  refine gr_obj (C.es (n' := 1)) hL ⟨List.mem_append_right _ (List.mem_of_getElem? (i := 80) (by decide +kernel)), by decide +kernel⟩ cObI cObC (Nat.le_of_ble_eq_true rfl) ⟨by show 1 ≤ 1; decide, by show 20 ≤ 60 * 1 + 20; decide⟩ dX2_init_1 ?_
  refine sg_lod (C.es (n' := 1)) dX2_init_4 rfl hL rfl rfl ?_
  refine sg_alu (C.es (n' := 1)) dX2_init_5 rfl rfl ?_
  refine gr_newI2 (n := 1) C.es (by decide) (by omega) (hs 1 _ _ rfl).1 (hs 1 _ _ rfl).2 (by first | rfl | (rw [u2_off _ _ _ (by omega)]; rfl)) cArI hA (by decide) (by decide) (by decide) ⟨by show 1 ≤ 2; decide, by show 6 ≤ 12; decide⟩ dX2_init_7 hW (fun H hW => ?_)
  refine gr_putR (E := Es E a 2) (a' := a) (b := a + 1) C.es hin dX2_init_9 rfl (show eS E a 2 a = 2 from (eS_in (Nat.le_refl _) (by omega)).trans (hs 0 _ _ rfl).1) rfl rfl rfl rfl hW (fun H locs hW => ?_)
  refine sg_lod (C.es (n' := 2)) dX2_init_12 rfl hL rfl rfl ?_
  refine sg_alu (C.es (n' := 2)) dX2_init_13 rfl rfl ?_
  refine gr_newJ2 (n := 2) C.es (by decide) (by omega) (hs 2 _ _ rfl).1 (hs 2 _ _ rfl).2 (by first | rfl | (rw [u2_off _ _ _ (by omega)]; rfl)) cArJ hA (by decide) (by decide) (by decide) ⟨by show 2 ≤ 2; decide, by show 12 ≤ 12; decide⟩ dX2_init_15 hW (fun H hW => ?_)
  refine gr_putR (E := Es E a 3) (a' := a) (b := a + 2) C.es hin dX2_init_17 rfl (show eS E a 3 a = 2 from (eS_in (Nat.le_refl _) (by omega)).trans (hs 0 _ _ rfl).1) rfl rfl rfl rfl hW (fun H locs hW => ?_)
  exact gr_ret (k := 2) C.es hret ⟨rfl, rfl, by simp [u2], by simp [u2]⟩ hW dX2_init_20
theorem dX6_init_0 : decode cX6_init 0 = .ok (.aload_n 0, 1) := by decide +kernel
theorem dX6_init_1 : decode cX6_init 1 = .ok (.invokespecial 3, 3) := by decide +kernel
theorem dX6_init_4 : decode cX6_init 4 = .ok (.aload_n 0, 1) := by decide +kernel
theorem dX6_init_5 : decode cX6_init 5 = .ok (.bipush 80, 2) := by decide +kernel
theorem dX6_init_7 : decode cX6_init 7 = .ok (.newarray .int, 2) := by decide +kernel
theorem dX6_init_9 : decode cX6_init 9 = .ok (.putfield 9, 3) := by decide +kernel
theorem dX6_init_12 : decode cX6_init 12 = .ok (.aload_n 0, 1) := by decide +kernel
theorem dX6_init_13 : decode cX6_init 13 = .ok (.iconst (-1), 1) := by decide +kernel
theorem dX6_init_14 : decode cX6_init 14 = .ok (.putfield 15, 3) := by decide +kernel
theorem dX6_init_17 : decode cX6_init 17 = .ok (.aload_n 0, 1) := by decide +kernel
theorem dX6_init_18 : decode cX6_init 18 = .ok (.bipush 80, 2) := by decide +kernel
theorem dX6_init_20 : decode cX6_init 20 = .ok (.newarray .int, 2) := by decide +kernel
theorem dX6_init_22 : decode cX6_init 22 = .ok (.putfield 19, 3) := by decide +kernel
theorem dX6_init_25 : decode cX6_init 25 = .ok (.return_, 1) := by decide +kernel
theorem CF6 : CF yX6_init cX6_init 1 6 := ⟨by decide +kernel, ⟨List.mem_append_right _ (List.mem_of_getElem? (i := 35) (by decide +kernel)), by decide +kernel⟩, ⟨List.mem_append_right _ (List.mem_of_getElem? (i := 2) (by decide +kernel)), by decide +kernel⟩, ⟨List.mem_append_right _ (List.mem_of_getElem? (i := 34) (by decide +kernel)), by decide +kernel⟩, rfl, ⟨by decide +kernel, by decide +kernel, by decide +kernel⟩, rfl, by decide, by decide⟩
theorem ct6 (hs : ShL E a lRt) : CtM l E yX6_init cX6_init 1 1 a 2 160 (fun I J P => I = u2 I0 a 2 (-1) ∧ J = J0 ∧ P a 0 = some (a + 1) ∧ P a 6 = some (a + 2)) := by
  refine CtM.of CF6 (fun p e s m args below meth c C hin hret hAO hz ls hL hW => ?_)
  have hA : ∀ q, s.heap.size ≤ q → a ≤ q := fun q h => by omega
  have hA2 : ∀ q, a ≤ q → a ≤ q := fun q h => h
  refine sg_lod (C.es (n' := 1)) dX6_init_0 rfl hL rfl rfl ?_
  refine gr_obj (C.es (n' := 1)) hL ⟨List.mem_append_right _ (List.mem_of_getElem? (i := 36) (by decide +kernel)), by decide +kernel⟩ cObI cObC (Nat.le_of_ble_eq_true rfl) ⟨by show 1 ≤ 1; decide, by show 20 ≤ 60 * 1 + 20; decide⟩ dX6_init_1 ?_
  refine sg_lod (C.es (n' := 1)) dX6_init_4 rfl hL rfl rfl ?_
  refine sg_alu (C.es (n' := 1)) dX6_init_5 rfl rfl ?_
  refine gr_newI2 (n := 1) C.es (by decide) (by omega) (hs 1 _ _ rfl).1 (hs 1 _ _ rfl).2 (by first | rfl | (rw [u2_off _ _ _ (by omega)]; rfl)) cArI hA (by decide) (by decide) (by decide) ⟨by show 1 ≤ 2; decide, by show 80 ≤ 160; decide⟩ dX6_init_7 hW (fun H hW => ?_)
  refine gr_putR (E := Es E a 2) (a' := a) (b := a + 1) C.es hin dX6_init_9 rfl (show eS E a 2 a = 6 from (eS_in (Nat.le_refl _) (by omega)).trans (hs 0 _ _ rfl).1) rfl rfl rfl rfl hW (fun H locs hW => ?_)
  refine sg_lod (C.es (n' := 2)) dX6_init_12 rfl hL rfl rfl ?_
  refine sg_alu (C.es (n' := 2)) dX6_init_13 rfl rfl ?_
  refine sg_putf (E := Es E a 2) (a := a) C.es dX6_init_14 rfl (show eS E a 2 a = 6 from (eS_in (Nat.le_refl _) (by omega)).trans (hs 0 _ _ rfl).1) rfl rfl ⟨rfl, rfl, rfl⟩ hW (fun H locs hW => ?_)
  refine sg_lod (C.es (n' := 2)) dX6_init_17 rfl hL rfl rfl ?_
  refine sg_alu (C.es (n' := 2)) dX6_init_18 rfl rfl ?_
  refine gr_newI2 (n := 2) C.es (by decide) (by omega) (hs 2 _ _ rfl).1 (hs 2 _ _ rfl).2 (by first | rfl | (rw [u2_off _ _ _ (by omega)]; rfl)) cArI hA (by decide) (by decide) (by decide) ⟨by show 2 ≤ 2; decide, by show 160 ≤ 160; decide⟩ dX6_init_20 hW (fun H hW => ?_)
  refine gr_putR (E := Es E a 3) (a' := a) (b := a + 2) C.es hin dX6_init_22 rfl (show eS E a 3 a = 6 from (eS_in (Nat.le_refl _) (by omega)).trans (hs 0 _ _ rfl).1) rfl rfl rfl rfl hW (fun H locs hW => ?_)
  exact gr_ret (k := 2) C.es hret ⟨rfl, rfl, by simp [u2], by simp [u2]⟩ hW dX6_init_25
theorem dX0_init_0 : decode cX0_init 0 = .ok (.aload_n 0, 1) := by decide +kernel
theorem dX0_init_1 : decode cX0_init 1 = .ok (.invokespecial 3, 3) := by decide +kernel
theorem dX0_init_4 : decode cX0_init 4 = .ok (.aload_n 0, 1) := by decide +kernel
theorem dX0_init_5 : decode cX0_init 5 = .ok (.bipush 6, 2) := by decide +kernel
theorem dX0_init_7 : decode cX0_init 7 = .ok (.newarray .long, 2) := by decide +kernel
theorem dX0_init_9 : decode cX0_init 9 = .ok (.putfield 9, 3) := by decide +kernel
theorem dX0_init_12 : decode cX0_init 12 = .ok (.aload_n 0, 1) := by decide +kernel
theorem dX0_init_13 : decode cX0_init 13 = .ok (.bipush 6, 2) := by decide +kernel
theorem dX0_init_15 : decode cX0_init 15 = .ok (.newarray .long, 2) := by decide +kernel
theorem dX0_init_17 : decode cX0_init 17 = .ok (.putfield 15, 3) := by decide +kernel
theorem dX0_init_20 : decode cX0_init 20 = .ok (.aload_n 0, 1) := by decide +kernel
theorem dX0_init_21 : decode cX0_init 21 = .ok (.bipush 6, 2) := by decide +kernel
theorem dX0_init_23 : decode cX0_init 23 = .ok (.iconst 5, 1) := by decide +kernel
theorem dX0_init_24 : decode cX0_init 24 = .ok (.multianewarray 18 2, 4) := by decide +kernel
theorem dX0_init_28 : decode cX0_init 28 = .ok (.putfield 20, 3) := by decide +kernel
theorem dX0_init_31 : decode cX0_init 31 = .ok (.return_, 1) := by decide +kernel
theorem CF0 : CF yX0_init cX0_init 1 0 := ⟨by decide +kernel, ⟨List.mem_append_right _ (List.mem_of_getElem? (i := 206) (by decide +kernel)), by decide +kernel⟩, ⟨List.mem_append_right _ (List.mem_of_getElem? (i := 7) (by decide +kernel)), by decide +kernel⟩, ⟨List.mem_append_right _ (List.mem_of_getElem? (i := 205) (by decide +kernel)), by decide +kernel⟩, rfl, ⟨by decide +kernel, by decide +kernel, by decide +kernel⟩, rfl, by decide, by decide⟩
theorem ct0 (hs : ShL E a lAs) : CtM l E yX0_init cX0_init 1 1 a 9 48 (fun I J P => I = I0 ∧ J = J0 ∧ P a 4 = some (a + 1) ∧ P a 5 = some (a + 2) ∧ P a 6 = some (a + 3) ∧ ∀ i, i < 6 → P (a + 3) i = some (a + 4 + i)) := by
  refine CtM.of CF0 (fun p e s m args below meth c C hin hret hAO hz ls hL hW => ?_)
  have hA : ∀ q, s.heap.size ≤ q → a ≤ q := fun q h => by omega
  have hA2 : ∀ q, a ≤ q → a ≤ q := fun q h => h
  refine sg_lod (C.es (n' := 1)) dX0_init_0 rfl hL rfl rfl ?_
  refine gr_obj (C.es (n' := 1)) hL ⟨List.mem_append_right _ (List.mem_of_getElem? (i := 207) (by decide +kernel)), by decide +kernel⟩ cObI cObC (Nat.le_of_ble_eq_true rfl) ⟨by show 1 ≤ 1; decide, by show 20 ≤ 60 * 1 + 20; decide⟩ dX0_init_1 ?_
  refine sg_lod (C.es (n' := 1)) dX0_init_4 rfl hL rfl rfl ?_
  refine sg_alu (C.es (n' := 1)) dX0_init_5 rfl rfl ?_
  refine gr_newJ2 (n := 1) C.es (by decide) (by omega) (hs 1 _ _ rfl).1 (hs 1 _ _ rfl).2 (by first | rfl | (rw [u2_off _ _ _ (by omega)]; rfl)) cArJ hA (by decide) (by decide) (by decide) ⟨by show 1 ≤ 9; decide, by show 6 ≤ 48; decide⟩ dX0_init_7 hW (fun H hW => ?_)
  refine gr_putR (E := Es E a 2) (a' := a) (b := a + 1) C.es hin dX0_init_9 rfl (show eS E a 2 a = 0 from (eS_in (Nat.le_refl _) (by omega)).trans (hs 0 _ _ rfl).1) rfl rfl rfl rfl hW (fun H locs hW => ?_)
  refine sg_lod (C.es (n' := 2)) dX0_init_12 rfl hL rfl rfl ?_
  refine sg_alu (C.es (n' := 2)) dX0_init_13 rfl rfl ?_
  refine gr_newJ2 (n := 2) C.es (by decide) (by omega) (hs 2 _ _ rfl).1 (hs 2 _ _ rfl).2 (by first | rfl | (rw [u2_off _ _ _ (by omega)]; rfl)) cArJ hA (by decide) (by decide) (by decide) ⟨by show 2 ≤ 9; decide, by show 12 ≤ 48; decide⟩ dX0_init_15 hW (fun H hW => ?_)
  refine gr_putR (E := Es E a 3) (a' := a) (b := a + 2) C.es hin dX0_init_17 rfl (show eS E a 3 a = 0 from (eS_in (Nat.le_refl _) (by omega)).trans (hs 0 _ _ rfl).1) rfl rfl rfl rfl hW (fun H locs hW => ?_)
  refine sg_lod (C.es (n' := 3)) dX0_init_20 rfl hL rfl rfl ?_
  refine sg_alu (C.es (n' := 3)) dX0_init_21 rfl rfl ?_
  refine sg_alu (C.es (n' := 3)) dX0_init_23 rfl rfl ?_
  refine gr_multi (n := 3) C.es hAO (by decide) (by omega) (hs 3 _ _ rfl).1 (hs 3 _ _ rfl).2 (fun i hi => six (P := fun i => E.2.2.1 (a + 3 + 1 + i) = 11 ∧ E.2.2.2.1 (a + 3 + 1 + i) = 5 ∧ J0 (a + 3 + 1 + i) = fun _ => 0) ⟨(hs 4 _ _ rfl).1, (hs 4 _ _ rfl).2, rfl⟩ ⟨(hs 5 _ _ rfl).1, (hs 5 _ _ rfl).2, rfl⟩ ⟨(hs 6 _ _ rfl).1, (hs 6 _ _ rfl).2, rfl⟩ ⟨(hs 7 _ _ rfl).1, (hs 7 _ _ rfl).2, rfl⟩ ⟨(hs 8 _ _ rfl).1, (hs 8 _ _ rfl).2, rfl⟩ ⟨(hs 9 _ _ rfl).1, (hs 9 _ _ rfl).2, rfl⟩ i hi) hA2 ⟨List.mem_append_right _ (List.mem_of_getElem? (i := 208) (by decide +kernel)), by decide +kernel⟩ cArJ ⟨by show 9 ≤ 9; decide, by show 48 ≤ 48; decide⟩ dX0_init_24 hW (fun H hW => ?_)
  refine gr_putR (E := Es E a 10) (a' := a) (b := a + 3) C.es hin dX0_init_28 rfl (show eS E a 10 a = 0 from (eS_in (Nat.le_refl _) (by omega)).trans (hs 0 _ _ rfl).1) rfl rfl rfl rfl hW (fun H locs hW => ?_)
  exact gr_ret (k := 9) C.es hret ⟨rfl, rfl, by simp [u2, Pmu], by simp [u2, Pmu], by simp [u2, Pmu], fun i hi => by first | (simp [u2, Pmu, hi]; done) | (simp [u2, Pmu, hi]; omega)⟩ hW dX0_init_31
end CTO

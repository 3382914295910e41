/-! constructors by lists: the workbench -/
def fI6 : DL Int32 := [[(2, (-1))], [], []]
def fP6 : DL Nat := [[(6, 2), (0, 1)], [], []]
def fI7 : DL Int32 := [[(0, 1)], [], [], [], [], [], [], [], [], [], [], [], [], [], [], [], [], [], [], [], [], [], [], [], []]
def fP7 : DL Nat := [[(8, 6), (6, 5), (5, 4), (3, 3), (2, 2), (1, 1)], [], [], [], [], [], [(5, 22), (4, 19), (3, 16), (2, 13), (1, 10), (0, 7)], [(1, 9), (0, 8)], [], [], [(1, 12), (0, 11)], [], [], [(1, 15), (0, 14)], [], [], [(1, 18), (0, 17)], [], [], [(1, 21), (0, 20)], [], [], [(1, 24), (0, 23)], [], []]
def fI5 : DL Int32 := [[], [(0, 1)], [], [], [], [], [], [], [], [], [], [], [], [], [], [], [], [], [], [], [], [], [], [], [], [], [], [], [], [(5, (-1)), (4, (-1)), (3, (-1)), (2, (-1)), (1, (-1)), (0, (-1))]]
def fP5 : DL Nat := [[(4, 29), (3, 28), (2, 27), (1, 26), (0, 1)], [(8, 7), (6, 6), (5, 5), (3, 4), (2, 3), (1, 2)], [], [], [], [], [], [(5, 23), (4, 20), (3, 17), (2, 14), (1, 11), (0, 8)], [(1, 10), (0, 9)], [], [], [(1, 13), (0, 12)], [], [], [(1, 16), (0, 15)], [], [], [(1, 19), (0, 18)], [], [], [(1, 22), (0, 21)], [], [], [(1, 25), (0, 24)], [], [], [], [], [], []]
def fI4 : DL Int32 := [[], [], [], [(0, 1)], [], [], [], [], [], [], [], [], [], [], [], [], [], [], [], [], [], [], [], [], [], [], [], [], [], [], [], [(5, (-1)), (4, (-1)), (3, (-1)), (2, (-1)), (1, (-1)), (0, (-1))], [], [(0, 1)], [], [], [], [], [], [], [], [], [], [], [], [], [], [], [], [], [], [], [], [], [], [], [], [], [], [], [], [(5, (-1)), (4, (-1)), (3, (-1)), (2, (-1)), (1, (-1)), (0, (-1))], [], [(0, 1)], [], [], [], [], [], [], [], [], [], [], [], [], [], [], [], [], [], [], [], [], [], [], [], [], [], [], [], [(5, (-1)), (4, (-1)), (3, (-1)), (2, (-1)), (1, (-1)), (0, (-1))], [], [(0, 1)], [], [], [], [], [], [], [], [], [], [], [], [], [], [], [], [], [], [], [], [], [], [], [], [], [], [], [], [(5, (-1)), (4, (-1)), (3, (-1)), (2, (-1)), (1, (-1)), (0, (-1))], [], [(0, 1)], [], [], [], [], [], [], [], [], [], [], [], [], [], [], [], [], [], [], [], [], [], [], [], [], [], [], [], [(5, (-1)), (4, (-1)), (3, (-1)), (2, (-1)), (1, (-1)), (0, (-1))], [], [(0, 1)], [], [], [], [], [], [], [], [], [], [], [], [], [], [], [], [], [], [], [], [], [], [], [], [], [], [], [], [(5, (-1)), (4, (-1)), (3, (-1)), (2, (-1)), (1, (-1)), (0, (-1))]]
def fP4 : DL Nat := [[(0, 1)], [(5, 152), (4, 122), (3, 92), (2, 62), (1, 32), (0, 2)], [(4, 31), (3, 30), (2, 29), (1, 28), (0, 3)], [(8, 9), (6, 8), (5, 7), (3, 6), (2, 5), (1, 4)], [], [], [], [], [], [(5, 25), (4, 22), (3, 19), (2, 16), (1, 13), (0, 10)], [(1, 12), (0, 11)], [], [], [(1, 15), (0, 14)], [], [], [(1, 18), (0, 17)], [], [], [(1, 21), (0, 20)], [], [], [(1, 24), (0, 23)], [], [], [(1, 27), (0, 26)], [], [], [], [], [], [], [(4, 61), (3, 60), (2, 59), (1, 58), (0, 33)], [(8, 39), (6, 38), (5, 37), (3, 36), (2, 35), (1, 34)], [], [], [], [], [], [(5, 55), (4, 52), (3, 49), (2, 46), (1, 43), (0, 40)], [(1, 42), (0, 41)], [], [], [(1, 45), (0, 44)], [], [], [(1, 48), (0, 47)], [], [], [(1, 51), (0, 50)], [], [], [(1, 54), (0, 53)], [], [], [(1, 57), (0, 56)], [], [], [], [], [], [], [(4, 91), (3, 90), (2, 89), (1, 88), (0, 63)], [(8, 69), (6, 68), (5, 67), (3, 66), (2, 65), (1, 64)], [], [], [], [], [], [(5, 85), (4, 82), (3, 79), (2, 76), (1, 73), (0, 70)], [(1, 72), (0, 71)], [], [], [(1, 75), (0, 74)], [], [], [(1, 78), (0, 77)], [], [], [(1, 81), (0, 80)], [], [], [(1, 84), (0, 83)], [], [], [(1, 87), (0, 86)], [], [], [], [], [], [], [(4, 121), (3, 120), (2, 119), (1, 118), (0, 93)], [(8, 99), (6, 98), (5, 97), (3, 96), (2, 95), (1, 94)], [], [], [], [], [], [(5, 115), (4, 112), (3, 109), (2, 106), (1, 103), (0, 100)], [(1, 102), (0, 101)], [], [], [(1, 105), (0, 104)], [], [], [(1, 108), (0, 107)], [], [], [(1, 111), (0, 110)], [], [], [(1, 114), (0, 113)], [], [], [(1, 117), (0, 116)], [], [], [], [], [], [], [(4, 151), (3, 150), (2, 149), (1, 148), (0, 123)], [(8, 129), (6, 128), (5, 127), (3, 126), (2, 125), (1, 124)], [], [], [], [], [], [(5, 145), (4, 142), (3, 139), (2, 136), (1, 133), (0, 130)], [(1, 132), (0, 131)], [], [], [(1, 135), (0, 134)], [], [], [(1, 138), (0, 137)], [], [], [(1, 141), (0, 140)], [], [], [(1, 144), (0, 143)], [], [], [(1, 147), (0, 146)], [], [], [], [], [], [], [(4, 181), (3, 180), (2, 179), (1, 178), (0, 153)], [(8, 159), (6, 158), (5, 157), (3, 156), (2, 155), (1, 154)], [], [], [], [], [], [(5, 175), (4, 172), (3, 169), (2, 166), (1, 163), (0, 160)], [(1, 162), (0, 161)], [], [], [(1, 165), (0, 164)], [], [], [(1, 168), (0, 167)], [], [], [(1, 171), (0, 170)], [], [], [(1, 174), (0, 173)], [], [], [(1, 177), (0, 176)], [], [], [], [], [], []]
def fI0 : DL Int32 := [[], [], [], [], [], [], [], [], [], []]
def fP0 : DL Nat := [[(6, 3), (5, 2), (4, 1)], [], [], [(0, 4), (1, 5), (2, 6), (3, 7), (4, 8), (5, 9)], [], [], [], [], [], []]
def fI1 : DL Int32 := [[], [], [], [], [], [], [], [], [], [], []]
def fP1 : DL Nat := [[(0, 1)], [(6, 4), (5, 3), (4, 2)], [], [], [(0, 5), (1, 6), (2, 7), (3, 8), (4, 9), (5, 10)], [], [], [], [], [], []]
def fI3 : DL Int32 := [[], [], [], [], [], [], [], [], [], [], []]
def fP3 : DL Nat := [[(0, 1)], [(6, 4), (5, 3), (4, 2)], [], [], [(0, 5), (1, 6), (2, 7), (3, 8), (4, 9), (5, 10)], [], [], [], [], [], []]
section WBS
variable {p : Program} {l : Launch} {e : Env} {R : Room} {s : State} {m : MethodId} {args : Array Value} {below : List Frame} {meth : Method} {c : Code} {Q : State → Prop}
variable {E : tx_En} {H : Heap} {locs : List Loc} {cells slots : Nat} {ls : Array Slot} {pc a n : Nat}
/-- a field of the workbench: new, its constructor, putfield -/
theorem wb_step {k2 j d k sl ix1 ix2 ix3 mL pc1 pc2 pc3 pc4 pc5 : Nat} {y : MethodName} {cc2 : ByteArray} {dI cI : DL Int32} {dP cP : DL Nat} (C : Cx (Es E a 1) 8 cX8_init 1 p s m args meth c) (hA : ∀ q, s.heap.size ≤ q → a ≤ q) (hin : meth.name = "<init>") (hAO : AO s) (hL : Lv ls 1 (entL [.ref a] 1)) (e1 : pc + 1 = pc1) (e2 : pc1 + 3 = pc2) (e3 : pc2 + 1 = pc3) (e4 : pc3 + 3 = pc4) (e5 : pc4 + 3 = pc5)
    (hd0 : decode cX8_init pc = .ok (.aload_n 0, 1)) (hd1 : decode cX8_init pc1 = .ok (.new ix1, 3)) (hd2 : decode cX8_init pc2 = .ok (.dup, 1)) (hd3 : decode cX8_init pc3 = .ok (.invokespecial ix2, 3)) (hd4 : decode cX8_init pc4 = .ok (.putfield ix3, 3))
    (hk2 : k2 < 10) (h1 : 1 ≤ n) (hsz : s.heap.size + cells = a + n) (hS0 : E.2.2.1 a = 8) (hS : E.2.2.1 (a + n) = k2) (hlI : dI.length = n) (hlP : dP.length = n)
    (hlink : tbG (.classLink (tx_R 8) ix1 (tx_R k2))) (hinst : tbG (.instantiable (tx_R k2) (tx_n k2))) (hini : tbG (.initialized (tx_R k2))) (hCF : CF y cc2 mL k2) (hM : CtM l E y cc2 mL d (a + n) k sl (fun I J P => I = IL (a + n) cI ∧ J = J0 ∧ P = PL (a + n) cP)) (hml : tbG (.methodLink (tx_R 8) ix2 y))
    (hf : fres 8 ix3 = some (8, j)) (hdecl : (tx_T 8 j).1 = tx_R 8) (ht : (tx_fk 8)[j]? = some 2) (hn : ∀ b, narrow (tx_ty 8 j) (.ref b) = .ref b) (hfit : ∀ b, fits (tx_ty 8 j) (.ref b) = true)
    (hR : d + 1 ≤ R.frames ∧ 60 * d + 50 ≤ R.locals) (hcs : cells + 1 + k ≤ R.cells ∧ slots + tx_n k2 + sl ≤ R.slots)
    (hW : Wd (Es E a n) (fun q => a ≤ q) s.heap (IL a dI) J0 (PL a dP) H locs)
    (kk : ∀ H locs, Wd (Es E a (n + (k + 1))) (fun q => a ≤ q) s.heap (IL a (dI ++ cI)) J0 (PL a ((dP ++ cP.sh n).up 0 j n)) H locs → W p l e R s m args below meth c H locs (cells + 1 + k) (slots + tx_n k2 + sl) Q (F0 m pc5 ls [])) : W p l e R s m args below meth c H locs cells slots Q (F0 m pc ls []) := by
  subst e1; subst e2; subst e3; subst e4; subst e5
  refine sg_lod (C.es (n' := n)) hd0 rfl hL rfl rfl ?_
  refine gr_newO2 (n := n) (k := k2) C.es hk2 h1 hsz hS (IL_end (by omega)) rfl (PL_end (by omega)) hlink hinst hini hA ⟨by omega, by omega⟩ hd1 hW (fun H hW => ?_)
  refine sg_alu (C.es (n' := n + 1)) hd2 rfl rfl ?_
  refine gr_ctor (n := n) (k := k) (sl := sl) (d := d) (C.es (n' := n + 1)) hAO hL hCF hM (by omega) (IL_end (by omega)) rfl (PL_end (by omega)) hml (fun q h => h) (Nat.le_of_ble_eq_true rfl) hR ⟨by omega, by omega⟩ hd3 hW (fun I1 J1 P1 H locs hF hW => ?_)
  obtain ⟨rfl, rfl, rfl⟩ := hF
  rw [IL_mrg hlI, PL_mrg hlP, J0_mrg] at hW
  refine gr_putR (E := Es E a (n + (k + 1))) (a' := a) (b := a + n) C.es hin hd4 hf (show eS E a (n + (k + 1)) a = 8 from (eS_in (Nat.le_refl _) (by omega)).trans hS0) hdecl ht (hn _) (hfit _) hW (fun H locs hW => ?_)
  refine kk H locs ?_
  have e9 := PL_put (a := a) (k := 0) (j := j) (v := n) (d := dP ++ cP.sh n) (by rw [List.length_append]; omega)
  rw [Nat.add_zero] at e9
  rw [e9] at hW
  exact hW
end WBS
theorem dX8_init_0 : decode cX8_init 0 = .ok (.aload_n 0, 1) := by decide +kernel
theorem dX8_init_1 : decode cX8_init 1 = .ok (.invokespecial 1, 3) := by decide +kernel
theorem dX8_init_4 : decode cX8_init 4 = .ok (.aload_n 0, 1) := by decide +kernel
theorem dX8_init_5 : decode cX8_init 5 = .ok (.new 7, 3) := by decide +kernel
theorem dX8_init_8 : decode cX8_init 8 = .ok (.dup, 1) := by decide +kernel
theorem dX8_init_9 : decode cX8_init 9 = .ok (.invokespecial 9, 3) := by decide +kernel
theorem dX8_init_12 : decode cX8_init 12 = .ok (.putfield 10, 3) := by decide +kernel
theorem dX8_init_15 : decode cX8_init 15 = .ok (.aload_n 0, 1) := by decide +kernel
theorem dX8_init_16 : decode cX8_init 16 = .ok (.new 16, 3) := by decide +kernel
theorem dX8_init_19 : decode cX8_init 19 = .ok (.dup, 1) := by decide +kernel
theorem dX8_init_20 : decode cX8_init 20 = .ok (.invokespecial 18, 3) := by decide +kernel
theorem dX8_init_23 : decode cX8_init 23 = .ok (.putfield 19, 3) := by decide +kernel
theorem dX8_init_26 : decode cX8_init 26 = .ok (.aload_n 0, 1) := by decide +kernel
theorem dX8_init_27 : decode cX8_init 27 = .ok (.new 23, 3) := by decide +kernel
theorem dX8_init_30 : decode cX8_init 30 = .ok (.dup, 1) := by decide +kernel
theorem dX8_init_31 : decode cX8_init 31 = .ok (.invokespecial 25, 3) := by decide +kernel
theorem dX8_init_34 : decode cX8_init 34 = .ok (.putfield 26, 3) := by decide +kernel
theorem dX8_init_37 : decode cX8_init 37 = .ok (.aload_n 0, 1) := by decide +kernel
theorem dX8_init_38 : decode cX8_init 38 = .ok (.new 23, 3) := by decide +kernel
theorem dX8_init_41 : decode cX8_init 41 = .ok (.dup, 1) := by decide +kernel
theorem dX8_init_42 : decode cX8_init 42 = .ok (.invokespecial 25, 3) := by decide +kernel
theorem dX8_init_45 : decode cX8_init 45 = .ok (.putfield 30, 3) := by decide +kernel
theorem dX8_init_48 : decode cX8_init 48 = .ok (.aload_n 0, 1) := by decide +kernel
theorem dX8_init_49 : decode cX8_init 49 = .ok (.new 33, 3) := by decide +kernel
theorem dX8_init_52 : decode cX8_init 52 = .ok (.dup, 1) := by decide +kernel
theorem dX8_init_53 : decode cX8_init 53 = .ok (.invokespecial 35, 3) := by decide +kernel
theorem dX8_init_56 : decode cX8_init 56 = .ok (.putfield 36, 3) := by decide +kernel
theorem dX8_init_59 : decode cX8_init 59 = .ok (.aload_n 0, 1) := by decide +kernel
theorem dX8_init_60 : decode cX8_init 60 = .ok (.new 40, 3) := by decide +kernel
theorem dX8_init_63 : decode cX8_init 63 = .ok (.dup, 1) := by decide +kernel
theorem dX8_init_64 : decode cX8_init 64 = .ok (.invokespecial 42, 3) := by decide +kernel
theorem dX8_init_67 : decode cX8_init 67 = .ok (.putfield 43, 3) := by decide +kernel
theorem dX8_init_70 : decode cX8_init 70 = .ok (.aload_n 0, 1) := by decide +kernel
theorem dX8_init_71 : decode cX8_init 71 = .ok (.new 47, 3) := by decide +kernel
theorem dX8_init_74 : decode cX8_init 74 = .ok (.dup, 1) := by decide +kernel
theorem dX8_init_75 : decode cX8_init 75 = .ok (.invokespecial 49, 3) := by decide +kernel
theorem dX8_init_78 : decode cX8_init 78 = .ok (.putfield 50, 3) := by decide +kernel
theorem dX8_init_81 : decode cX8_init 81 = .ok (.aload_n 0, 1) := by decide +kernel
theorem dX8_init_82 : decode cX8_init 82 = .ok (.new 54, 3) := by decide +kernel
theorem dX8_init_85 : decode cX8_init 85 = .ok (.dup, 1) := by decide +kernel
theorem dX8_init_86 : decode cX8_init 86 = .ok (.invokespecial 56, 3) := by decide +kernel
theorem dX8_init_89 : decode cX8_init 89 = .ok (.putfield 57, 3) := by decide +kernel
theorem dX8_init_92 : decode cX8_init 92 = .ok (.return_, 1) := by decide +kernel
theorem CF8 : CF yX8_init cX8_init 1 8 := ⟨by decide +kernel, ⟨List.mem_append_right _ (List.mem_of_getElem? (i := 27) (by decide +kernel)), by decide +kernel⟩, ⟨List.mem_append_right _ (List.mem_of_getElem? (i := 1) (by decide +kernel)), by decide +kernel⟩, ⟨List.mem_append_right _ (List.mem_of_getElem? (i := 26) (by decide +kernel)), by decide +kernel⟩, rfl, ⟨by decide +kernel, by decide +kernel, by decide +kernel⟩, rfl, by decide, by decide⟩
def wI0 : DL Int32 := [[]]
def wP0 : DL Nat := [[]]
def wI1 : DL Int32 := wI0 ++ fI6
def wP1 : DL Nat := (wP0 ++ fP6.sh 1).up 0 0 1
def wI2 : DL Int32 := wI1 ++ fI7
def wP2 : DL Nat := (wP1 ++ fP7.sh 4).up 0 1 4
def wI3 : DL Int32 := wI2 ++ fI5
def wP3 : DL Nat := (wP2 ++ fP5.sh 29).up 0 2 29
def wI4 : DL Int32 := wI3 ++ fI5
def wP4 : DL Nat := (wP3 ++ fP5.sh 59).up 0 3 59
def wI5 : DL Int32 := wI4 ++ fI4
def wP5 : DL Nat := (wP4 ++ fP4.sh 89).up 0 5 89
def wI6 : DL Int32 := wI5 ++ fI0
def wP6 : DL Nat := (wP5 ++ fP0.sh 271).up 0 6 271
def wI7 : DL Int32 := wI6 ++ fI1
def wP7 : DL Nat := (wP6 ++ fP1.sh 281).up 0 7 281
def wI8 : DL Int32 := wI7 ++ fI3
def wP8 : DL Nat := (wP7 ++ fP3.sh 292).up 0 8 292
theorem wl0 : wI0.length = 1 ∧ wP0.length = 1 := by decide +kernel
theorem wl1 : wI1.length = 4 ∧ wP1.length = 4 := by decide +kernel
theorem wl2 : wI2.length = 29 ∧ wP2.length = 29 := by decide +kernel
theorem wl3 : wI3.length = 59 ∧ wP3.length = 59 := by decide +kernel
theorem wl4 : wI4.length = 89 ∧ wP4.length = 89 := by decide +kernel
theorem wl5 : wI5.length = 271 ∧ wP5.length = 271 := by decide +kernel
theorem wl6 : wI6.length = 281 ∧ wP6.length = 281 := by decide +kernel
theorem wl7 : wI7.length = 292 ∧ wP7.length = 292 := by decide +kernel
theorem wl8 : wI8.length = 303 ∧ wP8.length = 303 := by decide +kernel
section CTL
variable {l : Launch} {E : tx_En} {a : Nat}
theorem cm6 (hs : ShL E a lRt) : CtM l E yX6_init cX6_init 1 1 a 2 160 (fun I J P => I = IL a fI6 ∧ J = J0 ∧ P = PL a fP6) := cl6 hs
theorem cm7 (hs : ShL E a lRu) : CtM l E yX7_init cX7_init 2 3 a 24 115 (fun I J P => I = IL a fI7 ∧ J = J0 ∧ P = PL a fP7) := cl7 hs
theorem cm5 (hs : ShL E a lLe) : CtM l E yX5_init cX5_init 2 5 a 29 148 (fun I J P => I = IL a fI5 ∧ J = J0 ∧ P = PL a fP5) := cl5 hs
theorem cm4 (hs : ShL E a lHi) : CtM l E yX4_init cX4_init 2 7 a 181 930 (fun I J P => I = IL a fI4 ∧ J = J0 ∧ P = PL a fP4) := cl4 hs
theorem cm0 (hs : ShL E a lAs) : CtM l E yX0_init cX0_init 1 1 a 9 48 (fun I J P => I = IL a fI0 ∧ J = J0 ∧ P = PL a fP0) := cl0 hs
theorem cm1 (hs : ShL E a lCo) : CtM l E yX1_init cX1_init 1 3 a 10 56 (fun I J P => I = IL a fI1 ∧ J = J0 ∧ P = PL a fP1) := cl1 hs
theorem cm3 (hs : ShL E a lEx) : CtM l E yX3_init cX3_init 1 3 a 10 56 (fun I J P => I = IL a fI3 ∧ J = J0 ∧ P = PL a fP3) := cl3 hs
set_option maxRecDepth 100000 in
set_option maxHeartbeats 4000000 in
theorem cm8 (hs : ShL E a lWb) : CtM l E yX8_init cX8_init 1 9 a 302 1709 (fun I J P => I = IL a wI8 ∧ J = J0 ∧ P = PL a wP8) := by
  refine CtM.of CF8 (fun p e s m args below meth c C hin hret hAO hz ls hL hW => ?_)
  have hA : ∀ q, s.heap.size ≤ q → a ≤ q := fun q h => by omega
  have hb : ∀ (α : Type) (k : Nat), ([[]] : DL α).getD k [] = [] := fun α k => by cases k <;> rfl
  rw [← IL_nil (a := a) (d := wI0) (hb Int32), ← PL_nil (a := a) (d := wP0) (hb Nat)] at hW
  refine sg_lod (C.es (n' := 1)) dX8_init_0 rfl hL rfl rfl ?_
  refine gr_obj (C.es (n' := 1)) hL ⟨List.mem_append_right _ (List.mem_of_getElem? (i := 28) (by decide +kernel)), by decide +kernel⟩ cObI cObC (Nat.le_of_ble_eq_true rfl) ⟨by show 1 ≤ 9; decide, by show 20 ≤ 60 * 9 + 20; decide⟩ dX8_init_1 ?_
  refine wb_step (n := 1) (k2 := 6) (j := 0) (d := 1) (k := 2) (sl := 160) (dI := wI0) (dP := wP0) (cI := fI6) (cP := fP6) C hA hin hAO hL rfl rfl rfl rfl rfl dX8_init_4 dX8_init_5 dX8_init_8 dX8_init_9 dX8_init_12 (by decide) (by decide) (by omega) (hs 0 _ _ rfl).1 (hs 1 _ _ rfl).1 wl0.1 wl0.2 ⟨List.mem_append_right _ (List.mem_of_getElem? (i := 31) (by decide +kernel)), by decide +kernel⟩ ⟨List.mem_append_right _ (List.mem_of_getElem? (i := 32) (by decide +kernel)), by decide +kernel⟩ ⟨List.mem_append_right _ (List.mem_of_getElem? (i := 2) (by decide +kernel)), by decide +kernel⟩ CF6 (cm6 (shl_sub hs (q := 1) (by decide +kernel))) ⟨List.mem_append_right _ (List.mem_of_getElem? (i := 33) (by decide +kernel)), by decide +kernel⟩ rfl rfl rfl (fun _ => rfl) (fun _ => rfl) ⟨by show _ ≤ 9; decide, by show _ ≤ 60 * 9 + 20; decide⟩ ⟨by show 3 ≤ 302; decide, by show 168 ≤ 1709; decide⟩ hW (fun H locs hW => ?_)
  refine wb_step (n := 4) (k2 := 7) (j := 1) (d := 3) (k := 24) (sl := 115) (dI := wI1) (dP := wP1) (cI := fI7) (cP := fP7) C hA hin hAO hL rfl rfl rfl rfl rfl dX8_init_15 dX8_init_16 dX8_init_19 dX8_init_20 dX8_init_23 (by decide) (by decide) (by omega) (hs 0 _ _ rfl).1 (hs 4 _ _ rfl).1 wl1.1 wl1.2 ⟨List.mem_append_right _ (List.mem_of_getElem? (i := 68) (by decide +kernel)), by decide +kernel⟩ ⟨List.mem_append_right _ (List.mem_of_getElem? (i := 69) (by decide +kernel)), by decide +kernel⟩ ⟨List.mem_append_right _ (List.mem_of_getElem? (i := 3) (by decide +kernel)), by decide +kernel⟩ CF7 (cm7 (shl_sub hs (q := 4) (by decide +kernel))) ⟨List.mem_append_right _ (List.mem_of_getElem? (i := 70) (by decide +kernel)), by decide +kernel⟩ rfl rfl rfl (fun _ => rfl) (fun _ => rfl) ⟨by show _ ≤ 9; decide, by show _ ≤ 60 * 9 + 20; decide⟩ ⟨by show 28 ≤ 302; decide, by show 292 ≤ 1709; decide⟩ hW (fun H locs hW => ?_)
  refine wb_step (n := 29) (k2 := 5) (j := 2) (d := 5) (k := 29) (sl := 148) (dI := wI2) (dP := wP2) (cI := fI5) (cP := fP5) C hA hin hAO hL rfl rfl rfl rfl rfl dX8_init_26 dX8_init_27 dX8_init_30 dX8_init_31 dX8_init_34 (by decide) (by decide) (by omega) (hs 0 _ _ rfl).1 (hs 29 _ _ rfl).1 wl2.1 wl2.2 ⟨List.mem_append_right _ (List.mem_of_getElem? (i := 142) (by decide +kernel)), by decide +kernel⟩ ⟨List.mem_append_right _ (List.mem_of_getElem? (i := 143) (by decide +kernel)), by decide +kernel⟩ ⟨List.mem_append_right _ (List.mem_of_getElem? (i := 5) (by decide +kernel)), by decide +kernel⟩ CF5 (cm5 (shl_sub hs (q := 29) (by decide +kernel))) ⟨List.mem_append_right _ (List.mem_of_getElem? (i := 144) (by decide +kernel)), by decide +kernel⟩ rfl rfl rfl (fun _ => rfl) (fun _ => rfl) ⟨by show _ ≤ 9; decide, by show _ ≤ 60 * 9 + 20; decide⟩ ⟨by show 58 ≤ 302; decide, by show 446 ≤ 1709; decide⟩ hW (fun H locs hW => ?_)
  refine wb_step (n := 59) (k2 := 5) (j := 3) (d := 5) (k := 29) (sl := 148) (dI := wI3) (dP := wP3) (cI := fI5) (cP := fP5) C hA hin hAO hL rfl rfl rfl rfl rfl dX8_init_37 dX8_init_38 dX8_init_41 dX8_init_42 dX8_init_45 (by decide) (by decide) (by omega) (hs 0 _ _ rfl).1 (hs 59 _ _ rfl).1 wl3.1 wl3.2 ⟨List.mem_append_right _ (List.mem_of_getElem? (i := 142) (by decide +kernel)), by decide +kernel⟩ ⟨List.mem_append_right _ (List.mem_of_getElem? (i := 143) (by decide +kernel)), by decide +kernel⟩ ⟨List.mem_append_right _ (List.mem_of_getElem? (i := 5) (by decide +kernel)), by decide +kernel⟩ CF5 (cm5 (shl_sub hs (q := 59) (by decide +kernel))) ⟨List.mem_append_right _ (List.mem_of_getElem? (i := 144) (by decide +kernel)), by decide +kernel⟩ rfl rfl rfl (fun _ => rfl) (fun _ => rfl) ⟨by show _ ≤ 9; decide, by show _ ≤ 60 * 9 + 20; decide⟩ ⟨by show 88 ≤ 302; decide, by show 600 ≤ 1709; decide⟩ hW (fun H locs hW => ?_)
  refine wb_step (n := 89) (k2 := 4) (j := 5) (d := 7) (k := 181) (sl := 930) (dI := wI4) (dP := wP4) (cI := fI4) (cP := fP4) C hA hin hAO hL rfl rfl rfl rfl rfl dX8_init_48 dX8_init_49 dX8_init_52 dX8_init_53 dX8_init_56 (by decide) (by decide) (by omega) (hs 0 _ _ rfl).1 (hs 89 _ _ rfl).1 wl4.1 wl4.2 ⟨List.mem_append_right _ (List.mem_of_getElem? (i := 182) (by decide +kernel)), by decide +kernel⟩ ⟨List.mem_append_right _ (List.mem_of_getElem? (i := 183) (by decide +kernel)), by decide +kernel⟩ ⟨List.mem_append_right _ (List.mem_of_getElem? (i := 6) (by decide +kernel)), by decide +kernel⟩ CF4 (cm4 (shl_sub hs (q := 89) (by decide +kernel))) ⟨List.mem_append_right _ (List.mem_of_getElem? (i := 184) (by decide +kernel)), by decide +kernel⟩ rfl rfl rfl (fun _ => rfl) (fun _ => rfl) ⟨by show _ ≤ 9; decide, by show _ ≤ 60 * 9 + 20; decide⟩ ⟨by show 270 ≤ 302; decide, by show 1533 ≤ 1709; decide⟩ hW (fun H locs hW => ?_)
  refine wb_step (n := 271) (k2 := 0) (j := 6) (d := 1) (k := 9) (sl := 48) (dI := wI5) (dP := wP5) (cI := fI0) (cP := fP0) C hA hin hAO hL rfl rfl rfl rfl rfl dX8_init_59 dX8_init_60 dX8_init_63 dX8_init_64 dX8_init_67 (by decide) (by decide) (by omega) (hs 0 _ _ rfl).1 (hs 271 _ _ rfl).1 wl5.1 wl5.2 ⟨List.mem_append_right _ (List.mem_of_getElem? (i := 202) (by decide +kernel)), by decide +kernel⟩ ⟨List.mem_append_right _ (List.mem_of_getElem? (i := 203) (by decide +kernel)), by decide +kernel⟩ ⟨List.mem_append_right _ (List.mem_of_getElem? (i := 7) (by decide +kernel)), by decide +kernel⟩ CF0 (cm0 (shl_sub hs (q := 271) (by decide +kernel))) ⟨List.mem_append_right _ (List.mem_of_getElem? (i := 204) (by decide +kernel)), by decide +kernel⟩ rfl rfl rfl (fun _ => rfl) (fun _ => rfl) ⟨by show _ ≤ 9; decide, by show _ ≤ 60 * 9 + 20; decide⟩ ⟨by show 280 ≤ 302; decide, by show 1589 ≤ 1709; decide⟩ hW (fun H locs hW => ?_)
  refine wb_step (n := 281) (k2 := 1) (j := 7) (d := 3) (k := 10) (sl := 56) (dI := wI6) (dP := wP6) (cI := fI1) (cP := fP1) C hA hin hAO hL rfl rfl rfl rfl rfl dX8_init_70 dX8_init_71 dX8_init_74 dX8_init_75 dX8_init_78 (by decide) (by decide) (by omega) (hs 0 _ _ rfl).1 (hs 281 _ _ rfl).1 wl6.1 wl6.2 ⟨List.mem_append_right _ (List.mem_of_getElem? (i := 241) (by decide +kernel)), by decide +kernel⟩ ⟨List.mem_append_right _ (List.mem_of_getElem? (i := 242) (by decide +kernel)), by decide +kernel⟩ ⟨List.mem_append_right _ (List.mem_of_getElem? (i := 8) (by decide +kernel)), by decide +kernel⟩ CF1 (cm1 (shl_sub hs (q := 281) (by decide +kernel))) ⟨List.mem_append_right _ (List.mem_of_getElem? (i := 243) (by decide +kernel)), by decide +kernel⟩ rfl rfl rfl (fun _ => rfl) (fun _ => rfl) ⟨by show _ ≤ 9; decide, by show _ ≤ 60 * 9 + 20; decide⟩ ⟨by show 291 ≤ 302; decide, by show 1652 ≤ 1709; decide⟩ hW (fun H locs hW => ?_)
  refine wb_step (n := 292) (k2 := 3) (j := 8) (d := 3) (k := 10) (sl := 56) (dI := wI7) (dP := wP7) (cI := fI3) (cP := fP3) C hA hin hAO hL rfl rfl rfl rfl rfl dX8_init_81 dX8_init_82 dX8_init_85 dX8_init_86 dX8_init_89 (by decide) (by decide) (by omega) (hs 0 _ _ rfl).1 (hs 292 _ _ rfl).1 wl7.1 wl7.2 ⟨List.mem_append_right _ (List.mem_of_getElem? (i := 274) (by decide +kernel)), by decide +kernel⟩ ⟨List.mem_append_right _ (List.mem_of_getElem? (i := 275) (by decide +kernel)), by decide +kernel⟩ ⟨List.mem_append_right _ (List.mem_of_getElem? (i := 9) (by decide +kernel)), by decide +kernel⟩ CF3 (cm3 (shl_sub hs (q := 292) (by decide +kernel))) ⟨List.mem_append_right _ (List.mem_of_getElem? (i := 276) (by decide +kernel)), by decide +kernel⟩ rfl rfl rfl (fun _ => rfl) (fun _ => rfl) ⟨by show _ ≤ 9; decide, by show _ ≤ 60 * 9 + 20; decide⟩ ⟨by show 302 ≤ 302; decide, by show 1709 ≤ 1709; decide⟩ hW (fun H locs hW => ?_)
  exact gr_ret (k := 302) C.es hret ⟨rfl, rfl, rfl⟩ hW dX8_init_92
end CTL

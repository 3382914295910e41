/-! the law's loop -/
section LAWF
variable {p : Program} {l : Launch} {e : Env} {R : Room} {s : State} {m : MethodId} {args : Array Value} {below : List Frame} {meth : Method} {c : Code} {Q : State → Prop}
variable {E : tx_En} {cells slots b L od x m9 w i : Nat} {xs : Nat → Int32}
/-- from the loop's end to its head -/
theorem law_next {H : Heap} {locs : List Loc} {ls : Array Slot} {I : IM} {J : JM} {P : PM} {y6 y7 y8 y9 : Option Value} (C : Cx E 10 cL_law 10 p s m args meth c) (hk : Lh p l e R s m args below meth c Q E b L xs x m9 w od (i + 5) cells slots) (hW : WL E s b L xs od I J P H locs) (hv : Iv E.2.2.1 E.2.2.2.1 x m9 w b xs P I J) (hL : Lv ls 10 [some (.ref b), some (.ref x), some (.ref m9), some (.ref w), some (.ref od), some (.int (nI i)), y6, y7, y8, y9]) : W p l e R s m args below meth c H locs cells slots Q (F0 m 2226 ls []) := by
  refine segB_ok (M := ML_law) C hW hv.2.2.1 ?_ hL
  refine g_L_law_2226.mpr ?_
  refine g_L_law_2229.mpr ?_
  simp only [g_L_law_28, g_L_law_30, nIa5, true_and, and_true, rf_s, not_true_eq_false, not_false_eq_true, true_implies, false_implies, kl_i, kl_n, kl_l, kl_r, Option.toList, List.cons_append, List.nil_append, if_true, if_false, u2s, lt00, lt01, lt02, lt03, le10, le20, le30, ne10, ne20, ne30, eq00]
  refine gs_L_law_31 ?_
  rintro - ls4 hL4
  exact hk _ _ _ _ _ _ _ _ _ _ hW hv hL4
theorem law_c37 (C : Cx E 10 cL_law 10 p s m args meth c) (hR : 19 ≤ R.frames ∧ 1400 ≤ R.locals) (hcs : cells + 1 ≤ R.cells ∧ slots + 6 ≤ R.slots) (hk : Lh p l e R s m args below meth c Q E b L xs x m9 w od (i + 5) (cells + 1) (slots + 6)) : Lp p l e R s m args below meth c Q E b L xs x m9 w od 2104 i cells slots := by
  intro I J P H locs ls y6 y7 y8 y9 hW hv hL
  have hE := C.2.2.2.2.2.2.2
  obtain ⟨hx8, hm9, hwb, hSo, hNo⟩ := hv.sh
  obtain ⟨F, I2, h1, h2, hn, hv2⟩ := op_averageDependents (l := l) hE hv
  have hn2 := Jvm.Free.Fl.f2d_out hn
  refine sg_lod C dL_law_2104 rfl hL rfl rfl ?_
  refine sg_cML (M := MX8_averageDependents) (As := []) (b' := x) (st' := []) (pc2 := 2108) rfl C hL (d := 8) ⟨by omega, by omega⟩ ⟨by omega, by omega⟩ dL_law_2105 rfl rfl rfl hx8 (by rw [hx8]; decide) (Nat.zero_le _) rfl h1 hW (fun H1 locs1 hW1 => ?_)
  show W p l e R s m args below meth c H1 locs1 cells slots Q (F0 m 2108 ls [.float F])
  refine lv_f2d C.1 C.2.1 dL_law_2108 hn2 ?_
  refine lv_dstore C.1 C.2.1 dL_law_2109 hL.2 (Nat.le_of_ble_eq_true rfl) rfl (fun ls1 h' => ?_)
  have hL1 := Lv.put2 (i := 6) (v := .double (FP.f2d F)) hL.1 (by decide) h'
  refine sg_lod C dL_law_2111 rfl hL1 rfl rfl ?_
  refine sg_cML (M := MX9_averageDependents) (As := []) (b' := m9) (st' := []) (pc2 := 2115) rfl C hL1 (d := 8) ⟨by omega, by omega⟩ ⟨by omega, by omega⟩ dL_law_2112 rfl rfl rfl hm9 (by rw [hm9]; decide) (Nat.zero_le _) rfl h2 hW1 (fun H2 locs2 hW2 => ?_)
  show W p l e R s m args below meth c H2 locs2 cells slots Q (F0 m 2115 ls1 [.float F])
  refine lv_f2d C.1 C.2.1 dL_law_2115 hn2 ?_
  refine lv_dstore C.1 C.2.1 dL_law_2116 hL1.2 (Nat.le_of_ble_eq_true rfl) rfl (fun ls2 h'' => ?_)
  have hL2 := Lv.put2 (i := 8) (v := .double (FP.f2d F)) hL1.1 (by decide) h''
  refine lv_dload C.1 C.2.1 dL_law_2118 (hL2.get rfl) ?_
  refine lv_dload C.1 C.2.1 dL_law_2120 (hL2.get rfl) ?_
  refine lv_dcmp C.1 C.2.1 dL_law_2122 ?_
  refine sg_br (tgt := 2144) C dL_law_2123 rfl (by decide) (fun _ => ?_) (fun z => absurd (Jvm.RoadKit.dcmpV_self hn2 _) z)
  refine sg_go (tgt := 2226) C dL_law_2144 (fun _ _ => rfl) rfl (by decide) ?_
  exact law_next C hk.up hW2 hv2 hL2
theorem law_c36 (C : Cx E 10 cL_law 10 p s m args meth c) (hT : TX E s) (hEA : ∀ q, q ∈ E.2.2.2.2 → s.heap.size ≤ q) (hoA : s.heap.size ≤ od) (hbl : b < s.heap.size) (hfl : l.stackTraces = false) (hR : 19 ≤ R.frames ∧ 1400 ≤ R.locals) (hcs : cells + 1 ≤ R.cells ∧ slots + 6 ≤ R.slots) (hi : i + 5 ≤ L) (hLL : L ≤ 2560) (hk : Lh p l e R s m args below meth c Q E b L xs x m9 w od (i + 5) (cells + 1) (slots + 6)) : Lp p l e R s m args below meth c Q E b L xs x m9 w od 2027 i cells slots := by
  intro I J P H locs ls y6 y7 y8 y9 hW hv hL
  have hE := C.2.2.2.2.2.2.2
  have hb := hv.2.2.1
  obtain ⟨hx8, hm9, hwb, hSo, hNo⟩ := hv.sh
  obtain ⟨k, I1, J1, dz, rb, I2, J2, hw, hb1, hc, h8, hr, hv2⟩ := op_averageRate (l := l) (od := od) hE hfl hv (xs (i + 1))
  have hb2 := hv2.2.2.1
  refine segB_ok (M := ML_law) C hW hb ?_ hL
  simp only [g_L_law_2027, g_L_law_2028, g_L_law_2029, g_L_law_2031, g_L_law_2032, g_L_law_2033, g_L_law_2034, nIp, nI_clamp (show i + 1 < 2 ^ 31 by omega), vpn (show i + 1 < L by omega) (show L < 2 ^ 31 by omega), S2_b, N2_b, hb, true_and, and_true, rf_s, not_true_eq_false, not_false_eq_true, true_implies, false_implies, kl_i, kl_n, kl_l, kl_r, Option.toList, List.cons_append, List.nil_append, if_true, if_false, u2s, lt00, lt01, lt02, lt03, le10, le20, le30, ne10, ne20, ne30, eq00]
  refine gs_L_law_2036 ?_
  rintro - ls1 hL1
  have hod := hW.2.2.2.1.2
  obtain ⟨v0, scr0, x1, x2, x3, x4, x5⟩ := hW.2.2.1
  have hX0 : Xd od v0 s H := ⟨scr0, x1, x2, x3, x4, x5⟩
  refine sg_callWD (As := [.ref x, .int (xs (i + 1)), .ref od]) (st' := []) C hL1 (fun U hU hWu => wl_T hT hEA hW hU hWu) hod hoA ⟨v0, hX0⟩ hR hcs dL_law_2036 lk_averageRate rfl (Nat.zero_le _) hw hW.1 (fun H1 locs1 w1 z1 k1 kd => ?_)
  have hX1 : ∃ v1, Xd od v1 s H1 ∧ (k = 0 → v1 = rb) := by
    rcases hr with ⟨r0, r1, r2⟩ | ⟨r0, r1⟩
    · refine ⟨rb, hX0.set x1 ?_, fun _ => rfl⟩
      rw [kd scr0 x1, r1]
    · refine ⟨v0, hX0.kept ?_, fun z => absurd z r0⟩
      rw [kd scr0 x1, r1, x1]
  obtain ⟨v1, hX1, hv1⟩ := hX1
  have hbE := hW.2.2.2.1.1
  have hbo : b ≠ od := by omega
  have hblt : b < H.size := hW.2.2.2.2.1
  have holt : od < H.size := hW.2.2.2.2.2
  have hW1 : WL E s b L xs od I1 J1 P H1 locs1 := by
    obtain ⟨sc, e1, e2⟩ := hX1
    exact ⟨w1, hW.2.1.kept (k1 b hblt hbE hbo), ⟨v1, sc, e1, e2⟩, hW.2.2.2.1, Nat.lt_of_lt_of_le hblt z1, Nat.lt_of_lt_of_le holt z1⟩
  refine segB_ok (M := ML_law) (pc := 2039) C hW1 hb1 ?_ hL1
  simp only [g_L_law_2039, g_L_law_2041, g_L_law_2042, g_L_law_2043, g_L_law_2045, g_L_law_2046, g_L_law_2047, nIp, nI_clamp (show i + 1 < 2 ^ 31 by omega), vpn (show i + 1 < L by omega) (show L < 2 ^ 31 by omega), S2_b, N2_b, hb1, true_and, and_true, rf_s, not_true_eq_false, not_false_eq_true, true_implies, false_implies, kl_i, kl_n, kl_l, kl_r, Option.toList, List.cons_append, List.nil_append, if_true, if_false, u2s, lt00, lt01, lt02, lt03, le10, le20, le30, ne10, ne20, ne30, eq00]
  refine gs_L_law_2048 ?_
  rintro - ls2 hL2
  refine sg_callV (M := MX9_averageRate) (As := [.int (xs (i + 1))]) (b := m9) (d := 8) (st' := []) C hL2 ⟨by omega, by omega⟩ ⟨by omega, by omega⟩ dL_law_2048 rfl rfl rfl hm9 (by rw [hm9]; decide) (Nat.zero_le _) hc hW1.1 (fun H2 locs2 w2 z2 k2 => ?_)
  have hX2 := hX1.kept (k2 od hW1.2.2.2.2.2 hod)
  have hW2 := hW1.next w2 z2 k2
  show W p l e R s m args below meth c H2 locs2 (cells + 1) (slots + 6) Q (F0 m 2051 ls2 [.double rb])
  refine lv_dstore C.1 C.2.1 dL_law_2051 hL2.2 (Nat.le_of_ble_eq_true rfl) rfl (fun ls3 h' => ?_)
  have hL3 := Lv.put2 (i := 7) (v := .double rb) hL2.1 (by decide) h'
  refine sg_lod C dL_law_2053 rfl hL3 rfl rfl ?_
  refine sg_cV (M := MX9_thrown) (As := []) (b := m9) (d := 0) (st' := []) C hL3 ⟨by omega, by omega⟩ ⟨by omega, by omega⟩ dL_law_2054 rfl rfl rfl hm9 (by rw [hm9]; decide) (Nat.zero_le _) rfl (hv2.thr h8) hW2.1 (fun r I3 J3 P3 hq H3 locs3 w3 z3 k3 => ?_)
  obtain ⟨rfl, rfl, rfl, rfl⟩ := hq
  have hX3 := hX2.kept (k3 od hW2.2.2.2.2.2 hod)
  have hW3 := hW2.next w3 z3 k3
  show W p l e R s m args below meth c H3 locs3 (cells + 1) (slots + 6) Q (F0 m 2057 ls3 [.int k])
  have fin : W p l e R s m args below meth c H3 locs3 (cells + 1) (slots + 6) Q (F0 m 2101 ls3 []) := sg_go (tgt := 2226) C dL_law_2101 (fun _ _ => rfl) rfl (by decide) (law_next C hk hW3 hv2 hL3)
  refine sg_lod C dL_law_2057 rfl hL3 rfl rfl ?_
  refine sg_br (tgt := 2064) C dL_law_2059 rfl (by decide) (fun _ => ?_) (fun z => absurd rfl z)
  refine sg_lod C dL_law_2064 rfl hL3 rfl rfl ?_
  refine sg_br (tgt := 2101) C dL_law_2066 rfl (by decide) (fun _ => fin) (fun z => ?_)
  have hk0 : k = 0 := Classical.byContradiction z
  have e1 : v1 = rb := hv1 hk0
  subst e1
  have hnn : Jvm.Free.Fl.NoNaN64 v1 := by
    rcases hr with ⟨-, -, r2⟩ | ⟨r0, -⟩
    · exact r2
    · exact absurd hk0 r0
  obtain ⟨scr, q1, q2, q3, q4, q5⟩ := hX3
  refine sg_lod C dL_law_2069 rfl hL3 rfl rfl ?_
  refine sg_alu C dL_law_2071 rfl rfl ?_
  refine W.dald (v := .double v1) (j := 0) C.1 C.2.1 q1 q2 q3 (by rw [q4]; decide) q5 rfl rfl dL_law_2072 ?_
  show W p l e R s m args below meth c H3 locs3 (cells + 1) (slots + 6) Q (F0 m 2073 ls3 [.double v1])
  refine lv_dload C.1 C.2.1 dL_law_2073 (hL3.get rfl) ?_
  refine lv_dcmp C.1 C.2.1 dL_law_2075 ?_
  exact sg_br (tgt := 2101) C dL_law_2076 rfl (by decide) (fun _ => fin) (fun z => absurd (Jvm.RoadKit.dcmpV_self hnn _) z)
/-- where the switch goes -/
def swT (k : Nat) : Nat := (#[224, 280, 324, 337, 350, 363, 431, 487, 500, 568, 581, 649, 705, 753, 825, 893, 941, 997, 1053, 1108, 1175, 1254, 1321, 1376, 1431, 1487, 1550, 1605, 1619, 1632, 1645, 1712, 1779, 1835, 1903, 1971, 2027, 2104, 2147, 2191, 2202] : Array Nat).getD k 2226
theorem sw_at : ∀ k, k < 64 → tx_go (.tableswitch 2182 0 40 #[180, 236, 280, 293, 306, 319, 387, 443, 456, 524, 537, 605, 661, 709, 781, 849, 897, 953, 1009, 1064, 1131, 1210, 1277, 1332, 1387, 1443, 1506, 1561, 1575, 1588, 1601, 1668, 1735, 1791, 1859, 1927, 1983, 2060, 2103, 2147, 2158]) [.int (nI k)] = some ((swT k : Int) - 44, []) := by decide +kernel
theorem law_sw (C : Cx E 10 cL_law 10 p s m args meth c) (hT : TX E s) (hEA : ∀ q, q ∈ E.2.2.2.2 → s.heap.size ≤ q) (hoA : s.heap.size ≤ od) (hbl : b < s.heap.size) (hfl : l.stackTraces = false) (hR : 19 ≤ R.frames ∧ 1400 ≤ R.locals) (hcs : cells + 1 ≤ R.cells ∧ slots + 6 ≤ R.slots) (hi : i + 5 ≤ L) (hLL : L ≤ 2560) (hk : Lh p l e R s m args below meth c Q E b L xs x m9 w od (i + 5) (cells + 1) (slots + 6)) (k : Nat) (hk64 : k < 64) : Lp p l e R s m args below meth c Q E b L xs x m9 w od (swT k) i cells slots := by
  by_cases h41 : 41 ≤ k
  · have e1 : swT k = 2226 := by
      unfold swT
      rw [Array.getD_eq_getD_getElem?, Array.getElem?_eq_none (by show 41 ≤ k; exact h41)]
      rfl
    rw [e1]
    exact fun I J P H locs ls y6 y7 y8 y9 hW hv hL => law_next C hk.up hW hv hL
  · match k, (show k < 41 by omega) with
    | 0, _ => exact law_c0 C hT hEA hfl hR hcs hi hLL hk
    | 1, _ => exact law_c1 C hT hEA hfl hR hcs hi hLL hk
    | 2, _ => exact law_c2 C hT hEA hfl hR hcs hi hLL hk
    | 3, _ => exact law_c3 C hT hEA hfl hR hcs hi hLL hk
    | 4, _ => exact law_c4 C hT hEA hfl hR hcs hi hLL hk
    | 5, _ => exact law_c5 C hT hEA hfl hR hcs hi hLL hk
    | 6, _ => exact law_c6 C hT hEA hfl hR hcs hi hLL hk
    | 7, _ => exact law_c7 C hT hEA hfl hR hcs hi hLL hk
    | 8, _ => exact law_c8 C hT hEA hfl hR hcs hi hLL hk
    | 9, _ => exact law_c9 C hT hEA hfl hR hcs hi hLL hk
    | 10, _ => exact law_c10 C hT hEA hfl hR hcs hi hLL hk
    | 11, _ => exact law_c11 C hT hEA hfl hR hcs hi hLL hk
    | 12, _ => exact law_c12 C hT hEA hfl hR hcs hi hLL hk
    | 13, _ => exact law_c13 C hT hEA hfl hR hcs hi hLL hk
    | 14, _ => exact law_c14 C hT hEA hfl hR hcs hi hLL hk
    | 15, _ => exact law_c15 C hT hEA hfl hR hcs hi hLL hk
    | 16, _ => exact law_c16 C hT hEA hfl hR hcs hi hLL hk
    | 17, _ => exact law_c17 C hT hEA hfl hR hcs hi hLL hk
    | 18, _ => exact law_c18 C hT hEA hfl hR hcs hi hLL hk
    | 19, _ => exact law_c19 C hT hEA hfl hR hcs hi hLL hk
    | 20, _ => exact law_c20 C hT hEA hfl hR hcs hi hLL hk
    | 21, _ => exact law_c21 C hT hEA hfl hR hcs hi hLL hk
    | 22, _ => exact law_c22 C hT hEA hfl hR hcs hi hLL hk
    | 23, _ => exact law_c23 C hT hEA hfl hR hcs hi hLL hk
    | 24, _ => exact law_c24 C hT hEA hfl hR hcs hi hLL hk
    | 25, _ => exact law_c25 C hT hEA hfl hR hcs hi hLL hk
    | 26, _ => exact law_c26 C hT hEA hfl hR hcs hi hLL hk
    | 27, _ => exact law_c27 C hT hEA hfl hR hcs hi hLL hk
    | 28, _ => exact law_c28 C hT hEA hfl hR hcs hi hLL hk
    | 29, _ => exact law_c29 C hT hEA hfl hR hcs hi hLL hk
    | 30, _ => exact law_c30 C hT hEA hfl hR hcs hi hLL hk
    | 31, _ => exact law_c31 C hT hEA hfl hR hcs hi hLL hk
    | 32, _ => exact law_c32 C hT hEA hfl hR hcs hi hLL hk
    | 33, _ => exact law_c33 C hT hEA hfl hR hcs hi hLL hk
    | 34, _ => exact law_c34 C hT hEA hfl hR hcs hi hLL hk
    | 35, _ => exact law_c35 C hT hEA hfl hR hcs hi hLL hk
    | 36, _ => exact law_c36 C hT hEA hoA hbl hfl hR hcs hi hLL hk
    | 37, _ => exact law_c37 C hR hcs hk
    | 38, _ => exact law_c38 C hT hEA hfl hR hcs hi hLL hk
    | 39, _ => exact law_c39 C hT hEA hfl hR hcs hi hLL hk
    | 40, _ => exact law_c40 C hT hEA hfl hR hcs hi hLL hk
    | k + 41, h => exact absurd h (by omega)
theorem lt5 {L i : Nat} (hL : L ≤ 2560) (hi : i ≤ 2600) : nI L - 5 < nI i ↔ L < i + 5 := by
  rw [Int32.lt_iff_toInt_lt, Int32.toInt_sub, nI_toInt (by omega), nI_toInt (by omega)]
  have e5 : (5 : Int32).toInt = 5 := rfl
  rw [e5]
  unfold Int.bmod
  simp only []
  split <;> omega
theorem law_loop {CC SS : Nat} (C : Cx E 10 cL_law 10 p s m args meth c) (hT : TX E s) (hEA : ∀ q, q ∈ E.2.2.2.2 → s.heap.size ≤ q) (hoA : s.heap.size ≤ od) (hbl : b < s.heap.size) (hfl : l.stackTraces = false) (hR : 19 ≤ R.frames ∧ 1400 ≤ R.locals) (hCC : CC ≤ R.cells ∧ SS ≤ R.slots) (hLL : L ≤ 2560)
    (hend : ∀ (H : Heap) (locs : List Loc) (ls : Array Slot) (k n : Nat), (∀ z ∈ locs, s.heap.size ≤ z.base) → k ≤ CC → n ≤ SS → W p l e R s m args below meth c H locs k n Q (F0 m 2233 ls [.int 1])) :
    ∀ (n i cells slots : Nat), i ≤ 2600 → L < i + 5 + 5 * n → cells + n ≤ CC → slots + 6 * n ≤ SS → Lh p l e R s m args below meth c Q E b L xs x m9 w od i cells slots := by
  intro n
  induction n with
  | zero =>
    intro i cells slots hi26 hn hc1 hs1 I J P H locs ls y6 y7 y8 y9 hW hv hL
    refine sg_len (M := ML_law) C hW dL_law_31 ?_
    refine sg_alu C dL_law_32 rfl rfl ?_
    refine sg_alu C dL_law_33 rfl rfl ?_
    refine sg_br (tgt := 2232) C dL_law_34 rfl (by decide) (fun _ => ?_) (fun z => absurd ((lt5 hLL hi26).mpr (by omega)) z)
    refine sg_alu C dL_law_2232 rfl rfl ?_
    exact hend H locs ls cells slots (fun z hz => hW.1.2.2.2.2 z hz) (by omega) (by omega)
  | succ n ih =>
    intro i cells slots hi26 hn hc1 hs1 I J P H locs ls y6 y7 y8 y9 hW hv hL
    refine sg_len (M := ML_law) C hW dL_law_31 ?_
    refine sg_alu C dL_law_32 rfl rfl ?_
    refine sg_alu C dL_law_33 rfl rfl ?_
    refine sg_br (tgt := 2232) C dL_law_34 rfl (by decide) (fun _ => ?_) (fun z => ?_)
    · refine sg_alu C dL_law_2232 rfl rfl ?_
      exact hend H locs ls cells slots (fun z hz => hW.1.2.2.2.2 z hz) (by omega) (by omega)
    · have hi : i + 5 ≤ L := Nat.le_of_not_lt (fun q => z ((lt5 hLL hi26).mpr q))
      have hk := ih (i + 5) (cells + 1) (slots + 6) (by omega) (by omega) (by omega) (by omega)
      refine sg_lod C dL_law_37 rfl hL rfl rfl ?_
      refine sg_lod C dL_law_38 rfl hL rfl rfl ?_
      obtain ⟨scr, a1, a2, a3, a4, a5⟩ := hW.2.1
      refine W.iald (v := .int (xs i)) (j := nI i) C.1 C.2.1 a1 a2 a3 (by rw [a4]; exact of_eq_true (vpn (show i < L by omega) (by omega))) (by rw [nI_clamp (by omega)]; exact a5 i (by omega)) rfl rfl dL_law_40 ?_
      show W p l e R s m args below meth c H locs cells slots Q (F0 m 41 ls [.int (xs i)])
      refine sg_alu C dL_law_41 rfl rfl ?_
      refine sg_alu C dL_law_43 rfl rfl ?_
      obtain ⟨k, hk64, ek⟩ := and63 (xs i)
      show W p l e R s m args below meth c H locs cells slots Q (F0 m 44 ls [.int (xs i &&& 63)])
      rw [ek]
      refine sg_go (tgt := swT k) C dL_law_44 (by intro _ h; cases h) (sw_at k hk64) (by omega) ?_
      exact law_sw C hT hEA hoA hbl hfl hR ⟨by omega, by omega⟩ hi hLL hk k hk64 I J P H locs ls y6 y7 y8 y9 hW hv hL
end LAWF

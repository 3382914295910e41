/-! calls that change something, both sides: the common part -/
theorem Bd.of {v : Int32} {n : Nat} (hn : n + 1 < 2 ^ 31) (h1 : 0 ≤ v) (h2 : v ≤ nI n) : Bd v n := by
  rcases idx (n + 1) hn v with h | ⟨k, hk, rfl⟩
  · exact absurd ⟨h1, h2⟩ (bad_rng n hn h)
  · exact ⟨k, by omega, rfl⟩
section CHG
variable {l : Launch} {E : tx_En} {S N : Nat → Nat} {I I1 I2 : IM} {J J1 J2 J3 : JM} {P P1 : PM} {x m w b d : Nat} {xs : Nat → Int32} {g : Nat → Int32} {h : Nat → Int64} {nb nc nk pn : Nat} {G : Nat → Nat → Int32} {H : Nat → Nat → Int64} {sv : Int32} {g3 : Nat → Int32} {h3 : Nat → Int64} {c : Nat → Int32} {n : Nat} {f : Int32} {M M9 ML : MR} {hL : List (Nat × Nat × Nat × Nat)} {aw a9 As : List Value} {V : Value} {v : Int64} {k : Int32}
theorem MI.onP (h0 : MI S N m P I J g h pn G H sv g3 h3 c n f) (hP : P1 m = P m) (hI : ∀ a, m ≤ a → a < m + 8 → I1 a = I a ∧ J1 a = J a) : MI S N m P1 I1 J1 g h pn G H sv g3 h3 c n f := by
  have h1 := h0.on hI
  refine ⟨?_, h1.2⟩
  have h2 := h0.1
  unfold MdS at h2 ⊢
  rw [hP]
  exact h2
theorem mi_fy (h0 : MI S N m P I J g h pn G H sv g3 h3 c n f) (a1 : x + 303 ≤ m) (a2 : m + 15 ≤ w) (hP : P1 m = P m) (hfy : Fy x I I1 J J1) (hJ : ∀ a, a ≠ w → J3 a = J1 a) : MI S N m P1 I1 J3 g h pn G H sv g3 h3 c n f :=
  h0.onP hP (fun a z1 z2 => ⟨(hfy a (by omega)).1, by rw [hJ a (by omega)]; exact (hfy a (by omega)).2⟩)
theorem opc_ok (hb1 : I1 b = xs) (hW : MtW l E ML hL aw I J P (some (.int 0)) I1 J3 P1) (hm : CWp E.2.2.1 E.2.2.2.1 11 M9 a9 I1 J3 P1 (fun r I2 J2 P2 => P2 = P1 ∧ I2 m 8 = 0 ∧ (∀ v, r = some v → J2 w 0 = toL v) ∧ Iv E.2.2.1 E.2.2.2.1 x m w b xs P1 I2 J2)) : OpW l E M9 ML hL aw a9 x m w b xs I J P := by
  obtain ⟨r, I2, J2, P2, ⟨rfl, q1, q2, q3⟩, hc⟩ := cw_ex hm
  exact ⟨0, I1, _, _, _, I2, J2, hW, hb1, hc, q1, fun _ => q2, q3⟩
theorem opx_ok (hb1 : I1 b = xs) (hk : k ≠ 0) (hW : MtW l E ML hL aw I J P (some (.int k)) I1 J1 P) (hm : CWp E.2.2.1 E.2.2.2.1 11 M9 a9 I1 J1 P (fun r I2 J2 P2 => P2 = P ∧ I2 m 8 = k ∧ Iv E.2.2.1 E.2.2.2.1 x m w b xs P I2 J2)) : OpW l E M9 ML hL aw a9 x m w b xs I J P := by
  obtain ⟨r, I2, J2, P2, ⟨rfl, q1, q3⟩, hc⟩ := cw_ex hm
  exact ⟨k, I1, _, _, _, I2, J2, hW, hb1, hc, q1, fun z => absurd z hk, q3⟩
theorem opd_ok {M8 : MR} {r : Option Value} (hb1 : I1 b = xs) (hW : CWp E.2.2.1 E.2.2.2.1 11 M8 [.ref x] I J P (Qe r I1 J1 P1)) (hm : CWp E.2.2.1 E.2.2.2.1 11 M9 [.ref m] I1 J1 P1 (fun r9 I2 J2 P2 => r9 = r ∧ P2 = P1 ∧ Iv E.2.2.1 E.2.2.2.1 x m w b xs P1 I2 J2)) : OpD E M8 M9 x m w b xs I J P := by
  obtain ⟨r2, I2, J2, P2, ⟨rfl, rfl, q2⟩, hc⟩ := cw_ex hm
  exact ⟨_, I1, J1, _, I2, J2, hW, hb1, hc, q2⟩
theorem chg (a1 : x + 303 ≤ m) (a2 : m + 15 ≤ w) (a3 : b < x) (hSN : S w = 11 ∧ N w = 1) (hb : I b = xs) (hn : n ≤ 80) (hM : MI S N m P I J g h pn G H sv g3 h3 c n f)
    {πd π1 πs : Nat → Nat} {πh : Nat → Nat → Nat} (hsv : I x 4 = sv ∧ (sv = 0 ∨ (sv = 1 ∧ ∃ b3 c3 k3, Gd g3 b3 c3 k3 ∧ Led I J (x + 59) πs g3 h3 b3 c3 k3))) (hT : I (x + 2) = c ∧ I (x + 1) 1 = nI n ∧ I (x + 1) 2 = f)
    (hw1 : WbS S N P1 x πd π1 πs πh) (hP : P1 m = P m) (hfy : Fy x I I1 J J1) {pn1 o1 nb1 nc1 nk1 : Nat} {G1 : Nat → Nat → Int32} {H1 : Nat → Nat → Int64} (hH1 : Hst I1 J1 (x + 89) πh pn1 o1 G1 H1) (hJ3 : ∀ a, a ≠ w → J3 a = J1 a)
    (e1 : ∀ a, a ≠ m → a ≠ m + 1 → a ≠ m + 5 → I2 a = I1 a) (e2 : ∀ k, k ≠ 7 → k ≠ 8 → k ≠ 21 → I2 m k = I1 m k) (e3 : ∀ a, a < m + 2 ∨ m + 14 < a ∨ a = m + 4 → J2 a = J3 a) (hp : Pas m I2 J2 pn1 G1 H1) (hg1 : Gd (I2 (m + 1)) nb1 nc1 nk1) (hr1 : Led I1 J1 (x + 29) π1 (I2 (m + 1)) (J2 (m + 2)) nb1 nc1 nk1) : Iv S N x m w b xs P1 I2 J2 := by
  have hM1 := mi_fy hM a1 a2 hP hfy hJ3
  obtain ⟨m1, m2, m3, m4, ⟨m5, m6, m7⟩, m8, m9, m10⟩ := hM1
  have hC1 : CI S N x P1 I1 J1 (I2 (m + 1)) (J2 (m + 2)) nb1 nc1 nk1 pn1 G1 H1 sv g3 h3 c n f := by
    refine ⟨πd, π1, πs, πh, o1, hw1, hr1, hH1, ⟨by rw [(hfy x (by omega)).1]; exact hsv.1, ?_⟩, by rw [(hfy (x + 2) (by omega)).1]; exact hT.1, by rw [(hfy (x + 1) (by omega)).1]; exact hT.2.1, by rw [(hfy (x + 1) (by omega)).1]; exact hT.2.2⟩
    rcases hsv.2 with z | ⟨z, b3, c3, k3, z1, z2⟩
    · exact Or.inl z
    · exact Or.inr ⟨z, b3, c3, k3, z1, z2.on hw1.sv z1.cb (fun a q1 q2 => (hfy a (by omega)).1) (fun a q1 q2 => (hfy a (by omega)).2)⟩
  refine ⟨⟨a1, a2, a3⟩, hSN, ?_, _, _, nb1, nc1, nk1, pn1, G1, H1, sv, g3, h3, c, n, f, hg1, hn, hC1.q hg1 (fun a z1 z2 => ⟨?_, ?_⟩), m1, rfl, rfl, hp, ⟨?_, ?_, ?_⟩, ?_, ?_, ?_⟩
  · rw [e1 b (by omega) (by omega) (by omega), (hfy b (by omega)).1]; exact hb
  · exact e1 a (by omega) (by omega) (by omega)
  · rw [e3 a (by omega), hJ3 a (by omega)]
  · rw [e2 4 (by decide) (by decide) (by decide)]; exact m5
  · rw [e1 _ (by omega) (by omega) (by omega)]; exact m6
  · rw [e3 _ (by omega)]; exact m7
  · rw [e1 _ (by omega) (by omega) (by omega)]; exact m8
  · rw [e2 10 (by decide) (by decide) (by decide)]; exact m9
  · rw [e2 13 (by decide) (by decide) (by decide)]; exact m10
end CHG
section GCH
variable {g g' : Nat → Int32} {nb nc nk : Nat}
theorem Gd.person (h : Gd g nb nc nk) {p : Nat} {e o dd : Int32} (hp : p < 6) (h1 : 0 ≤ e ∧ e ≤ 9999) (h2 : 0 ≤ o ∧ o ≤ 9999) (h3 : 0 ≤ dd ∧ dd ≤ 9) (he : ∀ y, g' y = if y = 64 + 3 * p then e else if y = 65 + 3 * p then o else if y = 66 + 3 * p then dd else g y) : Gd g' nb nc nk := by
  obtain ⟨hB, hS, hC, hK, hA, hP⟩ := Gd_iff.mp h
  have off : ∀ y, y < 64 ∨ 82 ≤ y → g' y = g y := fun y hy => by rw [he, if_neg (by omega), if_neg (by omega), if_neg (by omega)]
  have b1 : Bd e 9999 := Bd.of (by decide) h1.1 (by rw [show nI 9999 = (9999 : Int32) by decide]; exact h1.2)
  have b2 : Bd o 9999 := Bd.of (by decide) h2.1 (by rw [show nI 9999 = (9999 : Int32) by decide]; exact h2.2)
  have b3 : Bd dd 9 := Bd.of (by decide) h3.1 h3.2
  have dep : ∀ r, r < 6 → Bd (g' (66 + 3 * r)) 9 := fun r hr => by
    rw [he, if_neg (by omega), if_neg (by omega)]
    split
    · exact b3
    · exact (hP r hr).2.2
  refine Gd_iff.mpr ⟨hB.cg (fun y _ => off y (by omega)), hS.cg (fun y _ _ => off y (by omega)), hC.cg (fun y _ _ => off y (by omega)), hK.cg (fun y _ _ => off y (by omega)), fun r hr => ?_, fun r hr => ⟨?_, ?_, dep r hr⟩⟩
  · rcases hA r hr with z | ⟨q, z1, z2, z3, z4, z5, -⟩
    · exact Or.inl (by rw [off _ (by omega)]; exact z)
    · obtain ⟨a, ha, ea⟩ := dep r hr
      obtain ⟨b, hb, eb⟩ := dep q z2
      exact Or.inr ⟨q, z1, z2, z3, by rw [off _ (by omega)]; exact z4, by rw [off _ (by omega)]; exact z5, a, b, ea, eb, ha, hb⟩
  · rw [he]
    split
    · exact b1
    · rw [if_neg (by omega), if_neg (by omega)]; exact (hP r hr).1
  · rw [he, if_neg (by omega)]
    split
    · exact b2
    · rw [if_neg (by omega)]; exact (hP r hr).2.1
theorem Gd.part82 (h : Gd g nb nc nk) (off : ∀ y, y < 82 ∨ 88 ≤ y → g' y = g y) (hA : ∀ r, r < 6 → g' (82 + r) = -1 ∨ ∃ q, r < 6 ∧ q < 6 ∧ r ≠ q ∧ g' (82 + r) = nI q ∧ g' (82 + q) = nI r) : Gd g' nb nc nk := by
  obtain ⟨hB, hS, hC, hK, -, hP⟩ := Gd_iff.mp h
  refine Gd_iff.mpr ⟨hB.cg (fun y _ => off y (by omega)), hS.cg (fun y _ _ => off y (by omega)), hC.cg (fun y _ _ => off y (by omega)), hK.cg (fun y _ _ => off y (by omega)), fun r hr => ?_, fun r hr => ?_⟩
  · rcases hA r hr with z | ⟨q, z1, z2, z3, z4, z5⟩
    · exact Or.inl z
    · obtain ⟨a, ha, ea⟩ := (hP r hr).2.2
      obtain ⟨b, hb, eb⟩ := (hP q z2).2.2
      exact Or.inr ⟨q, z1, z2, z3, z4, z5, a, b, by rw [off _ (by omega)]; exact ea, by rw [off _ (by omega)]; exact eb, ha, hb⟩
  · rw [off _ (by omega), off _ (by omega), off _ (by omega)]; exact hP r hr
theorem Gd.marry (h : Gd g nb nc nk) {p q : Nat} (hp : p < 6) (hq : q < 6) (hne : p ≠ q) (h1 : g (82 + p) = -1) (h2 : g (82 + q) = -1) (he : ∀ y, g' y = if y = 82 + p then nI q else if y = 82 + q then nI p else g y) : Gd g' nb nc nk := by
  refine h.part82 (fun y hy => by rw [he, if_neg (by omega), if_neg (by omega)]) (fun r hr => ?_)
  by_cases e1 : r = p
  · subst e1
    exact Or.inr ⟨q, hr, hq, hne, by rw [he, if_pos rfl], by rw [he, if_neg (by omega), if_pos rfl]⟩
  · by_cases e2 : r = q
    · subst e2
      exact Or.inr ⟨p, hr, hp, fun z => hne z.symm, by rw [he, if_neg (by omega), if_pos rfl], by rw [he, if_pos rfl]⟩
    · rcases h.2.1 r hr with z | ⟨s, z1, z2, z3, z4, z5, -⟩
      · exact Or.inl (by rw [he, if_neg (by omega), if_neg (by omega)]; exact z)
      · have n1 : s ≠ p := fun z => by
          rw [z, h1] at z5
          have : ¬ nI r < 0 := nI_pos (by omega)
          rw [← z5] at this
          exact this (by decide)
        have n2 : s ≠ q := fun z => by
          rw [z, h2] at z5
          have : ¬ nI r < 0 := nI_pos (by omega)
          rw [← z5] at this
          exact this (by decide)
        exact Or.inr ⟨s, z1, z2, z3, by rw [he, if_neg (by omega), if_neg (by omega)]; exact z4, by rw [he, if_neg (by omega), if_neg (by omega)]; exact z5⟩
theorem Gd.parted (h : Gd g nb nc nk) {p q : Nat} (hcp : Cp g p q) (he : ∀ y, g' y = if y = 82 + p then -1 else if y = 82 + q then -1 else g y) : Gd g' nb nc nk := by
  obtain ⟨hp, hq, hne, h1, h2, -⟩ := hcp
  refine h.part82 (fun y hy => by rw [he, if_neg (by omega), if_neg (by omega)]) (fun r hr => ?_)
  by_cases e1 : r = p
  · exact Or.inl (by rw [he, if_pos (by omega)])
  · by_cases e2 : r = q
    · exact Or.inl (by rw [he, if_neg (by omega), if_pos (by omega)])
    · rcases h.2.1 r hr with z | ⟨s, z1, z2, z3, z4, z5, -⟩
      · exact Or.inl (by rw [he, if_neg (by omega), if_neg (by omega)]; exact z)
      · have n1 : s ≠ p := fun z => by
          rw [z, h1] at z5
          have := (nI_eq (by omega) (by omega)).mp z5
          omega
        have n2 : s ≠ q := fun z => by
          rw [z, h2] at z5
          have := (nI_eq (by omega) (by omega)).mp z5
          omega
        exact Or.inr ⟨s, z1, z2, z3, by rw [he, if_neg (by omega), if_neg (by omega)]; exact z4, by rw [he, if_neg (by omega), if_neg (by omega)]; exact z5⟩
theorem Gd.rows (h : Gd g nb nc nk) {nk' : Nat} {π : Nat → Nat} (hk6 : nk' ≤ 6) (hπ : ∀ k, k < nk' → π k < nk) (off : ∀ y, y < 27 ∨ 64 ≤ y → g' y = g y) (h27 : g' 27 = nI nk') (he : ∀ k j, k < 6 → j < 6 → g' (28 + 6 * k + j) = g (28 + 6 * π k + j)) : Gd g' nb nc nk' := by
  obtain ⟨hB, hS, hC, hK, hP⟩ := Gd_iff.mp h
  refine Gd_iff.mpr ⟨hB.cg (fun y _ => off y (by omega)), hS.cg (fun y _ _ => off y (by omega)), hC.cg (fun y _ _ => off y (by omega)), ⟨hk6, h27, fun k hk => ?_⟩, hP.cg (fun y _ _ => off y (by omega))⟩
  have z := hK.2.2 (π k) (hπ k hk)
  have e0 := he k 0 (by omega) (by decide)
  have e1 := he k 1 (by omega) (by decide)
  have e2 := he k 2 (by omega) (by decide)
  have e3 := he k 3 (by omega) (by decide)
  have e4 := he k 4 (by omega) (by decide)
  have e5 := he k 5 (by omega) (by decide)
  rw [Nat.add_zero, Nat.add_zero] at e0
  rw [show 28 + 6 * k + 1 = 29 + 6 * k by omega, show 28 + 6 * π k + 1 = 29 + 6 * π k by omega] at e1
  rw [show 28 + 6 * k + 2 = 30 + 6 * k by omega, show 28 + 6 * π k + 2 = 30 + 6 * π k by omega] at e2
  rw [show 28 + 6 * k + 3 = 31 + 6 * k by omega, show 28 + 6 * π k + 3 = 31 + 6 * π k by omega] at e3
  rw [show 28 + 6 * k + 4 = 32 + 6 * k by omega, show 28 + 6 * π k + 4 = 32 + 6 * π k by omega] at e4
  rw [show 28 + 6 * k + 5 = 33 + 6 * k by omega, show 28 + 6 * π k + 5 = 33 + 6 * π k by omega] at e5
  rw [e0, e1, e2, e3, e4, e5]
  exact z
theorem Gd.cleared (h : Gd g nb nc nk) (he : ∀ k, g' k = if k = 0 then 1 else if k < 64 then 0 else g k) : Gd g' 1 0 0 := by
  obtain ⟨hB, hS, hC, hK, hP⟩ := Gd_iff.mp h
  have z : ∀ y k, 0 < y → y < 64 → Bd (g' y) k := fun y k h1 h2 => by
    rw [he, if_neg (by omega), if_pos h2]
    exact Bd.n (v := 0) (by omega)
  refine Gd_iff.mpr ⟨⟨by decide, by decide, by rw [he]; rfl, fun k hk => ⟨z _ _ (by omega) (by omega), z _ _ (by omega) (by omega)⟩⟩, ⟨fun j hj => z _ _ (by omega) (by omega), z _ _ (by decide) (by decide), z _ _ (by decide) (by decide)⟩, ⟨by decide, by rw [he]; rfl, fun k hk => absurd hk (by omega)⟩, ⟨by decide, by rw [he]; rfl, fun k hk => absurd hk (by omega)⟩, hP.cg (fun y h1 h2 => by rw [he, if_neg (by omega), if_neg (by omega)])⟩
theorem Gd.year (h : Gd g nb nc nk) {v : Int32} (he : ∀ k, g' k = if k = 88 then v else g k) : Gd g' nb nc nk := by
  obtain ⟨hB, hS, hC, hK, hP⟩ := Gd_iff.mp h
  exact Gd_iff.mpr ⟨hB.cg (fun y _ => by rw [he, if_neg (by omega)]), hS.cg (fun y _ _ => by rw [he, if_neg (by omega)]), hC.cg (fun y _ _ => by rw [he, if_neg (by omega)]), hK.cg (fun y _ _ => by rw [he, if_neg (by omega)]), hP.cg (fun y _ _ => by rw [he, if_neg (by omega)])⟩
end GCH

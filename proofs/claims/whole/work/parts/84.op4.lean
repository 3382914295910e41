/-! calls that change something, both sides -/
theorem mvp_in {f t i n : Nat} (hf : f < n) (ht : t < n) (hi : i < n) : mvp f t i < n := by
  unfold mvp
  split
  · exact hf
  · split
    · omega
    · split
      · omega
      · exact hi
theorem Led.gh {I : IM} {J : JM} {l : Nat} {π : Nat → Nat} {g g' : Nat → Int32} {h h' : Nat → Int64} {nb nc nk : Nat} (hb : Cb nb nc nk) (hr : Led I J l π g h nb nc nk) (hg : ∀ k, k < 89 → g' k = g k) (hh : ∀ k, k < 36 → h' k = h k) : Led I J l π g' h' nb nc nk := hr.cg hb hg (fun p k hp hk => hh _ (by have := hb.2.2; omega))
section OPC
variable {l : Launch} {E : tx_En} {I : IM} {J : JM} {P : PM} {x m w b : Nat} {xs : Nat → Int32}
theorem op_appendCharacter (hE : tx_ok E) (hfl : l.stackTraces = false) (hv : Iv E.2.2.1 E.2.2.2.1 x m w b xs P I J) (p0 : Int32) : OpW l E MX9_appendCharacter ML_appendCharacter hL_appendCharacter [.ref x, .int p0, .ref w] [.ref m, .int p0] x m w b xs I J P := by
  obtain ⟨⟨a1, a2, a3⟩, ⟨hSo, hNo⟩, hb, g, h, nb, nc, nk, pn, G, H, sv, g3, h3, c, n, f, hg, hn, ⟨πd, π, πs, πh, o, hw, hr, hH, hsv, hT⟩, hM⟩ := id hv
  have hS8 := hw.f.1
  have hm := hM.1
  by_cases hc : 33 ≤ p0 ∧ p0 ≤ 126
  · by_cases h80 : n = 80
    · subst h80
      exact opq_x hv (k := 2) (by decide) (LW_appendCharacter_x2 hE hS8 hSo hNo (by decide) (t_append2 hE hfl hw hc hT.2.1)) Fr.rf ((s_append_full (d := 10) hm hc hM.2.2.2.2.2.2.1).mpr qb1)
    · have hn8 : n < 80 := by omega
      obtain ⟨m1, m2, m3, m4, ⟨m5, m6, m7⟩, m8, m9, m10⟩ := hM
      have hW := (w_append (d := 10) (Q := Qe (some (.int (nI (n + 1)))) (u2 (u2 I (x + 2) n p0) (x + 1) 1 (nI (n + 1))) J P) hw hc hn8 hT.2.1).mpr ⟨rfl, rfl, rfl, rfl⟩
      have f1 : ∀ a, a ≠ x + 1 → a ≠ x + 2 → (u2 (u2 I (x + 2) n p0) (x + 1) 1 (nI (n + 1))) a = I a := fun a z1 z2 => by rw [u2_off _ _ _ z1, u2_off _ _ _ z2]
      refine opc_ok (w := w) (by rw [f1 b (by omega) (by omega)]; exact hb) (LW_appendCharacter_ok hE hS8 hSo hNo (by decide) hW) ?_
      refine (s_append_ok (d := 10) m1 hc hn8 (by rw [f1 _ (by omega) (by omega)]; exact m9)).mpr ⟨rfl, ?_, ?_, ?_⟩
      · rw [u2k _ _ _ (by decide), u2_off _ _ _ (by omega), u2s]
      · intro v e
        cases e
        rw [u2s]
        rfl
      · have q1 : ∀ a, a ≠ x + 1 → a ≠ x + 2 → a ≠ m → a ≠ m + 7 → (u2 (u2 (u2 (u2 (u2 I (x + 2) n p0) (x + 1) 1 (nI (n + 1))) m 8 0) (m + 7) n p0) m 10 (nI (n + 1))) a = I a := fun a z1 z2 z3 z4 => by
          rw [u2_off _ _ _ z3, u2_off _ _ _ z4, u2_off _ _ _ z3, f1 a z1 z2]
        have q2 : ∀ k, k ≠ 8 → k ≠ 10 → (u2 (u2 (u2 (u2 (u2 I (x + 2) n p0) (x + 1) 1 (nI (n + 1))) m 8 0) (m + 7) n p0) m 10 (nI (n + 1))) m k = I m k := fun k z1 z2 => by
          rw [u2k _ _ _ z2, u2_off _ _ _ (by omega), u2k _ _ _ z1, f1 m (by omega) (by omega)]
        have qx : ∀ a, a ≠ m → a ≠ m + 7 → (u2 (u2 (u2 (u2 (u2 I (x + 2) n p0) (x + 1) 1 (nI (n + 1))) m 8 0) (m + 7) n p0) m 10 (nI (n + 1))) a = (u2 (u2 I (x + 2) n p0) (x + 1) 1 (nI (n + 1))) a := fun a z3 z4 => by
          rw [u2_off _ _ _ z3, u2_off _ _ _ z4, u2_off _ _ _ z3]
        have jo : ∀ a, a ≠ w → (u2 J w 0 (nI (n + 1)).toInt64) a = J a := fun a ha => u2_off _ _ _ ha
        refine ⟨⟨a1, a2, a3⟩, ⟨hSo, hNo⟩, by rw [q1 b (by omega) (by omega) (by omega) (by omega)]; exact hb, g, h, nb, nc, nk, pn, G, H, sv, g3, h3, u2 I (x + 2) n p0 (x + 2), n + 1, f, hg, by omega, ⟨πd, π, πs, πh, o, hw, ?_, ?_, ⟨?_, ?_⟩, ?_, ?_, ?_⟩, m1, ?_, ?_, m4.on ?_ ?_ ?_, ⟨?_, ?_, ?_⟩, ?_, ?_, ?_⟩
        · exact hr.on hw.le hg.cb (fun a z1 z2 => q1 a (by omega) (by omega) (by omega) (by omega)) (fun a z1 z2 => jo a (by omega))
        · exact hH.on hw.hi (fun a z1 z2 => q1 a (by omega) (by omega) (by omega) (by omega)) (fun a z1 z2 => jo a (by omega))
        · rw [q1 x (by omega) (by omega) (by omega) (by omega)]; exact hsv.1
        · rcases hsv.2 with z | ⟨z, b3, c3, k3, z1, z2⟩
          · exact Or.inl z
          · exact Or.inr ⟨z, b3, c3, k3, z1, z2.on hw.sv z1.cb (fun a q3 q4 => q1 a (by omega) (by omega) (by omega) (by omega)) (fun a q3 q4 => jo a (by omega))⟩
        · rw [qx _ (by omega) (by omega), u2_off _ _ _ (by omega)]
        · rw [qx _ (by omega) (by omega), u2s]
        · rw [qx _ (by omega) (by omega), u2k _ _ _ (by decide), u2_off _ _ _ (by omega)]; exact hT.2.2
        · rw [q1 _ (by omega) (by omega) (by omega) (by omega)]; exact m2
        · rw [jo _ (by omega)]; exact m3
        · exact q2 7 (by decide) (by decide)
        · exact q1 _ (by omega) (by omega) (by omega) (by omega)
        · exact jo _ (by omega)
        · rw [q2 4 (by decide) (by decide)]; exact m5
        · rw [q1 _ (by omega) (by omega) (by omega) (by omega)]; exact m6
        · rw [jo _ (by omega)]; exact m7
        · rw [u2_off _ _ _ (by omega)]
          funext k
          by_cases hk : k = n
          · subst hk
            rw [u2s, u2s]
          · rw [u2k _ _ _ hk, u2k _ _ _ hk, u2_off _ _ _ (by omega), f1 _ (by omega) (by omega), m8, hT.1]
        · rw [u2s]
        · rw [q2 13 (by decide) (by decide)]; exact m10
  · exact opq_x hv (k := 1) (by decide) (LW_appendCharacter_x1 hE hS8 hSo hNo (by decide) (t_append1 hE hfl hw hc)) Fr.rf ((s_append_bad (d := 10) hm hc).mpr qb1)
theorem op_setPerson (hE : tx_ok E) (hfl : l.stackTraces = false) (hv : Iv E.2.2.1 E.2.2.2.1 x m w b xs P I J) (p0 p1 p2 p3 : Int32) : OpW l E MX9_setPerson ML_setPerson hL_setPerson [.ref x, .int p0, .int p1, .int p2, .int p3] [.ref m, .int p0, .int p1, .int p2, .int p3] x m w b xs I J P := by
  obtain ⟨⟨a1, a2, a3⟩, hSN, hb, g, h, nb, nc, nk, pn, G, H, sv, g3, h3, c, n, f, hg, hn, ⟨πd, π, πs, πh, o, hw, hr, hH, hsv, hT⟩, hM⟩ := id hv
  have hS8 := hw.f.1
  have hm := hM.1
  rcases idx 6 (by decide) p0 with hbp | ⟨p, hp, rfl⟩
  · exact opq_x hv (k := 1) (by decide) (LW_setPerson_x1 hE hS8 (by decide) (t_setPerson1 hE hfl hw hbp)) Fr.rf ((s_setPerson_bad1 (d := 9) hm hbp).mpr qb1)
  by_cases r1 : 0 ≤ p1 ∧ p1 ≤ 9999
  · by_cases r2 : 0 ≤ p2 ∧ p2 ≤ 9999
    · by_cases r3 : 0 ≤ p3 ∧ p3 ≤ 9
      · obtain ⟨r, I1, J1, P1, ⟨rfl, rfl, o1, f1, f2, f3⟩, hc⟩ := cw_ex (w_setPerson (d := 6) (Q := fun r I' J' P' => r = none ∧ P' = P ∧ ∃ o', Fy x I I' J J' ∧ Hst I' J' (x + 89) πh (psn pn) o' (psh pn G g) (psh pn H h) ∧ (∀ (g' : Nat → Int32), (∀ k, g' k = if k = 64 + 3 * p then p1 else if k = 65 + 3 * p then p2 else if k = 66 + 3 * p then p3 else g k) → Led I' J' (x + 29) π g' h nb nc nk)) hw hg hr hH hp r1 r2 r3 (fun I1 J1 o1 f1 f2 f3 => ⟨rfl, rfl, o1, f1, f2, f3⟩))
        have hM1 := mi_fy hM a1 a2 (P1 := P1) rfl f1 (J3 := J1) (fun _ _ => rfl)
        refine opc_ok (w := w) (by rw [(f1 b (by omega)).1]; exact hb) (LW_setPerson_ok hE hS8 (by decide) hc) (s_setPerson_ok (d := 9) hM1.1 hM1.2.1 hM1.2.2.1 hp r1 r2 r3 hM1.2.2.2.1 (fun I2 J2 b1 b2 b3 b4 b5 b6 b7 => ⟨rfl, b4, fun v e => (by cases e), chg a1 a2 a3 hSN hb hn hM hsv hT hw rfl f1 f2 (J3 := J1) (fun _ _ => rfl) b2 (fun k k1 k2 _ => b3 k k1 k2) (fun a ha => b5 a (by omega) (by omega)) b7 (hg.person hp r1 r2 r3 b1) (by rw [b6]; exact f3 _ b1)⟩))
      · exact opq_x hv (k := 2) (by decide) (LW_setPerson_x2 hE hS8 (by decide) (t_setPerson4 hE hfl hw hp r1 r2 r3)) Fr.rf ((s_setPerson_bad2 (d := 9) hm hp (fun z => r3 z.2.2)).mpr qb1)
    · exact opq_x hv (k := 2) (by decide) (LW_setPerson_x2 hE hS8 (by decide) (t_setPerson3 hE hfl hw hp r1 r2)) Fr.rf ((s_setPerson_bad2 (d := 9) hm hp (fun z => r2 z.2.1)).mpr qb1)
  · exact opq_x hv (k := 2) (by decide) (LW_setPerson_x2 hE hS8 (by decide) (t_setPerson2 hE hfl hw hp r1)) Fr.rf ((s_setPerson_bad2 (d := 9) hm hp (fun z => r1 z.1)).mpr qb1)
theorem op_marry (hE : tx_ok E) (hfl : l.stackTraces = false) (hv : Iv E.2.2.1 E.2.2.2.1 x m w b xs P I J) (p0 p1 : Int32) : OpW l E MX9_marry ML_marry hL_marry [.ref x, .int p0, .int p1] [.ref m, .int p0, .int p1] x m w b xs I J P := by
  obtain ⟨⟨a1, a2, a3⟩, hSN, hb, g, h, nb, nc, nk, pn, G, H, sv, g3, h3, c, n, f, hg, hn, ⟨πd, π, πs, πh, o, hw, hr, hH, hsv, hT⟩, hM⟩ := id hv
  have hS8 := hw.f.1
  have hm := hM.1
  rcases idx 6 (by decide) p0 with hbp | ⟨p, hp, rfl⟩
  · exact opq_x hv (k := 1) (by decide) (LW_marry_x1 hE hS8 (by decide) (t_marry1 hE hfl hw hbp)) Fr.rf ((s_marry_bad1 (d := 9) hm hbp).mpr qb1)
  rcases idx 6 (by decide) p1 with hbq | ⟨q, hq, rfl⟩
  · exact opq_x hv (k := 1) (by decide) (LW_marry_x1 hE hS8 (by decide) (t_marry2 hE hfl hw hp hbq)) Fr.rf ((s_marry_bad2 (d := 9) hm hp hbq).mpr qb1)
  by_cases hne : p = q
  · subst hne
    exact opq_x hv (k := 2) (by decide) (LW_marry_x2 hE hS8 (by decide) (t_marry3 hE hfl hw hp)) Fr.rf ((s_marry_same (d := 9) hm hp).mpr qb1)
  by_cases ht : g (82 + p) = -1 ∧ g (82 + q) = -1
  · obtain ⟨r, I1, J1, P1, ⟨rfl, rfl, o1, f1, f2, f3⟩, hc⟩ := cw_ex (w_marry (d := 6) (Q := fun r I' J' P' => r = none ∧ P' = P ∧ ∃ o', Fy x I I' J J' ∧ Hst I' J' (x + 89) πh (psn pn) o' (psh pn G g) (psh pn H h) ∧ (∀ (g' : Nat → Int32), (∀ k, g' k = if k = 82 + p then nI q else if k = 82 + q then nI p else g k) → Led I' J' (x + 29) π g' h nb nc nk)) hw hg hr hH hp hq hne ht.1 ht.2 (fun I1 J1 o1 f1 f2 f3 => ⟨rfl, rfl, o1, f1, f2, f3⟩))
    have hM1 := mi_fy hM a1 a2 (P1 := P1) rfl f1 (J3 := J1) (fun _ _ => rfl)
    refine opc_ok (w := w) (by rw [(f1 b (by omega)).1]; exact hb) (LW_marry_ok hE hS8 (by decide) hc) (s_marry_ok (d := 9) hM1.1 hM1.2.1 hM1.2.2.1 hp hq hne (by rw [ht.1]; decide) (by rw [ht.2]; decide) hM1.2.2.2.1 (fun I2 J2 b1 b2 b3 b4 b5 b6 b7 => ⟨rfl, b4, fun v e => (by cases e), chg a1 a2 a3 hSN hb hn hM hsv hT hw rfl f1 f2 (J3 := J1) (fun _ _ => rfl) b2 (fun k k1 k2 _ => b3 k k1 k2) (fun a ha => b5 a (by omega) (by omega)) b7 (hg.marry hp hq hne ht.1 ht.2 b1) (by rw [b6]; exact f3 _ b1)⟩))
  · have hz : 0 ≤ g (82 + p) ∨ 0 ≤ g (82 + q) := by
      rcases hg.2.1 p hp with z | ⟨s, z⟩
      · rcases hg.2.1 q hq with y | ⟨s, y⟩
        · exact absurd ⟨z, y⟩ ht
        · exact Or.inr y.ge
      · exact Or.inl z.ge
    exact opq_x hv (k := 3) (by decide) (LW_marry_x3 hE hS8 (by decide) (t_marry4 hE hfl hw hr hp hq hne ht)) Fr.rf ((s_marry_taken (d := 9) hm hM.2.1 hp hq hne hz).mpr qb1)
theorem op_part (hE : tx_ok E) (hfl : l.stackTraces = false) (hv : Iv E.2.2.1 E.2.2.2.1 x m w b xs P I J) (p0 : Int32) : OpW l E MX9_part ML_part hL_part [.ref x, .int p0, .ref w] [.ref m, .int p0] x m w b xs I J P := by
  obtain ⟨⟨a1, a2, a3⟩, hSN, hb, g, h, nb, nc, nk, pn, G, H, sv, g3, h3, c, n, f, hg, hn, ⟨πd, π, πs, πh, o, hw, hr, hH, hsv, hT⟩, hM⟩ := id hv
  have hS8 := hw.f.1
  have hm := hM.1
  rcases idx 6 (by decide) p0 with hbp | ⟨p, hp, rfl⟩
  · exact opq_x hv (k := 1) (by decide) (LW_part_x1 hE hS8 hSN.1 hSN.2 (by decide) (t_part1 hE hfl hw hbp)) Fr.rf ((s_part_bad (d := 8) hm hbp).mpr qb1)
  rcases hg.2.1 p hp with hs | ⟨q, hcp⟩
  · exact opq_x hv (k := 2) (by decide) (LW_part_x2 hE hS8 hSN.1 hSN.2 (by decide) (t_part2 hE hfl hw hr hp hs)) Fr.rf ((s_part_no (d := 8) hm hM.2.1 hp (by rw [hs]; decide)).mpr qb1)
  · obtain ⟨r, I1, J1, P1, ⟨rfl, rfl, o1, f1, f2, f3⟩, hc⟩ := cw_ex (w_part (d := 6) (Q := fun r I' J' P' => r = some (.int (nI q)) ∧ P' = P ∧ ∃ o', Fy x I I' J J' ∧ Hst I' J' (x + 89) πh (psn pn) o' (psh pn G g) (psh pn H h) ∧ (∀ (g' : Nat → Int32), (∀ k, g' k = if k = 82 + p then -1 else if k = 82 + q then -1 else g k) → Led I' J' (x + 29) π g' h nb nc nk)) hw hg hr hH hcp (fun I1 J1 o1 f1 f2 f3 => ⟨rfl, rfl, o1, f1, f2, f3⟩))
    have hj : ∀ a, a ≠ w → (u2 J1 w 0 (nI q).toInt64) a = J1 a := fun a ha => u2_off _ _ _ ha
    have hM1 := mi_fy hM a1 a2 (P1 := P1) rfl f1 hj
    refine opc_ok (w := w) (by rw [(f1 b (by omega)).1]; exact hb) (LW_part_ok hE hS8 hSN.1 hSN.2 (by decide) hc) (s_part_ok (d := 8) hM1.1 hM1.2.1 hM1.2.2.1 hcp hM1.2.2.2.1 (fun I2 J2 b1 b2 b3 b4 b5 b6 b7 => ⟨rfl, b4, fun v e => ?_, chg a1 a2 a3 hSN hb hn hM hsv hT hw rfl f1 f2 hj b2 (fun k k1 k2 _ => b3 k k1 k2) (fun a ha => b5 a (by omega) (by omega)) b7 (hg.parted hcp b1) (by rw [b6]; exact f3 _ b1)⟩))
    cases e
    rw [b5 w (by omega) (by omega), u2s]
    rfl
theorem op_removeCredit (hE : tx_ok E) (hfl : l.stackTraces = false) (hv : Iv E.2.2.1 E.2.2.2.1 x m w b xs P I J) (p0 : Int32) : OpW l E MX9_removeCredit ML_removeCredit hL_removeCredit [.ref x, .int p0, .ref w] [.ref m, .int p0] x m w b xs I J P := by
  obtain ⟨⟨a1, a2, a3⟩, hSN, hb, g, h, nb, nc, nk, pn, G, H, sv, g3, h3, c, n, f, hg, hn, ⟨πd, π, πs, πh, o, hw, hr, hH, hsv, hT⟩, hM⟩ := id hv
  have hS8 := hw.f.1
  have hm := hM.1
  have h6 : nk ≤ 6 := hg.cb.2.2
  rcases idx nk (by omega) p0 with hbk | ⟨k, hk, rfl⟩
  · exact opq_x hv (k := 1) (by decide) (LW_removeCredit_x1 hE hS8 hSN.1 hSN.2 (by decide) (t_removeCredit1 hE hfl hw hg hr hbk)) Fr.rf ((s_removeCredit_bad (d := 9) hm hM.2.1 hg.1 hbk).mpr qb2)
  · obtain ⟨r, I1, J1, P1, ⟨rfl, o1, π1, f0, fw, f1, f2, f3⟩, hc⟩ := cw_ex (w_removeCredit (d := 6) (Q := fun r I' J' P' => r = some (.int (nI (nk - 1))) ∧ ∃ o' π', (∀ a, a ≠ x + 29 + 1 + 6 → P' a = P a) ∧ WbS E.2.2.1 E.2.2.2.1 P' x πd π' πs πh ∧ Fy x I I' J J' ∧ Hst I' J' (x + 89) πh (psn pn) o' (psh pn G g) (psh pn H h) ∧ (∀ (g' : Nat → Int32) (h' : Nat → Int64), (∀ y, y < 27 ∨ 64 ≤ y → g' y = g y) → (∀ k' j, k' < 6 → j < 6 → g' (28 + 6 * k' + j) = g (28 + 6 * mvp k (nk - 1) k' + j)) → (∀ p k', p < 6 → k' < nk - 1 → h' (6 * p + k') = h (6 * p + mvp k (nk - 1) k')) → Led I' J' (x + 29) π' g' h' nb nc (nk - 1))) hw hg hr hH hk (fun I1 J1 P1 o1 π1 f0 fw f1 f2 f3 => ⟨rfl, o1, π1, f0, fw, f1, f2, f3⟩))
    have hj : ∀ a, a ≠ w → (u2 J1 w 0 (nI (nk - 1)).toInt64) a = J1 a := fun a ha => u2_off _ _ _ ha
    have hPm : P1 m = P m := f0 m (by omega)
    have hM1 := mi_fy hM a1 a2 hPm f1 hj
    refine opc_ok (w := w) (by rw [(f1 b (by omega)).1]; exact hb) (LW_removeCredit_ok hE hS8 hSN.1 hSN.2 (by decide) hc) (s_removeCredit_ok (d := 9) hM1.1 hM1.2.1 hM1.2.2.1 hg.1 hk hM1.2.2.2.1 (fun I2 J2 b1 b1' b1'' b2 b3 b4 b5 b7 => ⟨rfl, b4, fun v e => ?_, ?_⟩))
    · cases e
      rw [b5 w (by omega) (by omega), u2s]
      rfl
    · have off : ∀ y, y < 27 ∨ 64 ≤ y → I2 (m + 1) y = g y := fun y hy => by rw [b1 y (by omega), if_neg (by omega)]
      exact chg a1 a2 a3 hSN hb hn hM hsv hT fw hPm f1 f2 hj b2 (fun k k1 k2 _ => b3 k k1 k2) (fun a ha => b5 a (by omega) (by omega)) b7 (hg.rows (by omega) (fun k' hk' => mvp_in (by omega) (by omega) (by omega)) off (by rw [b1 27 (by omega), if_pos rfl]) b1') (f3 _ _ off b1' b1'')
theorem op_moveCredit (hE : tx_ok E) (hfl : l.stackTraces = false) (hv : Iv E.2.2.1 E.2.2.2.1 x m w b xs P I J) (p0 p1 : Int32) : OpW l E MX9_moveCredit ML_moveCredit hL_moveCredit [.ref x, .int p0, .int p1] [.ref m, .int p0, .int p1] x m w b xs I J P := by
  obtain ⟨⟨a1, a2, a3⟩, hSN, hb, g, h, nb, nc, nk, pn, G, H, sv, g3, h3, c, n, f, hg, hn, ⟨πd, π, πs, πh, o, hw, hr, hH, hsv, hT⟩, hM⟩ := id hv
  have hS8 := hw.f.1
  have hm := hM.1
  have h6 : nk ≤ 6 := hg.cb.2.2
  rcases idx nk (by omega) p0 with hbk | ⟨k, hk, rfl⟩
  · exact opq_x hv (k := 1) (by decide) (LW_moveCredit_x1 hE hS8 (by decide) (t_moveCredit1 hE hfl hw hg hr hbk)) Fr.rf ((s_moveCredit_bad1 (d := 9) hm hM.2.1 hg.1 hbk).mpr qb1)
  rcases idx nk (by omega) p1 with hbt | ⟨t, ht, rfl⟩
  · exact opq_x hv (k := 1) (by decide) (LW_moveCredit_x1 hE hS8 (by decide) (t_moveCredit2 hE hfl hw hg hr hk hbt)) Fr.rf ((s_moveCredit_bad2 (d := 9) hm hM.2.1 hg.1 hk hbt).mpr qb1)
  · obtain ⟨r, I1, J1, P1, ⟨rfl, o1, π1, f0, fw, f1, f2, f3⟩, hc⟩ := cw_ex (w_moveCredit (d := 6) (Q := fun r I' J' P' => r = none ∧ ∃ o' π', (∀ a, a ≠ x + 29 + 1 + 6 → P' a = P a) ∧ WbS E.2.2.1 E.2.2.2.1 P' x πd π' πs πh ∧ Fy x I I' J J' ∧ Hst I' J' (x + 89) πh (psn pn) o' (psh pn G g) (psh pn H h) ∧ (∀ (g' : Nat → Int32) (h' : Nat → Int64), (∀ y, y < 27 ∨ 64 ≤ y → g' y = g y) → (∀ k' j, k' < 6 → j < 6 → g' (28 + 6 * k' + j) = g (28 + 6 * mvp k t k' + j)) → (∀ p k', p < 6 → k' < nk → h' (6 * p + k') = h (6 * p + mvp k t k')) → Led I' J' (x + 29) π' g' h' nb nc nk)) hw hg hr hH hk ht (fun I1 J1 P1 o1 π1 f0 fw f1 f2 f3 => ⟨rfl, o1, π1, f0, fw, f1, f2, f3⟩))
    have hPm : P1 m = P m := f0 m (by omega)
    have hM1 := mi_fy hM a1 a2 hPm f1 (J3 := J1) (fun _ _ => rfl)
    refine opc_ok (w := w) (by rw [(f1 b (by omega)).1]; exact hb) (LW_moveCredit_ok hE hS8 (by decide) hc) (s_moveCredit_ok (d := 9) hM1.1 hM1.2.1 hM1.2.2.1 hg.1 hk ht hM1.2.2.2.1 (fun I2 J2 b1 b2 b3 b4 b5 b7 => ⟨rfl, b4, fun v e => (by cases e), ?_⟩))
    obtain ⟨c1, c2, c3⟩ := b1
    have off : ∀ y, y < 27 ∨ 64 ≤ y → I2 (m + 1) y = g y := fun y hy => c3 y (by omega)
    exact chg a1 a2 a3 hSN hb hn hM hsv hT fw hPm f1 f2 (J3 := J1) (fun _ _ => rfl) b2 (fun k k1 k2 _ => b3 k k1 k2) (fun a ha => b5 a (by omega) (by omega)) b7 (hg.rows h6 (fun k' hk' => mvp_in hk ht hk') off (by rw [c3 27 (by omega)]; exact hg.1.2.2.2.2.2) c1) (f3 _ _ off c1 (fun p k' hp hk' => c2 p k' hp (by omega)))
theorem op_clearRules (hE : tx_ok E) (hv : Iv E.2.2.1 E.2.2.2.1 x m w b xs P I J) : OpD E MX8_clearRules MX9_clearRules x m w b xs I J P := by
  obtain ⟨⟨a1, a2, a3⟩, hSN, hb, g, h, nb, nc, nk, pn, G, H, sv, g3, h3, c, n, f, hg, hn, ⟨πd, π, πs, πh, o, hw, hr, hH, hsv, hT⟩, hM⟩ := id hv
  obtain ⟨r, I1, J1, P1, ⟨rfl, rfl, o1, f1, f2, f3⟩, hc⟩ := cw_ex (w_clearRules (d := 6) (Q := fun r I' J' P' => r = some (.int (nI nc + nI nk)) ∧ P' = P ∧ ∃ o', Fy x I I' J J' ∧ Hst I' J' (x + 89) πh (psn pn) o' (psh pn G g) (psh pn H h) ∧ (∀ (g' : Nat → Int32) (h' : Nat → Int64), (∀ k, g' k = if k = 0 then 1 else if k < 64 then 0 else g k) → Led I' J' (x + 29) π g' h' 1 0 0)) hw hg hr hH (fun I1 J1 o1 f1 f2 f3 => ⟨rfl, rfl, o1, f1, f2, f3⟩))
  have hM1 := mi_fy hM a1 a2 (P1 := P1) rfl f1 (J3 := J1) (fun _ _ => rfl)
  refine opd_ok (by rw [(f1 b (by omega)).1]; exact hb) hc (s_clearRules (d := 9) hM1.1 hM1.2.2.2.1 (fun I2 J2 b1 b2 b3 b4 b5 b7 => ?_))
  rw [hM1.2.1] at b1 b7 ⊢
  rw [hM1.2.2.1] at b7
  exact ⟨by rw [hg.1.2.2.2.2.1, hg.1.2.2.2.2.2], rfl, chg a1 a2 a3 hSN hb hn hM hsv hT hw rfl f1 f2 (J3 := J1) (fun _ _ => rfl) b2 (fun k k1 k2 _ => b3 k k1 k2) (fun a ha => b5 a (by omega) (by omega)) b7 (hg.cleared b1) (f3 _ _ b1)⟩
theorem op_closeYear (hE : tx_ok E) (hv : Iv E.2.2.1 E.2.2.2.1 x m w b xs P I J) : OpD E MX8_closeYear MX9_closeYear x m w b xs I J P := by
  obtain ⟨⟨a1, a2, a3⟩, hSN, hb, g, h, nb, nc, nk, pn, G, H, sv, g3, h3, c, n, f, hg, hn, ⟨πd, π, πs, πh, o, hw, hr, hH, hsv, hT⟩, hM⟩ := id hv
  obtain ⟨r, I1, J1, P1, ⟨rfl, rfl, o1, f1, f2, f3⟩, hc⟩ := cw_ex (w_closeYear (d := 6) (Q := fun r I' J' P' => r = some (.int (g 88 + 1)) ∧ P' = P ∧ ∃ o', Fy x I I' J J' ∧ Hst I' J' (x + 89) πh (psn pn) o' (psh pn G g) (psh pn H h) ∧ (∀ (g' : Nat → Int32) (h' : Nat → Int64), (∀ k, g' k = if k = 88 then g 88 + 1 else g k) → (∀ r k, r < 6 → k < nk → h' (6 * r + k) = Nx g h nb nc nk r k) → Led I' J' (x + 29) π g' h' nb nc nk)) hw hg hr hH (fun I1 J1 o1 f1 f2 f3 => ⟨rfl, rfl, o1, f1, f2, f3⟩))
  have hM1 := mi_fy hM a1 a2 (P1 := P1) rfl f1 (J3 := J1) (fun _ _ => rfl)
  exact opd_ok (by rw [(f1 b (by omega)).1]; exact hb) hc (s_closeYear (d := 4) hM1.1 hM1.2.1 hM1.2.2.1 hg.1 hg.2.1 hM1.2.2.2.1 (fun I2 J2 b1 b1' b2 b3 b4 b5 b7 => ⟨rfl, rfl, chg a1 a2 a3 hSN hb hn hM hsv hT hw rfl f1 f2 (J3 := J1) (fun _ _ => rfl) b2 (fun k k1 k2 k3 => b3 k k1 k2 k3) (fun a ha => b5 a ha) b7 (hg.year b1) (f3 _ _ b1 b1')⟩))
theorem op_undo (hE : tx_ok E) (hfl : l.stackTraces = false) (hv : Iv E.2.2.1 E.2.2.2.1 x m w b xs P I J) : OpW l E MX9_undo ML_undo hL_undo [.ref x, .ref w] [.ref m] x m w b xs I J P := by
  obtain ⟨⟨a1, a2, a3⟩, hSN, hb, g, h, nb, nc, nk, pn, G, H, sv, g3, h3, c, n, f, hg, hn, ⟨πd, π, πs, πh, o, hw, hr, hH, hsv, hT⟩, hM⟩ := id hv
  have hS8 := hw.f.1
  have hm := hM.1
  cases pn with
  | zero =>
    have e0 : nI 0 = 0 := rfl
    exact opq_x hv (k := 1) (by decide) (LW_undo_x1 hE hS8 hSN.1 hSN.2 (by decide) (t_undo hE hfl hw (by rw [hH.2.2.2.1, e0]))) Fr.rf ((s_undo_bad (d := 10) hm (by rw [hM.2.2.2.1.2.1, e0])).mpr qb2)
  | succ pn =>
    obtain ⟨r, I1, J1, P1, ⟨rfl, rfl, nb1, nc1, nk1, f1, f2, f3, f4⟩, hc⟩ := cw_ex (w_undo (d := 6) (Q := fun r I' J' P' => r = some (.int (nI pn)) ∧ P' = P ∧ ∃ nb nc nk, Fy x I I' J J' ∧ Gd (G pn) nb nc nk ∧ Led I' J' (x + 29) π (G pn) (H pn) nb nc nk ∧ Hst I' J' (x + 89) πh pn o G H) hw hH (fun I1 J1 nb nc nk f1 f2 f3 f4 => ⟨rfl, rfl, nb, nc, nk, f1, f2, f3, f4⟩))
    have hj : ∀ a, a ≠ w → (u2 J1 w 0 (nI pn).toInt64) a = J1 a := fun a ha => u2_off _ _ _ ha
    have hM1 := mi_fy hM a1 a2 (P1 := P1) rfl f1 hj
    refine opc_ok (w := w) (by rw [(f1 b (by omega)).1]; exact hb) (LW_undo_ok hE hS8 hSN.1 hSN.2 (by decide) hc) (s_undo_ok (d := 10) hM1.1 hM1.2.2.2.1 (fun I2 J2 b1 b1' b2 b3 b4 b5 b7 => ⟨rfl, b4, fun v e => ?_, chg a1 a2 a3 hSN hb hn hM hsv hT hw rfl f1 f4 hj (fun a z1 z2 _ => b2 a z1 z2) (fun k k1 k2 _ => b3 k k1 k2) (fun a ha => b5 a (by omega)) b7 (f2.cg b1) (f3.gh f2.cb b1 b1')⟩))
    cases e
    rw [b5 w (by omega), u2s]
    rfl
theorem op_restore (hE : tx_ok E) (hfl : l.stackTraces = false) (hv : Iv E.2.2.1 E.2.2.2.1 x m w b xs P I J) : OpW l E MX9_restore ML_restore hL_restore [.ref x] [.ref m] x m w b xs I J P := by
  obtain ⟨⟨a1, a2, a3⟩, hSN, hb, g, h, nb, nc, nk, pn, G, H, sv, g3, h3, c, n, f, hg, hn, ⟨πd, π, πs, πh, o, hw, hr, hH, hsv, hT⟩, hM⟩ := id hv
  have hS8 := hw.f.1
  have hm := hM.1
  rcases hsv.2 with z | ⟨z, b3, c3, k3, z1, z2⟩
  · exact opq_x hv (k := 1) (by decide) (LW_restore_x1 hE hS8 (by decide) (t_restore hE hfl hw (by rw [hsv.1, z]))) Fr.rf ((s_restore_bad (d := 10) hm (by rw [hM.2.2.2.2.1.1, z])).mpr qb1)
  · obtain ⟨r, I1, J1, P1, ⟨rfl, rfl, o1, f1, f2, f3⟩, hc⟩ := cw_ex (w_restore (d := 6) (Q := fun r I' J' P' => r = none ∧ P' = P ∧ ∃ o', Fy x I I' J J' ∧ Hst I' J' (x + 89) πh (psn pn) o' (psh pn G g) (psh pn H h) ∧ Led I' J' (x + 29) π g3 h3 b3 c3 k3) hw hg hr hH (by rw [hsv.1, z]) z1 z2 (fun I1 J1 o1 f1 f2 f3 => ⟨rfl, rfl, o1, f1, f2, f3⟩))
    have hM1 := mi_fy hM a1 a2 (P1 := P1) rfl f1 (J3 := J1) (fun _ _ => rfl)
    refine opc_ok (w := w) (by rw [(f1 b (by omega)).1]; exact hb) (LW_restore_ok hE hS8 (by decide) hc) (s_restore_ok (d := 10) hM1.1 (by rw [hM1.2.2.2.2.1.1, z]) hM1.2.2.2.1 (fun I2 J2 b1 b1' b2 b3 b4 b5 b7 => ?_))
    rw [hM1.2.2.2.2.1.2.1] at b1
    rw [hM1.2.2.2.2.1.2.2] at b1'
    rw [hM1.2.1, hM1.2.2.1] at b7
    exact ⟨rfl, b4, fun v e => (by cases e), chg a1 a2 a3 hSN hb hn hM hsv hT hw rfl f1 f2 (J3 := J1) (fun _ _ => rfl) b2 (fun k k1 k2 _ => b3 k k1 k2) (fun a ha => b5 a (by omega) (by omega)) b7 (z1.cg b1) (f3.gh z1.cb b1 b1')⟩
theorem op_save (hE : tx_ok E) (hv : Iv E.2.2.1 E.2.2.2.1 x m w b xs P I J) : OpD E MX8_save MX9_save x m w b xs I J P := by
  obtain ⟨⟨a1, a2, a3⟩, hSN, hb, g, h, nb, nc, nk, pn, G, H, sv, g3, h3, c, n, f, hg, hn, ⟨πd, π, πs, πh, o, hw, hr, hH, hsv, hT⟩, hM⟩ := id hv
  obtain ⟨r, I1, J1, P1, ⟨rfl, rfl, f1, f2, f3, f4, f5⟩, hc⟩ := cw_ex (w_save (d := 7) (Q := fun r I' J' P' => r = none ∧ P' = P ∧ (∀ a, a ≠ x → a < x + 59 ∨ x + 89 ≤ a → I' a = I a ∧ J' a = J a) ∧ J' x = J x ∧ (∀ k, k ≠ 4 → I' x k = I x k) ∧ I' x 4 = 1 ∧ Led I' J' (x + 59) πs g h nb nc nk) hw hg hr (fun I1 J1 f1 f2 f3 f4 f5 => ⟨rfl, rfl, f1, f2, f3, f4, f5⟩))
  have hM1 := hM.onP (P1 := P1) rfl (I1 := I1) (J1 := J1) (fun a z1 z2 => f1 a (by omega) (by omega))
  obtain ⟨m1, m2, m3, m4, ⟨m5, m6, m7⟩, m8, m9, m10⟩ := id hM1
  refine opd_ok (by rw [(f1 b (by omega) (by omega)).1]; exact hb) hc (s_save (d := 11) m1 (fun I2 J2 b1 b1' b2 b3 b4 b5 b6 => ⟨rfl, rfl, ⟨a1, a2, a3⟩, hSN, ?_, g, h, nb, nc, nk, pn, G, H, 1, _, _, c, n, f, hg, hn, ⟨πd, π, πs, πh, o, hw, ?_, ?_, ⟨?_, Or.inr ⟨rfl, nb, nc, nk, ?_, ?_⟩⟩, ?_, ?_, ?_⟩, m1, ?_, ?_, m4.on ?_ ?_ ?_, ⟨b5, rfl, rfl⟩, ?_, ?_, ?_⟩))
  · rw [b2 b (by omega) (by omega), (f1 b (by omega) (by omega)).1]; exact hb
  · exact hr.on hw.le hg.cb (fun a z1 z2 => by rw [b2 a (by omega) (by omega), (f1 a (by omega) (by omega)).1]) (fun a z1 z2 => by rw [b6 a (by omega), (f1 a (by omega) (by omega)).2])
  · exact hH.on hw.hi (fun a z1 z2 => by rw [b2 a (by omega) (by omega), (f1 a (by omega) (by omega)).1]) (fun a z1 z2 => by rw [b6 a (by omega), (f1 a (by omega) (by omega)).2])
  · rw [b2 x (by omega) (by omega)]; exact f4
  · exact hg.cg (fun k hk => by rw [b1 k hk, m2])
  · refine (f5.on hw.sv hg.cb (fun a z1 z2 => b2 a (by omega) (by omega)) (fun a z1 z2 => b6 a (by omega))).gh hg.cb (fun k hk => by rw [b1 k hk, m2]) (fun k hk => by rw [b1' k hk, m3])
  · rw [b2 _ (by omega) (by omega), (f1 _ (by omega) (by omega)).1]; exact hT.1
  · rw [b2 _ (by omega) (by omega), (f1 _ (by omega) (by omega)).1]; exact hT.2.1
  · rw [b2 _ (by omega) (by omega), (f1 _ (by omega) (by omega)).1]; exact hT.2.2
  · rw [b2 _ (by omega) (by omega)]; exact m2
  · rw [b6 _ (by omega)]; exact m3
  · exact b3 7 (by decide) (by decide)
  · exact b2 _ (by omega) (by omega)
  · exact b6 _ (by omega)
  · rw [b2 _ (by omega) (by omega)]; exact m8
  · rw [b3 10 (by decide) (by decide)]; exact m9
  · rw [b3 13 (by decide) (by decide)]; exact m10
end OPC

/-! calls that only answer, both sides -/
theorem bad_9999 {v : Int32} (h : v < 0 ∨ nI 10000 ≤ v) : ¬ (0 ≤ v ∧ v ≤ 9999) := by
  rw [show (9999 : Int32) = nI 9999 by decide]
  exact bad_rng 9999 (by decide) h
theorem bad_9998 {v : Int32} (h : v < 0 ∨ nI 9999 ≤ v) : ¬ (0 ≤ v ∧ v ≤ 9998) := by
  rw [show (9998 : Int32) = nI 9998 by decide]
  exact bad_rng 9998 (by decide) h
theorem nks_ex (v : Int32) : ∃ e0, NkS v e0 := by
  rcases idx 9998 (by decide) v with (h1 | h1) | ⟨k, hk, rfl⟩
  · refine ⟨1, Or.inl ⟨?_, rfl⟩⟩
    rw [Int32.lt_iff_toInt_lt] at h1 ⊢
    have e0 : (0 : Int32).toInt = 0 := rfl
    have e1 : (1 : Int32).toInt = 1 := rfl
    omega
  · exact ⟨9999, Or.inr (Or.inr ⟨h1, rfl⟩)⟩
  · by_cases h0 : k = 0
    · subst h0
      exact ⟨1, Or.inl ⟨by decide, rfl⟩⟩
    · exact ⟨k + 1, Or.inr (Or.inl ⟨k, rfl, by omega, hk, rfl⟩)⟩
theorem kc_ex (v : Int32) : (¬ (1 ≤ v ∧ v ≤ 9998)) ∨ ∃ e, v = nI e ∧ 1 ≤ e ∧ e < 9999 := by
  rcases idx 9999 (by decide) v with (h1 | h1) | ⟨k, hk, rfl⟩
  · refine Or.inl (fun z => ?_)
    have z1 := z.1
    rw [Int32.le_iff_toInt_le] at z1
    rw [Int32.lt_iff_toInt_lt] at h1
    have e0 : (0 : Int32).toInt = 0 := rfl
    have e1 : (1 : Int32).toInt = 1 := rfl
    omega
  · exact Or.inl (fun z => bad_9998 (Or.inr h1) ⟨Int32.le_trans (by decide) z.1, z.2⟩)
  · by_cases h0 : k = 0
    · subst h0
      exact Or.inl (fun z => absurd z.1 (by decide))
    · exact Or.inr ⟨k, rfl, by omega, hk⟩
theorem CcF_le (F : Nat → Nat → Int64) (e : Nat) : ∀ (r j : Nat), CcF F e r j ≤ j + r
  | 0, j => by rw [CcF]; omega
  | n + 1, j => by
    rw [CcF]
    split
    · have := CcF_le F e n (j + 1)
      omega
    · omega
section OPQ
variable {l : Launch} {E : tx_En} {I : IM} {J : JM} {P : PM} {x m w b : Nat} {xs : Nat → Int32}
theorem op_bracket (hE : tx_ok E) (hfl : l.stackTraces = false) (hv : Iv E.2.2.1 E.2.2.2.1 x m w b xs P I J) (p0 p1 : Int32) : OpW l E MX9_bracket ML_bracket hL_bracket [.ref x, .int p0, .int p1, .ref w] [.ref m, .int p0, .int p1] x m w b xs I J P := by
  obtain ⟨⟨a1, a2, a3⟩, ⟨hSo, hNo⟩, hb, g, h, nb, nc, nk, pn, G, H, sv, g3, h3, c, n, f, hg, hn, ⟨πd, π, πs, πh, o, hw, hr, hH, hsv, hT⟩, hM⟩ := id hv
  have hS8 := hw.f.1
  have hm := hM.1
  have hg1 := hM.2.1
  have hh1 := hM.2.2.1
  have h31 : nb < 2 ^ 31 := by have := hg.cb; unfold Cb at this; omega
  rcases idx nb h31 p0 with hbk | ⟨k, hk, rfl⟩
  · exact opq_x hv (k := 1) (by decide) (LW_bracket_x1 hE hS8 hSo hNo (by decide) (t_bracket1 hE hfl hw hg hr hbk)) Fr.rf ((s_bracket_bad1 (d := 10) hm hg1 hg.1 hbk).mpr qb1)
  · skip
    rcases idx 2 (by decide) p1 with hbj | ⟨j, hj, rfl⟩
    · exact opq_x hv (k := 2) (by decide) (LW_bracket_x2 hE hS8 hSo hNo (by decide) (t_bracket2 hE hfl hw hg hr hk (bad_rng 1 (by decide) hbj))) Fr.rf ((s_bracket_bad2 (d := 10) hm hg1 hg.1 hk hbj).mpr qb1)
    · skip
      obtain ⟨I1, J1, hc, hf⟩ := cw_fr (V := .int (g (1 + 2 * k + j))) ((w_bracket (d := 10) hw hg hr hk hj).mpr ⟨rfl, rfl, Fr.rf⟩)
      exact opq_ok hv (LW_bracket_ok hE hS8 hSo hNo (by decide) hc) hf ((s_bracket_ok (d := 10) hm (hM.g1 a1 hf) hg.1 hk hj).mpr qo0)
theorem op_charge (hE : tx_ok E) (hfl : l.stackTraces = false) (hv : Iv E.2.2.1 E.2.2.2.1 x m w b xs P I J) (p0 p1 : Int32) : OpW l E MX9_charge ML_charge hL_charge [.ref x, .int p0, .int p1, .ref w] [.ref m, .int p0, .int p1] x m w b xs I J P := by
  obtain ⟨⟨a1, a2, a3⟩, ⟨hSo, hNo⟩, hb, g, h, nb, nc, nk, pn, G, H, sv, g3, h3, c, n, f, hg, hn, ⟨πd, π, πs, πh, o, hw, hr, hH, hsv, hT⟩, hM⟩ := id hv
  have hS8 := hw.f.1
  have hm := hM.1
  have hg1 := hM.2.1
  have hh1 := hM.2.2.1
  have h31 : nc < 2 ^ 31 := by have := hg.cb; unfold Cb at this; omega
  rcases idx nc h31 p0 with hbk | ⟨k, hk, rfl⟩
  · exact opq_x hv (k := 1) (by decide) (LW_charge_x1 hE hS8 hSo hNo (by decide) (t_charge1 hE hfl hw hg hr hbk)) Fr.rf ((s_charge_bad1 (d := 10) hm hg1 hg.1 hbk).mpr qb1)
  · skip
    rcases idx 2 (by decide) p1 with hbj | ⟨j, hj, rfl⟩
    · exact opq_x hv (k := 2) (by decide) (LW_charge_x2 hE hS8 hSo hNo (by decide) (t_charge2 hE hfl hw hg hr hk (bad_rng 1 (by decide) hbj))) Fr.rf ((s_charge_bad2 (d := 10) hm hg1 hg.1 hk hbj).mpr qb1)
    · skip
      obtain ⟨I1, J1, hc, hf⟩ := cw_fr (V := .int (g (19 + 2 * k + j))) ((w_charge (d := 10) hw hg hr hk hj).mpr ⟨rfl, rfl, Fr.rf⟩)
      exact opq_ok hv (LW_charge_ok hE hS8 hSo hNo (by decide) hc) hf ((s_charge_ok (d := 10) hm (hM.g1 a1 hf) hg.1 hk hj).mpr qo0)
theorem op_credit (hE : tx_ok E) (hfl : l.stackTraces = false) (hv : Iv E.2.2.1 E.2.2.2.1 x m w b xs P I J) (p0 p1 : Int32) : OpW l E MX9_credit ML_credit hL_credit [.ref x, .int p0, .int p1, .ref w] [.ref m, .int p0, .int p1] x m w b xs I J P := by
  obtain ⟨⟨a1, a2, a3⟩, ⟨hSo, hNo⟩, hb, g, h, nb, nc, nk, pn, G, H, sv, g3, h3, c, n, f, hg, hn, ⟨πd, π, πs, πh, o, hw, hr, hH, hsv, hT⟩, hM⟩ := id hv
  have hS8 := hw.f.1
  have hm := hM.1
  have hg1 := hM.2.1
  have hh1 := hM.2.2.1
  have h31 : nk < 2 ^ 31 := by have := hg.cb; unfold Cb at this; omega
  rcases idx nk h31 p0 with hbk | ⟨k, hk, rfl⟩
  · exact opq_x hv (k := 1) (by decide) (LW_credit_x1 hE hS8 hSo hNo (by decide) (t_credit1 hE hfl hw hg hr hbk)) Fr.rf ((s_credit_bad1 (d := 9) hm hg1 hg.1 hbk).mpr qb1)
  · skip
    rcases idx 6 (by decide) p1 with hbj | ⟨j, hj, rfl⟩
    · exact opq_x hv (k := 2) (by decide) (LW_credit_x2 hE hS8 hSo hNo (by decide) (t_credit2 hE hfl hw hg hr hk (bad_rng 5 (by decide) hbj))) Fr.rf ((s_credit_bad2 (d := 9) hm hg1 hg.1 hk hbj).mpr qb1)
    · skip
      obtain ⟨I1, J1, hc, hf⟩ := cw_fr (V := .int (g (28 + 6 * k + j))) ((w_credit (d := 10) hw hg hr hk hj).mpr ⟨rfl, rfl, Fr.rf⟩)
      exact opq_ok hv (LW_credit_ok hE hS8 hSo hNo (by decide) hc) hf ((s_credit_ok (d := 9) hm (hM.g1 a1 hf) hg.1 hk hj).mpr qo0)
theorem op_allowance (hE : tx_ok E) (hfl : l.stackTraces = false) (hv : Iv E.2.2.1 E.2.2.2.1 x m w b xs P I J) (p0 : Int32) : OpW l E MX9_allowance ML_allowance hL_allowance [.ref x, .int p0, .ref w] [.ref m, .int p0] x m w b xs I J P := by
  obtain ⟨⟨a1, a2, a3⟩, ⟨hSo, hNo⟩, hb, g, h, nb, nc, nk, pn, G, H, sv, g3, h3, c, n, f, hg, hn, ⟨πd, π, πs, πh, o, hw, hr, hH, hsv, hT⟩, hM⟩ := id hv
  have hS8 := hw.f.1
  have hm := hM.1
  have hg1 := hM.2.1
  have hh1 := hM.2.2.1
  rcases idx 5 (by decide) p0 with hbj | ⟨j, hj, rfl⟩
  · exact opq_x hv (k := 1) (by decide) (LW_allowance_x1 hE hS8 hSo hNo (by decide) (t_allowance1 hE hfl hw (bad_rng 4 (by decide) hbj))) Fr.rf ((s_allowance_bad (d := 10) hm hbj).mpr qb1)
  · skip
    obtain ⟨I1, J1, hc, hf⟩ := cw_fr (V := .int (g (13 + j))) ((w_allowance (d := 10) hw hr hj).mpr ⟨rfl, rfl, Fr.rf⟩)
    refine opq_ok hv (LW_allowance_ok hE hS8 hSo hNo (by decide) hc) hf ((s_allowance_ok (d := 10) hm hj).mpr ?_)
    rw [hM.g1 a1 hf]
    exact qo0
theorem op_personData (hE : tx_ok E) (hfl : l.stackTraces = false) (hv : Iv E.2.2.1 E.2.2.2.1 x m w b xs P I J) (p0 p1 : Int32) : OpW l E MX9_personData ML_personData hL_personData [.ref x, .int p0, .int p1, .ref w] [.ref m, .int p0, .int p1] x m w b xs I J P := by
  obtain ⟨⟨a1, a2, a3⟩, ⟨hSo, hNo⟩, hb, g, h, nb, nc, nk, pn, G, H, sv, g3, h3, c, n, f, hg, hn, ⟨πd, π, πs, πh, o, hw, hr, hH, hsv, hT⟩, hM⟩ := id hv
  have hS8 := hw.f.1
  have hm := hM.1
  have hg1 := hM.2.1
  have hh1 := hM.2.2.1
  rcases idx 6 (by decide) p0 with hbp | ⟨p, hp, rfl⟩
  · exact opq_x hv (k := 1) (by decide) (LW_personData_x1 hE hS8 hSo hNo (by decide) (t_personData1 hE hfl hw hbp)) Fr.rf ((s_personData_bad1 (d := 9) hm hbp).mpr qb1)
  · skip
    rcases idx 3 (by decide) p1 with hbj | ⟨j, hj, rfl⟩
    · exact opq_x hv (k := 2) (by decide) (LW_personData_x2 hE hS8 hSo hNo (by decide) (t_personData2 hE hfl hw hp (bad_rng 2 (by decide) hbj))) Fr.rf ((s_personData_bad2 (d := 9) hm hp hbj).mpr qb1)
    · skip
      obtain ⟨I1, J1, hc, hf⟩ := cw_fr (V := .int (g (64 + 3 * p + j))) ((w_personData (d := 10) hw hr hp hj).mpr ⟨rfl, rfl, Fr.rf⟩)
      exact opq_ok hv (LW_personData_ok hE hS8 hSo hNo (by decide) hc) hf ((s_personData_ok (d := 9) hm (hM.g1 a1 hf) hp hj).mpr qo0)
theorem op_partner (hE : tx_ok E) (hfl : l.stackTraces = false) (hv : Iv E.2.2.1 E.2.2.2.1 x m w b xs P I J) (p0 : Int32) : OpW l E MX9_partner ML_partner hL_partner [.ref x, .int p0, .ref w] [.ref m, .int p0] x m w b xs I J P := by
  obtain ⟨⟨a1, a2, a3⟩, ⟨hSo, hNo⟩, hb, g, h, nb, nc, nk, pn, G, H, sv, g3, h3, c, n, f, hg, hn, ⟨πd, π, πs, πh, o, hw, hr, hH, hsv, hT⟩, hM⟩ := id hv
  have hS8 := hw.f.1
  have hm := hM.1
  have hg1 := hM.2.1
  have hh1 := hM.2.2.1
  rcases idx 6 (by decide) p0 with hbp | ⟨p, hp, rfl⟩
  · exact opq_x hv (k := 1) (by decide) (LW_partner_x1 hE hS8 hSo hNo (by decide) (t_partner1 hE hfl hw hbp)) Fr.rf ((s_partner_bad (d := 8) hm hbp).mpr qb1)
  · skip
    rcases hg.2.1 p hp with hs | ⟨q, hcp⟩
    · exact opq_x hv (k := 2) (by decide) (LW_partner_x2 hE hS8 hSo hNo (by decide) (t_partner2 hE hfl hw hr hp hs)) Fr.rf ((s_partner_no (d := 8) hm hg1 hp (by rw [hs]; decide)).mpr qb1)
    · obtain ⟨I1, J1, hc, hf⟩ := cw_fr (V := .int (nI q)) ((w_partner (d := 9) hw hr hcp).mpr ⟨rfl, rfl, Fr.rf⟩)
      refine opq_ok hv (LW_partner_ok hE hS8 hSo hNo (by decide) hc) hf ((s_partner_ok (d := 8) hm (hM.g1 a1 hf) hp hcp.ge).mpr ?_)
      rw [hcp.2.2.2.1]
      exact qo0
theorem op_jointTax (hE : tx_ok E) (hfl : l.stackTraces = false) (hv : Iv E.2.2.1 E.2.2.2.1 x m w b xs P I J) (p0 : Int32) : OpWJ l E MX9_jointTax ML_jointTax hL_jointTax [.ref x, .int p0, .ref w] [.ref m, .int p0] x m w b xs I J P := by
  obtain ⟨⟨a1, a2, a3⟩, ⟨hSo, hNo⟩, hb, g, h, nb, nc, nk, pn, G, H, sv, g3, h3, c, n, f, hg, hn, ⟨πd, π, πs, πh, o, hw, hr, hH, hsv, hT⟩, hM⟩ := id hv
  have hS8 := hw.f.1
  have hm := hM.1
  have hg1 := hM.2.1
  have hh1 := hM.2.2.1
  rcases idx 6 (by decide) p0 with hbp | ⟨p, hp, rfl⟩
  · exact opj_x hv (k := 1) (by decide) (LW_jointTax_x1 hE hS8 hSo hNo (by decide) (t_jointTax1 hE hfl hw hbp)) Fr.rf ((s_jointTax_bad (d := 8) hm hbp).mpr ⟨qb1, _, rfl⟩)
  · skip
    rcases hg.2.1 p hp with hs | ⟨q, hcp⟩
    · exact opj_x hv (k := 2) (by decide) (LW_jointTax_x2 hE hS8 hSo hNo (by decide) (t_jointTax2 hE hfl hw hr hp hs)) Fr.rf ((s_jointTax_no (d := 8) hm hg1 hp (by rw [hs]; decide)).mpr ⟨qb1, _, rfl⟩)
    · skip
      obtain ⟨I1, J1, hc, hf⟩ := cw_fr (V := .long (TxJ g h nb nc nk (lo p q) (hi p q))) (w_jointTax (d := 6) hw hg hr hcp (fun I1 J1 q => ⟨rfl, rfl, q⟩))
      exact opj_ok hv (LW_jointTax_ok hE hS8 hSo hNo (by decide) hc) hf (s_jointTax_ok (d := 7) hm (hM.g1 a1 hf) (hM.h1 a1 a2 hf) hg.1 hcp (fun J2 hs => ⟨qo1 hs, _, rfl⟩))
theorem op_separateTax (hE : tx_ok E) (hfl : l.stackTraces = false) (hv : Iv E.2.2.1 E.2.2.2.1 x m w b xs P I J) (p0 : Int32) : OpWJ l E MX9_separateTax ML_separateTax hL_separateTax [.ref x, .int p0, .ref w] [.ref m, .int p0] x m w b xs I J P := by
  obtain ⟨⟨a1, a2, a3⟩, ⟨hSo, hNo⟩, hb, g, h, nb, nc, nk, pn, G, H, sv, g3, h3, c, n, f, hg, hn, ⟨πd, π, πs, πh, o, hw, hr, hH, hsv, hT⟩, hM⟩ := id hv
  have hS8 := hw.f.1
  have hm := hM.1
  have hg1 := hM.2.1
  have hh1 := hM.2.2.1
  rcases idx 6 (by decide) p0 with hbp | ⟨p, hp, rfl⟩
  · exact opj_x hv (k := 1) (by decide) (LW_separateTax_x1 hE hS8 hSo hNo (by decide) (t_separateTax1 hE hfl hw hbp)) Fr.rf ((s_separateTax_bad (d := 8) hm hbp).mpr ⟨qb1, _, rfl⟩)
  · skip
    rcases hg.2.1 p hp with hs | ⟨q, hcp⟩
    · exact opj_x hv (k := 2) (by decide) (LW_separateTax_x2 hE hS8 hSo hNo (by decide) (t_separateTax2 hE hfl hw hr hp hs)) Fr.rf ((s_separateTax_no (d := 8) hm hg1 hp (by rw [hs]; decide)).mpr ⟨qb1, _, rfl⟩)
    · skip
      obtain ⟨I1, J1, hc, hf⟩ := cw_fr (V := .long (Tdv g h nb nc nk (lo p q) (hi p q)).1) (w_separateTax (d := 6) hw hg hr hcp (fun I1 J1 q => ⟨rfl, rfl, q⟩))
      exact opj_ok hv (LW_separateTax_ok hE hS8 hSo hNo (by decide) hc) hf (s_separateTax_ok (d := 6) hm (hM.g1 a1 hf) (hM.h1 a1 a2 hf) hg.1 hcp (fun J2 hs => ⟨qo21 hs, _, rfl⟩))
theorem op_division (hE : tx_ok E) (hfl : l.stackTraces = false) (hv : Iv E.2.2.1 E.2.2.2.1 x m w b xs P I J) (p0 : Int32) : OpW l E MX9_division ML_division hL_division [.ref x, .int p0, .ref w] [.ref m, .int p0] x m w b xs I J P := by
  obtain ⟨⟨a1, a2, a3⟩, ⟨hSo, hNo⟩, hb, g, h, nb, nc, nk, pn, G, H, sv, g3, h3, c, n, f, hg, hn, ⟨πd, π, πs, πh, o, hw, hr, hH, hsv, hT⟩, hM⟩ := id hv
  have hS8 := hw.f.1
  have hm := hM.1
  have hg1 := hM.2.1
  have hh1 := hM.2.2.1
  rcases idx 6 (by decide) p0 with hbp | ⟨p, hp, rfl⟩
  · exact opq_x hv (k := 1) (by decide) (LW_division_x1 hE hS8 hSo hNo (by decide) (t_division1 hE hfl hw hbp)) Fr.rf ((s_division_bad (d := 8) hm hbp).mpr qb1)
  · skip
    rcases hg.2.1 p hp with hs | ⟨q, hcp⟩
    · exact opq_x hv (k := 2) (by decide) (LW_division_x2 hE hS8 hSo hNo (by decide) (t_division2 hE hfl hw hr hp hs)) Fr.rf ((s_division_no (d := 8) hm hg1 hp (by rw [hs]; decide)).mpr qb1)
    · skip
      obtain ⟨I1, J1, hc, hf⟩ := cw_fr (V := .int (nI (Tdv g h nb nc nk (lo p q) (hi p q)).2)) (w_division (d := 6) hw hg hr hcp (fun I1 J1 q => ⟨rfl, rfl, q⟩))
      exact opq_ok hv (LW_division_ok hE hS8 hSo hNo (by decide) hc) hf (s_division_ok (d := 6) hm (hM.g1 a1 hf) (hM.h1 a1 a2 hf) hg.1 hcp (fun J2 hs => qo21 hs))
theorem op_choosesJoint (hE : tx_ok E) (hfl : l.stackTraces = false) (hv : Iv E.2.2.1 E.2.2.2.1 x m w b xs P I J) (p0 : Int32) : OpW l E MX9_choosesJoint ML_choosesJoint hL_choosesJoint [.ref x, .int p0, .ref w] [.ref m, .int p0] x m w b xs I J P := by
  obtain ⟨⟨a1, a2, a3⟩, ⟨hSo, hNo⟩, hb, g, h, nb, nc, nk, pn, G, H, sv, g3, h3, c, n, f, hg, hn, ⟨πd, π, πs, πh, o, hw, hr, hH, hsv, hT⟩, hM⟩ := id hv
  have hS8 := hw.f.1
  have hm := hM.1
  have hg1 := hM.2.1
  have hh1 := hM.2.2.1
  rcases idx 6 (by decide) p0 with hbp | ⟨p, hp, rfl⟩
  · exact opq_x hv (k := 1) (by decide) (LW_choosesJoint_x1 hE hS8 hSo hNo (by decide) (t_choosesJoint1 hE hfl hw hbp)) Fr.rf ((s_choosesJoint_bad (d := 8) hm hbp).mpr qb1)
  · skip
    rcases hg.2.1 p hp with hs | ⟨q, hcp⟩
    · exact opq_x hv (k := 2) (by decide) (LW_choosesJoint_x2 hE hS8 hSo hNo (by decide) (t_choosesJoint2 hE hfl hw hr hp hs)) Fr.rf ((s_choosesJoint_no (d := 8) hm hg1 hp (by rw [hs]; decide)).mpr qb1)
    · by_cases hlt : TxJ g h nb nc nk (lo p q) (hi p q) < (Tdv g h nb nc nk (lo p q) (hi p q)).1
      · obtain ⟨I1, J1, hc, hf⟩ := cw_fr (V := .int 1) (w_choosesJoint (d := 6) hw hg hr hcp (fun I1 J1 q => ⟨by rw [if_pos hlt], rfl, q⟩))
        refine opq_ok hv (LW_choosesJoint_ok1 hE hS8 hSo hNo (by decide) hc) hf (s_choosesJoint_ok (d := 6) hm (hM.g1 a1 hf) (hM.h1 a1 a2 hf) hg.1 hcp (fun J2 hs => ?_))
        rw [if_pos hlt]
        exact qo21 hs
      · obtain ⟨I1, J1, hc, hf⟩ := cw_fr (V := .int 0) (w_choosesJoint (d := 6) hw hg hr hcp (fun I1 J1 q => ⟨by rw [if_neg hlt], rfl, q⟩))
        refine opq_ok hv (LW_choosesJoint_ok0 hE hS8 hSo hNo (by decide) hc) hf (s_choosesJoint_ok (d := 6) hm (hM.g1 a1 hf) (hM.h1 a1 a2 hf) hg.1 hcp (fun J2 hs => ?_))
        rw [if_neg hlt]
        exact qo21 hs
theorem op_tax (hE : tx_ok E) (hfl : l.stackTraces = false) (hv : Iv E.2.2.1 E.2.2.2.1 x m w b xs P I J) (p0 : Int32) : OpWJ l E MX9_tax ML_tax hL_tax [.ref x, .int p0, .ref w] [.ref m, .int p0] x m w b xs I J P := by
  obtain ⟨⟨a1, a2, a3⟩, ⟨hSo, hNo⟩, hb, g, h, nb, nc, nk, pn, G, H, sv, g3, h3, c, n, f, hg, hn, ⟨πd, π, πs, πh, o, hw, hr, hH, hsv, hT⟩, hM⟩ := id hv
  have hS8 := hw.f.1
  have hm := hM.1
  have hg1 := hM.2.1
  have hh1 := hM.2.2.1
  rcases idx 6 (by decide) p0 with hbp | ⟨p, hp, rfl⟩
  · exact opj_x hv (k := 1) (by decide) (LW_tax_x1 hE hS8 hSo hNo (by decide) (t_tax1 hE hfl hw hbp)) Fr.rf ((s_tax_bad (d := 9) hm hbp).mpr ⟨qb1, _, rfl⟩)
  · skip
    obtain ⟨I1, J1, hc, hf⟩ := cw_fr (V := .long (TxA g h nb nc nk p (g (66 + 3 * p)))) (w_tax (d := 7) hw hg hr hp (fun I1 J1 q => ⟨rfl, rfl, q⟩))
    exact opj_ok hv (LW_tax_ok hE hS8 hSo hNo (by decide) hc) hf (s_tax_ok (d := 6) hm (hM.g1 a1 hf) (hM.h1 a1 a2 hf) hg.1 hp (fun J2 hs => ⟨qo1 hs, _, rfl⟩))
theorem op_householdTax (hE : tx_ok E) (hfl : l.stackTraces = false) (hv : Iv E.2.2.1 E.2.2.2.1 x m w b xs P I J) (p0 : Int32) : OpWJ l E MX9_householdTax ML_householdTax hL_householdTax [.ref x, .int p0, .ref w] [.ref m, .int p0] x m w b xs I J P := by
  obtain ⟨⟨a1, a2, a3⟩, ⟨hSo, hNo⟩, hb, g, h, nb, nc, nk, pn, G, H, sv, g3, h3, c, n, f, hg, hn, ⟨πd, π, πs, πh, o, hw, hr, hH, hsv, hT⟩, hM⟩ := id hv
  have hS8 := hw.f.1
  have hm := hM.1
  have hg1 := hM.2.1
  have hh1 := hM.2.2.1
  rcases idx 6 (by decide) p0 with hbp | ⟨p, hp, rfl⟩
  · exact opj_x hv (k := 1) (by decide) (LW_householdTax_x1 hE hS8 hSo hNo (by decide) (t_householdTax1 hE hfl hw hbp)) Fr.rf ((s_householdTax_bad (d := 9) hm hbp).mpr ⟨qb1, _, rfl⟩)
  · skip
    obtain ⟨I1, J1, hc, hf⟩ := cw_fr (V := .long (HhV g h nb nc nk p)) (w_householdTax (d := 5) hw hg hr hp (fun I1 J1 q => ⟨rfl, rfl, q⟩))
    exact opj_ok hv (LW_householdTax_ok hE hS8 hSo hNo (by decide) hc) hf (s_householdTax_ok (d := 5) hm (hM.g1 a1 hf) (hM.h1 a1 a2 hf) hg.1 hg.2.1 hp (fun I2 J2 hi hs => ⟨qoI hi hs, _, rfl⟩))
theorem op_kinks (hE : tx_ok E) (hfl : l.stackTraces = false) (hv : Iv E.2.2.1 E.2.2.2.1 x m w b xs P I J) (p0 : Int32) : OpW l E MX9_kinks ML_kinks hL_kinks [.ref x, .int p0, .ref w] [.ref m, .int p0] x m w b xs I J P := by
  obtain ⟨⟨a1, a2, a3⟩, ⟨hSo, hNo⟩, hb, g, h, nb, nc, nk, pn, G, H, sv, g3, h3, c, n, f, hg, hn, ⟨πd, π, πs, πh, o, hw, hr, hH, hsv, hT⟩, hM⟩ := id hv
  have hS8 := hw.f.1
  have hm := hM.1
  have hg1 := hM.2.1
  have hh1 := hM.2.2.1
  rcases idx 6 (by decide) p0 with hbp | ⟨p, hp, rfl⟩
  · exact opq_x hv (k := 1) (by decide) (LW_kinks_x1 hE hS8 hSo hNo (by decide) (t_kinks1 hE hfl hw hbp)) Fr.rf ((s_kinks_bad (d := 9) hm hbp).mpr qb2)
  · skip
    obtain ⟨K, hK⟩ : ∃ K, K = KcF (TxE g h nb nc nk p) 9998 1 0 := ⟨_, rfl⟩
    obtain ⟨I1, J1, hc, hf⟩ := cw_fr (V := .int (nI K)) (w_kinks (d := 5) hw hg hr hp (fun I1 J1 q => ⟨by rw [hK], rfl, q⟩))
    refine opq_ok hv (LW_kinks_ok hE hS8 hSo hNo (by decide) hc) hf (s_kinks_ok (d := 5) hm (hM.g1 a1 hf) (hM.h1 a1 a2 hf) hg.1 hp (fun J2 hs => ?_))
    rw [← hK]
    exact qo1 hs
theorem op_steepest (hE : tx_ok E) (hfl : l.stackTraces = false) (hv : Iv E.2.2.1 E.2.2.2.1 x m w b xs P I J) (p0 : Int32) : OpW l E MX9_steepest ML_steepest hL_steepest [.ref x, .int p0, .ref w] [.ref m, .int p0] x m w b xs I J P := by
  obtain ⟨⟨a1, a2, a3⟩, ⟨hSo, hNo⟩, hb, g, h, nb, nc, nk, pn, G, H, sv, g3, h3, c, n, f, hg, hn, ⟨πd, π, πs, πh, o, hw, hr, hH, hsv, hT⟩, hM⟩ := id hv
  have hS8 := hw.f.1
  have hm := hM.1
  have hg1 := hM.2.1
  have hh1 := hM.2.2.1
  rcases idx 6 (by decide) p0 with hbp | ⟨p, hp, rfl⟩
  · exact opq_x hv (k := 1) (by decide) (LW_steepest_x1 hE hS8 hSo hNo (by decide) (t_steepest1 hE hfl hw hbp)) Fr.rf ((s_steepest_bad (d := 9) hm hbp).mpr qb2)
  · skip
    obtain ⟨I1, J1, hc, hf⟩ := cw_fr (V := .int (nI (StF (TxE g h nb nc nk p) 9998 1 0 (TxE g h nb nc nk p 1 - TxE g h nb nc nk p 0)))) (w_steepest (d := 5) hw hg hr hp (fun I1 J1 q => ⟨rfl, rfl, q⟩))
    exact opq_ok hv (LW_steepest_ok hE hS8 hSo hNo (by decide) hc) hf (s_steepest_ok (d := 5) hm (hM.g1 a1 hf) (hM.h1 a1 a2 hf) hg.1 hp (fun J2 hs => qo1 hs))
theorem op_taxPart (hE : tx_ok E) (hfl : l.stackTraces = false) (hv : Iv E.2.2.1 E.2.2.2.1 x m w b xs P I J) (p0 p1 : Int32) : OpWJ l E MX9_taxPart ML_taxPart hL_taxPart [.ref x, .int p0, .int p1, .ref w] [.ref m, .int p0, .int p1] x m w b xs I J P := by
  obtain ⟨⟨a1, a2, a3⟩, ⟨hSo, hNo⟩, hb, g, h, nb, nc, nk, pn, G, H, sv, g3, h3, c, n, f, hg, hn, ⟨πd, π, πs, πh, o, hw, hr, hH, hsv, hT⟩, hM⟩ := id hv
  have hS8 := hw.f.1
  have hm := hM.1
  have hg1 := hM.2.1
  have hh1 := hM.2.2.1
  rcases idx 6 (by decide) p0 with hbp | ⟨p, hp, rfl⟩
  · exact opj_x hv (k := 1) (by decide) (LW_taxPart_x1 hE hS8 hSo hNo (by decide) (t_taxPart1 hE hfl hw hbp)) Fr.rf ((s_taxPart_bad1 (d := 9) hm hbp).mpr ⟨qb1, _, rfl⟩)
  · skip
    rcases idx 6 (by decide) p1 with hbj | ⟨j, hj, rfl⟩
    · exact opj_x hv (k := 2) (by decide) (LW_taxPart_x2 hE hS8 hSo hNo (by decide) (t_taxPart2 hE hfl hw hp (bad_rng 5 (by decide) hbj))) Fr.rf ((s_taxPart_bad2 (d := 9) hm hp hbj).mpr ⟨qb1, _, rfl⟩)
    · skip
      obtain ⟨I1, J1, hc, hf⟩ := cw_fr (V := .long (TpF g nb nc (g (64 + 3 * p) + g (65 + 3 * p)) 1 j)) (w_taxPart (d := 7) hw hg hr hp hj (fun I1 J1 q => ⟨rfl, rfl, q⟩))
      exact opj_ok hv (LW_taxPart_ok hE hS8 hSo hNo (by decide) hc) hf (s_taxPart_ok (d := 6) hm (hM.g1 a1 hf) (hM.h1 a1 a2 hf) hg.1 hp hj (fun J2 hs => ⟨qo1 hs, _, rfl⟩))
theorem op_creditPart (hE : tx_ok E) (hfl : l.stackTraces = false) (hv : Iv E.2.2.1 E.2.2.2.1 x m w b xs P I J) (p0 p1 p2 : Int32) : OpWJ l E MX9_creditPart ML_creditPart hL_creditPart [.ref x, .int p0, .int p1, .int p2, .ref w] [.ref m, .int p0, .int p1, .int p2] x m w b xs I J P := by
  obtain ⟨⟨a1, a2, a3⟩, ⟨hSo, hNo⟩, hb, g, h, nb, nc, nk, pn, G, H, sv, g3, h3, c, n, f, hg, hn, ⟨πd, π, πs, πh, o, hw, hr, hH, hsv, hT⟩, hM⟩ := id hv
  have hS8 := hw.f.1
  have hm := hM.1
  have hg1 := hM.2.1
  have hh1 := hM.2.2.1
  have h31 : nk < 2 ^ 31 := by have := hg.cb; unfold Cb at this; omega
  rcases idx 6 (by decide) p0 with hbp | ⟨p, hp, rfl⟩
  · exact opj_x hv (k := 1) (by decide) (LW_creditPart_x1 hE hS8 hSo hNo (by decide) (t_creditPart1 hE hfl hw hbp)) Fr.rf ((s_creditPart_bad1 (d := 9) hm hbp).mpr ⟨qb1, _, rfl⟩)
  · skip
    rcases idx nk h31 p1 with hbk | ⟨k, hk, rfl⟩
    · exact opj_x hv (k := 1) (by decide) (LW_creditPart_x1 hE hS8 hSo hNo (by decide) (t_creditPart2 hE hfl hw hg hr hp hbk)) Fr.rf ((s_creditPart_bad2 (d := 9) hm hg1 hg.1 hp hbk).mpr ⟨qb1, _, rfl⟩)
    · skip
      rcases idx 5 (by decide) p2 with hbj | ⟨j, hj, rfl⟩
      · exact opj_x hv (k := 2) (by decide) (LW_creditPart_x2 hE hS8 hSo hNo (by decide) (t_creditPart3 hE hfl hw hg hr hp hk (bad_rng 4 (by decide) hbj))) Fr.rf ((s_creditPart_bad3 (d := 9) hm hg1 hg.1 hp hk hbj).mpr ⟨qb1, _, rfl⟩)
      · skip
        obtain ⟨I1, J1, hc, hf⟩ := cw_fr (V := .long (Tct g nb nc (Br1 h p) (g (64 + 3 * p)) (g (64 + 3 * p) + g (65 + 3 * p)) (g (66 + 3 * p)) 1 k j)) (w_creditPart (d := 7) hw hg hr hp hk hj (fun I1 J1 q => ⟨rfl, rfl, q⟩))
        exact opj_ok hv (LW_creditPart_ok hE hS8 hSo hNo (by decide) hc) hf (s_creditPart_ok (d := 6) hm (hM.g1 a1 hf) (hM.h1 a1 a2 hf) hg.1 hp hk hj (fun J2 hs => ⟨qo1 hs, _, rfl⟩))
theorem op_carried (hE : tx_ok E) (hfl : l.stackTraces = false) (hv : Iv E.2.2.1 E.2.2.2.1 x m w b xs P I J) (p0 p1 : Int32) : OpWJ l E MX9_carried ML_carried hL_carried [.ref x, .int p0, .int p1, .ref w] [.ref m, .int p0, .int p1] x m w b xs I J P := by
  obtain ⟨⟨a1, a2, a3⟩, ⟨hSo, hNo⟩, hb, g, h, nb, nc, nk, pn, G, H, sv, g3, h3, c, n, f, hg, hn, ⟨πd, π, πs, πh, o, hw, hr, hH, hsv, hT⟩, hM⟩ := id hv
  have hS8 := hw.f.1
  have hm := hM.1
  have hg1 := hM.2.1
  have hh1 := hM.2.2.1
  have h31 : nk < 2 ^ 31 := by have := hg.cb; unfold Cb at this; omega
  rcases idx 6 (by decide) p0 with hbp | ⟨p, hp, rfl⟩
  · exact opj_x hv (k := 1) (by decide) (LW_carried_x1 hE hS8 hSo hNo (by decide) (t_carried1 hE hfl hw hbp)) Fr.rf ((s_carried_bad1 (d := 9) hm hbp).mpr ⟨qb1, _, rfl⟩)
  · skip
    rcases idx nk h31 p1 with hbk | ⟨k, hk, rfl⟩
    · exact opj_x hv (k := 1) (by decide) (LW_carried_x1 hE hS8 hSo hNo (by decide) (t_carried2 hE hfl hw hg hr hp hbk)) Fr.rf ((s_carried_bad2 (d := 9) hm hg1 hg.1 hp hbk).mpr ⟨qb1, _, rfl⟩)
    · skip
      obtain ⟨I1, J1, hc, hf⟩ := cw_fr (V := .long (h (6 * p + k))) ((w_carried (d := 10) hw hg hr hp hk).mpr ⟨rfl, rfl, Fr.rf⟩)
      exact opj_ok hv (LW_carried_ok hE hS8 hSo hNo (by decide) hc) hf ((s_carried_ok (d := 9) hm (hM.g1 a1 hf) (hM.h1 a1 a2 hf) hg.1 hp hk).mpr ⟨qo0, _, rfl⟩)
theorem op_curve (hE : tx_ok E) (hfl : l.stackTraces = false) (hv : Iv E.2.2.1 E.2.2.2.1 x m w b xs P I J) (p0 p1 : Int32) : OpWJ l E MX9_curve ML_curve hL_curve [.ref x, .int p0, .int p1, .ref w] [.ref m, .int p0, .int p1] x m w b xs I J P := by
  obtain ⟨⟨a1, a2, a3⟩, ⟨hSo, hNo⟩, hb, g, h, nb, nc, nk, pn, G, H, sv, g3, h3, c, n, f, hg, hn, ⟨πd, π, πs, πh, o, hw, hr, hH, hsv, hT⟩, hM⟩ := id hv
  have hS8 := hw.f.1
  have hm := hM.1
  have hg1 := hM.2.1
  have hh1 := hM.2.2.1
  rcases idx 6 (by decide) p0 with hbp | ⟨p, hp, rfl⟩
  · exact opj_x hv (k := 1) (by decide) (LW_curve_x1 hE hS8 hSo hNo (by decide) (t_curve1 hE hfl hw hbp)) Fr.rf ((s_curve_bad1 (d := 9) hm hbp).mpr ⟨qb1, _, rfl⟩)
  · skip
    rcases idx 10000 (by decide) p1 with hbe | ⟨e, he, rfl⟩
    · exact opj_x hv (k := 2) (by decide) (LW_curve_x2 hE hS8 hSo hNo (by decide) (t_curve2 hE hfl hw hp (bad_9999 hbe))) Fr.rf ((s_curve_bad2 (d := 9) hm hp hbe).mpr ⟨qb1, _, rfl⟩)
    · skip
      obtain ⟨I1, J1, hc, hf⟩ := cw_fr (V := .long (TxE g h nb nc nk p e)) (w_curve (d := 7) hw hg hr hp (by omega) (fun I1 J1 q => ⟨rfl, rfl, q⟩))
      exact opj_ok hv (LW_curve_ok hE hS8 hSo hNo (by decide) hc) hf (s_curve_ok (d := 6) hm (hM.g1 a1 hf) (hM.h1 a1 a2 hf) hg.1 hp (by omega) (fun J2 hs => ⟨qo1 hs, _, rfl⟩))
theorem op_marginalRate (hE : tx_ok E) (hfl : l.stackTraces = false) (hv : Iv E.2.2.1 E.2.2.2.1 x m w b xs P I J) (p0 p1 : Int32) : OpWJ l E MX9_marginalRate ML_marginalRate hL_marginalRate [.ref x, .int p0, .int p1, .ref w] [.ref m, .int p0, .int p1] x m w b xs I J P := by
  obtain ⟨⟨a1, a2, a3⟩, ⟨hSo, hNo⟩, hb, g, h, nb, nc, nk, pn, G, H, sv, g3, h3, c, n, f, hg, hn, ⟨πd, π, πs, πh, o, hw, hr, hH, hsv, hT⟩, hM⟩ := id hv
  have hS8 := hw.f.1
  have hm := hM.1
  have hg1 := hM.2.1
  have hh1 := hM.2.2.1
  rcases idx 6 (by decide) p0 with hbp | ⟨p, hp, rfl⟩
  · exact opj_x hv (k := 1) (by decide) (LW_marginalRate_x1 hE hS8 hSo hNo (by decide) (t_marginalRate1 hE hfl hw hbp)) Fr.rf ((s_marginalRate_bad1 (d := 9) hm hbp).mpr ⟨qb1, _, rfl⟩)
  · skip
    rcases idx 9999 (by decide) p1 with hbe | ⟨e, he, rfl⟩
    · exact opj_x hv (k := 2) (by decide) (LW_marginalRate_x2 hE hS8 hSo hNo (by decide) (t_marginalRate2 hE hfl hw hp (bad_9998 hbe))) Fr.rf ((s_marginalRate_bad2 (d := 9) hm hp hbe).mpr ⟨qb1, _, rfl⟩)
    · skip
      obtain ⟨I1, J1, hc, hf⟩ := cw_fr (V := .long (TxE g h nb nc nk p (e + 1) - TxE g h nb nc nk p e)) (w_marginalRate (d := 7) hw hg hr hp (by omega) (fun I1 J1 q => ⟨rfl, rfl, q⟩))
      exact opj_ok hv (LW_marginalRate_ok hE hS8 hSo hNo (by decide) hc) hf (s_marginalRate_ok (d := 5) hm (hM.g1 a1 hf) (hM.h1 a1 a2 hf) hg.1 hp (by omega) (fun J2 hs => ⟨qo1 hs, _, rfl⟩))
theorem op_nextKink (hE : tx_ok E) (hfl : l.stackTraces = false) (hv : Iv E.2.2.1 E.2.2.2.1 x m w b xs P I J) (p0 p1 : Int32) : OpW l E MX9_nextKink ML_nextKink hL_nextKink [.ref x, .int p0, .int p1, .ref w] [.ref m, .int p0, .int p1] x m w b xs I J P := by
  obtain ⟨⟨a1, a2, a3⟩, ⟨hSo, hNo⟩, hb, g, h, nb, nc, nk, pn, G, H, sv, g3, h3, c, n, f, hg, hn, ⟨πd, π, πs, πh, o, hw, hr, hH, hsv, hT⟩, hM⟩ := id hv
  have hS8 := hw.f.1
  have hm := hM.1
  have hg1 := hM.2.1
  have hh1 := hM.2.2.1
  rcases idx 6 (by decide) p0 with hbp | ⟨p, hp, rfl⟩
  · exact opq_x hv (k := 1) (by decide) (LW_nextKink_x1 hE hS8 hSo hNo (by decide) (t_nextKink1 hE hfl hw hbp)) Fr.rf ((s_nextKink_bad (d := 9) hm hbp).mpr qb2)
  · skip
    obtain ⟨e0, hs0⟩ : ∃ e0, NkS p1 e0 := nks_ex p1
    cases hk : NkF (TxE g h nb nc nk p) (9999 - e0) e0 with
    | none =>
      obtain ⟨I1, J1, I2, J2, fr, c1, c2⟩ := nk_calls hw hg hr hp hs0 hk
      have hf : Fr (x + 271) (x + 303) I I2 J J2 := fr.w (by omega) (Nat.le_refl _)
      exact opq_x hv (k := 2) (by decide) (LW_nextKink_x2 hE hS8 hSo hNo (by decide) (t_nextKink2 hE hfl hw hp c1 c2)) hf (s_nextKink_ok (d := 4) hm (hM.g1 a1 hf) (hM.h2 a1 hf) hg.1 hp hs0 (fun J3 k e => by rw [hk] at e; cases e) (fun J3 e hs => qb2s hs))
    | some k =>
      obtain ⟨I1, J1, hc, hf⟩ := cw_fr (V := .int (nI k)) (w_nextKink (d := 5) hw hg hr hp hs0 hk (fun I1 J1 q => ⟨rfl, rfl, q⟩))
      exact opq_ok hv (LW_nextKink_ok hE hS8 hSo hNo (by decide) hc) hf (s_nextKink_ok (d := 4) hm (hM.g1 a1 hf) (hM.h1 a1 a2 hf) hg.1 hp hs0 (fun J3 k2 e hs => by rw [hk] at e; cases e; exact qo1 hs) (fun J3 e hs => by rw [hk] at e; cases e))
theorem op_kinkCause (hE : tx_ok E) (hfl : l.stackTraces = false) (hv : Iv E.2.2.1 E.2.2.2.1 x m w b xs P I J) (p0 p1 : Int32) : OpW l E MX9_kinkCause ML_kinkCause hL_kinkCause [.ref x, .int p0, .int p1, .ref w] [.ref m, .int p0, .int p1] x m w b xs I J P := by
  obtain ⟨⟨a1, a2, a3⟩, ⟨hSo, hNo⟩, hb, g, h, nb, nc, nk, pn, G, H, sv, g3, h3, c, n, f, hg, hn, ⟨πd, π, πs, πh, o, hw, hr, hH, hsv, hT⟩, hM⟩ := id hv
  have hS8 := hw.f.1
  have hm := hM.1
  have hg1 := hM.2.1
  have hh1 := hM.2.2.1
  rcases idx 6 (by decide) p0 with hbp | ⟨p, hp, rfl⟩
  · exact opq_x hv (k := 1) (by decide) (LW_kinkCause_x1 hE hS8 hSo hNo (by decide) (t_kinkCause1 hE hfl hw hbp)) Fr.rf ((s_kinkCause_bad (d := 9) hm hbp).mpr qb1)
  · skip
    have hkc : (¬ (1 ≤ p1 ∧ p1 ≤ 9998)) ∨ ∃ e, p1 = nI e ∧ 1 ≤ e ∧ e < 9999 := kc_ex p1
    rcases hkc with hout | ⟨e, rfl, e1, e2⟩
    · obtain ⟨I1, J1, I2, J2, fr, c1, c2⟩ := kc_calls hw hg hr hp (Or.inl hout)
      have hf : Fr (x + 271) (x + 303) I I2 J J2 := fr.w (by omega) (Nat.le_refl _)
      exact opq_x hv (k := 2) (by decide) (LW_kinkCause_x2 hE hS8 hSo hNo (by decide) (t_kinkCause2 hE hfl hw hp c1 c2)) hf ((s_kinkCause_out (d := 9) hm hp hout).mpr qb1)
    · by_cases hfl2 : flat (TxE g h nb nc nk p) e
      · obtain ⟨I1, J1, I2, J2, fr, c1, c2⟩ := kc_calls hw hg hr hp (Or.inr ⟨e, rfl, e1, e2, hfl2⟩)
        have hf : Fr (x + 271) (x + 303) I I2 J J2 := fr.w (by omega) (Nat.le_refl _)
        exact opq_x hv (k := 2) (by decide) (LW_kinkCause_x2 hE hS8 hSo hNo (by decide) (t_kinkCause2 hE hfl hw hp c1 c2)) hf (s_kinkCause_flat (d := 4) hm (hM.g1 a1 hf) (hM.h2 a1 hf) hg.1 hp e1 e2 hfl2 (fun J3 hs => qb1s hs))
      · have hcc : CcF (PvF g h nb nc p) e (3 + nk) 0 < 2 ^ 31 := by have h1 := CcF_le (PvF g h nb nc p) e (3 + nk) 0; have h2 := hg.cb; unfold Cb at h2; omega
        obtain ⟨I1, J1, hc, hf⟩ := cw_fr (V := .int (nI (CcF (PvF g h nb nc p) e (3 + nk) 0))) (w_kinkCause (d := 5) hw hg hr hp e1 e2 hfl2 hcc (fun I1 J1 q => ⟨rfl, rfl, q⟩))
        exact opq_ok hv (LW_kinkCause_ok hE hS8 hSo hNo (by decide) hc) hf (s_kinkCause_ok (d := 4) hm (hM.g1 a1 hf) (hM.h1 a1 a2 hf) hg.1 hp e1 e2 hfl2 (fun J3 hs => qo1 hs))
theorem op_faultPosition (hE : tx_ok E) (hv : Iv E.2.2.1 E.2.2.2.1 x m w b xs P I J) : OpD E MX8_faultPosition MX9_faultPosition x m w b xs I J P := by
  obtain ⟨⟨a1, a2, a3⟩, ⟨hSo, hNo⟩, hb, g, h, nb, nc, nk, pn, G, H, sv, g3, h3, c, n, f, hg, hn, ⟨πd, π, πs, πh, o, hw, hr, hH, hsv, hT⟩, hM⟩ := id hv
  have hS8 := hw.f.1
  have hm := hM.1
  have hg1 := hM.2.1
  have hh1 := hM.2.2.1
  obtain ⟨I1, J1, hc, hf⟩ := cw_fr (V := .int f) ((w_fault (d := 11) hw).mpr ⟨congrArg (fun z => some (Value.int z)) hT.2.2, rfl, Fr.rf⟩)
  refine opd_q hv hc hf ((s_faultPosition (d := 11) hm).mpr ⟨?_, rfl, qm1 Sc.rf⟩)
  rw [(hf m (by omega)).1, hM.2.2.2.2.2.2.2]
theorem op_bracketCount (hE : tx_ok E) (hv : Iv E.2.2.1 E.2.2.2.1 x m w b xs P I J) : OpD E MX8_bracketCount MX9_bracketCount x m w b xs I J P := by
  obtain ⟨⟨a1, a2, a3⟩, ⟨hSo, hNo⟩, hb, g, h, nb, nc, nk, pn, G, H, sv, g3, h3, c, n, f, hg, hn, ⟨πd, π, πs, πh, o, hw, hr, hH, hsv, hT⟩, hM⟩ := id hv
  have hS8 := hw.f.1
  have hm := hM.1
  have hg1 := hM.2.1
  have hh1 := hM.2.2.1
  obtain ⟨I1, J1, hc, hf⟩ := cw_fr (V := .int (nI nb)) ((w_bracketCount (d := 11) hw hr).mpr ⟨rfl, rfl, Fr.rf⟩)
  refine opd_q hv hc hf ((s_bracketCount (d := 11) hm).mpr ⟨?_, rfl, qm1 Sc.rf⟩)
  rw [hM.g1 a1 hf, hg.1.2.2.2.1]
theorem op_chargeCount (hE : tx_ok E) (hv : Iv E.2.2.1 E.2.2.2.1 x m w b xs P I J) : OpD E MX8_chargeCount MX9_chargeCount x m w b xs I J P := by
  obtain ⟨⟨a1, a2, a3⟩, ⟨hSo, hNo⟩, hb, g, h, nb, nc, nk, pn, G, H, sv, g3, h3, c, n, f, hg, hn, ⟨πd, π, πs, πh, o, hw, hr, hH, hsv, hT⟩, hM⟩ := id hv
  have hS8 := hw.f.1
  have hm := hM.1
  have hg1 := hM.2.1
  have hh1 := hM.2.2.1
  obtain ⟨I1, J1, hc, hf⟩ := cw_fr (V := .int (nI nc)) ((w_chargeCount (d := 11) hw hr).mpr ⟨rfl, rfl, Fr.rf⟩)
  refine opd_q hv hc hf ((s_chargeCount (d := 11) hm).mpr ⟨?_, rfl, qm1 Sc.rf⟩)
  rw [hM.g1 a1 hf, hg.1.2.2.2.2.1]
theorem op_creditCount (hE : tx_ok E) (hv : Iv E.2.2.1 E.2.2.2.1 x m w b xs P I J) : OpD E MX8_creditCount MX9_creditCount x m w b xs I J P := by
  obtain ⟨⟨a1, a2, a3⟩, ⟨hSo, hNo⟩, hb, g, h, nb, nc, nk, pn, G, H, sv, g3, h3, c, n, f, hg, hn, ⟨πd, π, πs, πh, o, hw, hr, hH, hsv, hT⟩, hM⟩ := id hv
  have hS8 := hw.f.1
  have hm := hM.1
  have hg1 := hM.2.1
  have hh1 := hM.2.2.1
  obtain ⟨I1, J1, hc, hf⟩ := cw_fr (V := .int (nI nk)) ((w_creditCount (d := 11) hw hr).mpr ⟨rfl, rfl, Fr.rf⟩)
  refine opd_q hv hc hf ((s_creditCount (d := 11) hm).mpr ⟨?_, rfl, qm1 Sc.rf⟩)
  rw [hM.g1 a1 hf, hg.1.2.2.2.2.2]
theorem op_years (hE : tx_ok E) (hv : Iv E.2.2.1 E.2.2.2.1 x m w b xs P I J) : OpD E MX8_years MX9_years x m w b xs I J P := by
  obtain ⟨⟨a1, a2, a3⟩, ⟨hSo, hNo⟩, hb, g, h, nb, nc, nk, pn, G, H, sv, g3, h3, c, n, f, hg, hn, ⟨πd, π, πs, πh, o, hw, hr, hH, hsv, hT⟩, hM⟩ := id hv
  have hS8 := hw.f.1
  have hm := hM.1
  have hg1 := hM.2.1
  have hh1 := hM.2.2.1
  obtain ⟨I1, J1, hc, hf⟩ := cw_fr (V := .int (g 88)) ((w_years (d := 11) hw hr).mpr ⟨rfl, rfl, Fr.rf⟩)
  refine opd_q hv hc hf ((s_years (d := 11) hm).mpr ⟨?_, rfl, qm1 Sc.rf⟩)
  rw [hM.g1 a1 hf]
theorem op_totalTax (hE : tx_ok E) (hv : Iv E.2.2.1 E.2.2.2.1 x m w b xs P I J) : OpDJ E MX8_totalTax MX9_totalTax x m w b xs I J P := by
  obtain ⟨⟨a1, a2, a3⟩, ⟨hSo, hNo⟩, hb, g, h, nb, nc, nk, pn, G, H, sv, g3, h3, c, n, f, hg, hn, ⟨πd, π, πs, πh, o, hw, hr, hH, hsv, hT⟩, hM⟩ := id hv
  have hS8 := hw.f.1
  have hm := hM.1
  have hg1 := hM.2.1
  have hh1 := hM.2.2.1
  obtain ⟨I1, J1, hc, hf⟩ := cw_fr (V := .long (TotF g h nb nc nk 0 6 0)) (k_totalTax (d := 5) hw hg hr (fun I1 J1 q => ⟨rfl, rfl, q⟩))
  refine opdj_q hv hc hf (s_totalTax (d := 5) hm (hM.g1 a1 hf) (hM.h2 a1 hf) hg.1 hg.2.1 (fun I2 J2 hi hs => ⟨rfl, rfl, qmI hi hs⟩))
end OPQ

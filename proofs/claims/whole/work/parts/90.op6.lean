/-! averages, both sides -/
section OPF
variable {l : Launch} {E : tx_En} {I : IM} {J : JM} {P : PM} {x m w b od : Nat} {xs : Nat → Int32}
def OpA (l : Launch) (E : tx_En) (od x m w b : Nat) (xs : Nat → Int32) (p0 : Int32) (I : IM) (J : JM) (P : PM) : Prop :=
  ∃ k I1 J1 dz rb I2 J2, MtWD l E od [.ref x, .int p0, .ref od] I J P k dz I1 J1 P ∧ I1 b = xs ∧ MtM l E 8 MX9_averageRate [.ref m, .int p0] I1 J1 P (some (.double rb)) I2 J2 P ∧ I2 m 8 = k ∧ ((k = 0 ∧ dz = (fun z => z.setSlot 0 (.double rb)) ∧ Jvm.Free.Fl.NoNaN64 rb) ∨ (k ≠ 0 ∧ dz = fun z => z)) ∧ Iv E.2.2.1 E.2.2.2.1 x m w b xs P I2 J2
theorem op_averageRate (hE : tx_ok E) (hfl : l.stackTraces = false) (hv : Iv E.2.2.1 E.2.2.2.1 x m w b xs P I J) (p0 : Int32) : OpA l E od x m w b xs p0 I J P := by
  obtain ⟨⟨a1, a2, a3⟩, ⟨hSo, hNo⟩, hb, g, h, nb, nc, nk, pn, G, H, sv, g3, h3, c, n, f, hg, hn, ⟨πd, π, πs, πh, o, hw, hr, hH, hsv, hT⟩, hM⟩ := id hv
  have hS8 := hw.f.1
  have hm := hM.1
  rcases idx 6 (by decide) p0 with hbp | ⟨p, hp, rfl⟩
  · exact ⟨1, I, J, _, _, _, J, LWD_x1 (d := 1) hE hS8 (by decide) (t_averageRate1 hE hfl hw hbp), hb, fl9_bad hE hm hbp, u2s _ _ _ _, Or.inr ⟨by decide, rfl⟩, hv.q Fr.rf J (Or.inl rfl) (qm1 Sc.rf)⟩
  · by_cases hz : Inc g p = 0
    · exact ⟨2, I, J, _, _, _, J, LWD_x2 (d := 1) hE hS8 (by decide) (t_averageRate2 hE hfl hw hr hp hz), hb, fl9_zero hE hm hM.2.1 hp ((inc_iff hg hp).mp hz), u2s _ _ _ _, Or.inr ⟨by decide, rfl⟩, hv.q Fr.rf J (Or.inl rfl) (qm1 Sc.rf)⟩
    · obtain ⟨I1, J1, hf, h1⟩ := fl8_rate (l := l) hE hw hg hr hp hz
      obtain ⟨J2, hs, h2⟩ := fl9_rate (l := l) (I := I1) (J := J1) hE hm (hM.g1 a1 hf) (hM.h2 a1 hf) hg.1 hp (fun z => hz ((inc_iff hg hp).mpr z)) hz
      exact ⟨0, I1, J1, _, _, _, J2, LWD_ok hE hS8 h1, hv.b1 hf, h2, u2s _ _ _ _, Or.inl ⟨rfl, rfl, rate_nn hz⟩, hv.q hf J1 (Or.inl rfl) (qm1 hs)⟩
theorem op_averageDependents (hE : tx_ok E) (hv : Iv E.2.2.1 E.2.2.2.1 x m w b xs P I J) : ∃ F I2, MtM l E 8 MX8_averageDependents [.ref x] I J P (some (.float F)) I J P ∧ MtM l E 8 MX9_averageDependents [.ref m] I J P (some (.float F)) I2 J P ∧ Jvm.Free.Fl.NoNaN32 F ∧ Iv E.2.2.1 E.2.2.2.1 x m w b xs P I2 J := by
  obtain ⟨⟨a1, a2, a3⟩, ⟨hSo, hNo⟩, hb, g, h, nb, nc, nk, pn, G, H, sv, g3, h3, c, n, f, hg, hn, ⟨πd, π, πs, πh, o, hw, hr, hH, hsv, hT⟩, hM⟩ := id hv
  exact ⟨_, _, fl8_dep hE hw hr, fl9_dep hE hM.1 hM.2.1, dep_nn _, hv.q Fr.rf J (Or.inl rfl) (qm1 Sc.rf)⟩
end OPF

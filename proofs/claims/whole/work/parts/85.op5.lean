/-! addRules, both sides -/
section OPR
variable {l : Launch} {E : tx_En} {I : IM} {J : JM} {P : PM} {x m w b : Nat} {xs : Nat → Int32}
theorem Cnt.c2 {g : Nat → Int32} {nb nc nk : Nat} (h : Cnt g nb nc nk) : Cn2 g := ⟨⟨nc, h.2.1, h.2.2.2.2.1⟩, nk, h.2.2.1, h.2.2.2.2.2⟩
/-- both sides after a text that was refused -/
theorem ar_bad {S N : Nat → Nat} {I1 I2 : IM} {J1 : JM} (a1 : x + 303 ≤ m) (a2 : m + 15 ≤ w) (a3 : b < x) (hSN : S w = 11 ∧ N w = 1) (hb : I b = xs) {g : Nat → Int32} {h : Nat → Int64} {nb nc nk pn : Nat} {G : Nat → Nat → Int32} {H : Nat → Nat → Int64} {sv : Int32} {g3 : Nat → Int32} {h3 : Nat → Int64} {c : Nat → Int32} {n : Nat} {f f1 : Int32} (hg : Gd g nb nc nk)
    {πd π πs : Nat → Nat} {πh : Nat → Nat → Nat} {o : Nat} (hw : WbS S N P x πd π πs πh) (hr : Led I J (x + 29) π g h nb nc nk) (hH : Hst I J (x + 89) πh pn o G H) (hsv : I x 4 = sv ∧ (sv = 0 ∨ (sv = 1 ∧ ∃ b3 c3 k3, Gd g3 b3 c3 k3 ∧ Led I J (x + 59) πs g3 h3 b3 c3 k3))) (hT : I (x + 2) = c ∧ I (x + 1) 1 = nI n ∧ I (x + 1) 2 = f) (hM : MI S N m P I1 J1 g h pn G H sv g3 h3 c n f)
    (fx : Fx (x + 1) (x + 4) I I1 J J1) (t1 : I1 (x + 1) 1 = 0) (t2 : I1 (x + 1) 2 = f1)
    (b1 : ∀ a, a ≠ m → a ≠ m + 8 → I2 a = I1 a) (b2 : ∀ k, k ≠ 8 → k ≠ 10 → k ≠ 11 → k ≠ 12 → k ≠ 13 → k ≠ 14 → I2 m k = I1 m k) (b4 : I2 m 10 = 0) (b5 : I2 m 13 = f1) : Iv S N x m w b xs P I2 J1 := by
  obtain ⟨m1, m2, m3, m4, ⟨m5, m6, m7⟩, m8, m9, m10⟩ := hM
  have z0 : (0 : Int32) = nI 0 := rfl
  have q1 : ∀ a, a < x + 1 ∨ a = x + 2 ∨ x + 29 ≤ a → a ≠ m → a ≠ m + 8 → I2 a = I a := fun a ha z1 z2 => by rw [b1 a z1 z2, fx.1 a (by omega) (by omega) (by omega)]
  refine ⟨⟨a1, a2, a3⟩, hSN, by rw [q1 b (by omega) (by omega) (by omega)]; exact hb, g, h, nb, nc, nk, pn, G, H, sv, g3, h3, c, 0, f1, hg, by decide, ⟨πd, π, πs, πh, o, hw, ?_, ?_, ⟨?_, ?_⟩, ?_, ?_, ?_⟩, m1, ?_, ?_, m4.on ?_ ?_ rfl, ⟨?_, ?_, ?_⟩, ?_, ?_, ?_⟩
  · exact hr.on hw.le hg.cb (fun a z1 z2 => q1 a (by omega) (by omega) (by omega)) (fun a z1 z2 => fx.2 a (by omega))
  · exact hH.on hw.hi (fun a z1 z2 => q1 a (by omega) (by omega) (by omega)) (fun a z1 z2 => fx.2 a (by omega))
  · rw [q1 x (by omega) (by omega) (by omega)]; exact hsv.1
  · rcases hsv.2 with z | ⟨z, b3, c3, k3, z1, z2⟩
    · exact Or.inl z
    · exact Or.inr ⟨z, b3, c3, k3, z1, z2.on hw.sv z1.cb (fun a z3 z4 => q1 a (by omega) (by omega) (by omega)) (fun a z3 z4 => fx.2 a (by omega))⟩
  · rw [q1 _ (by omega) (by omega) (by omega)]; exact hT.1
  · rw [b1 _ (by omega) (by omega), t1, z0]
  · rw [b1 _ (by omega) (by omega)]; exact t2
  · rw [b1 _ (by omega) (by omega)]; exact m2
  · exact m3
  · exact b2 7 (by decide) (by decide) (by decide) (by decide) (by decide) (by decide)
  · exact b1 _ (by omega) (by omega)
  · rw [b2 4 (by decide) (by decide) (by decide) (by decide) (by decide) (by decide)]; exact m5
  · rw [b1 _ (by omega) (by omega)]; exact m6
  · exact m7
  · rw [b1 _ (by omega) (by omega)]; exact m8
  · rw [b4, z0]
  · exact b5
theorem op_addRules (hE : tx_ok E) (hfl : l.stackTraces = false) (hv : Iv E.2.2.1 E.2.2.2.1 x m w b xs P I J) : OpW l E MX9_addRules ML_addRules hL_addRules [.ref x, .ref w] [.ref m] x m w b xs I J P := by
  obtain ⟨⟨a1, a2, a3⟩, hSN, hb, g, h, nb, nc, nk, pn, G, H, sv, g3, h3, c, n, f, hg, hn, ⟨πd, π, πs, πh, o, hw, hr, hH, hsv, hT⟩, hM⟩ := id hv
  have hS8 := hw.f.1
  have hm := hM.1
  have ht : ∀ k, k < 89 → T0 I m k = g k := fun k hk => by rw [T0_lt hk, hM.2.1]
  have eT : ∀ I1 : IM, I1 (m + 1) = I (m + 1) → I1 (m + 8) = I (m + 8) → T0 I1 m = T0 I m := fun I1 e1 e2 => by
    funext k
    unfold T0 cpR
    rw [e1, e2]
  obtain ⟨I1, J1, I2, J2, c1, c2, fx, t1, hcase⟩ := ar_calls (d := 0) hw hg hr hT.2.1 hn ht
  have hMb : MI E.2.2.1 E.2.2.2.1 m P I2 J2 g h pn G H sv g3 h3 c n f := hM.on (fun a z1 z2 => ⟨fx.1 a (by omega) (by omega) (by omega), fx.2 a (by omega)⟩)
  have e2' : T0 I2 m = T0 I m := eT I2 (fx.1 _ (by omega) (by omega) (by omega)) (fx.1 _ (by omega) (by omega) (by omega))
  have hc2 : Cn2 (I2 (m + 1)) := by rw [hMb.2.1]; exact hg.1.c2
  rw [hT.1] at hcase
  rcases hcase with ⟨s2, e, t2, t3⟩ | ⟨ls, s2, e, t2, t3, t4, t5⟩
  · exact opx_ok (w := w) (by rw [fx.1 b (by omega) (by omega) (by omega)]; exact hb) (k := 1) (by decide) (LW_addRules_x1 hE hS8 hSN.1 hSN.2 (by decide) (t_addRules1 hE hfl hw c1 c2 t2 t3)) (s_addRules_fault (d := 5) hMb.1 hMb.2.2.2.2.2.1 hMb.2.2.2.2.2.2.1 hn hc2 e (fun I3 b1 b2 b3 b4 b5 => ⟨rfl, b3, ar_bad a1 a2 a3 hSN hb hg hw hr hH hsv hT hMb fx t1 t2 b1 b2 b4 b5⟩))
  · cases ho : ItsO ls (T0 I m) with
    | true =>
      rw [ho] at t4
      exact opx_ok (w := w) (by rw [fx.1 b (by omega) (by omega) (by omega)]; exact hb) (k := 2) (by decide) (LW_addRules_x2 hE hS8 hSN.1 hSN.2 (by decide) (t_addRules2 hE hfl hw c1 c2 t2 t4)) (s_addRules_odd (d := 5) hMb.1 hMb.2.2.2.2.2.1 hMb.2.2.2.2.2.2.1 hn hc2 e (by rw [e2']; exact ho) (fun I3 b1 b2 b3 b4 b5 => ⟨rfl, b3, ar_bad a1 a2 a3 hSN hb hg hw hr hH hsv hT hMb fx t1 t2 b1 b2 b4 b5⟩))
    | false =>
      have he' : ItsF (I (x + 2)) n 81 0 = (some ls, s2) := by rw [hT.1]; exact e
      obtain ⟨r, I3, J3, P3, ⟨rfl, rfl, o1, nb1, nc1, nk1, f1, f2, f3, f4, f5, f6, f7⟩, hc⟩ := cw_ex (w_addRules (d := 5) (Q := fun r I' J' P' => r = some (.int (nI ls.length)) ∧ P' = P ∧ ∃ o' nb' nc' nk', Fa x I I' J J' ∧ I' (x + 1) 1 = 0 ∧ I' (x + 1) 2 = -1 ∧ Gd (ItsG ls (T0 I m)) nb' nc' nk' ∧ nk ≤ nk' ∧ Hst I' J' (x + 89) πh (psn pn) o' (psh pn G g) (psh pn H h) ∧ (∀ (g' : Nat → Int32) (h' : Nat → Int64), (∀ k, k < 89 → g' k = ItsG ls (T0 I m) k) → (∀ p k, p < 6 → k < nk' → h' (6 * p + k) = if k < nk then h (6 * p + k) else 0) → Led I' J' (x + 29) π g' h' nb' nc' nk')) hw hg hr hH hT.2.1 hn ht he' ho (fun I1 J1 o1 nb1 nc1 nk1 f1 f2 f3 f4 f5 f6 f7 => ⟨rfl, rfl, o1, nb1, nc1, nk1, f1, f2, f3, f4, f5, f6, f7⟩))
      have hj : ∀ a, a ≠ w → (u2 J3 w 0 (nI ls.length).toInt64) a = J3 a := fun a ha => u2_off _ _ _ ha
      have hM1 : MI E.2.2.1 E.2.2.2.1 m P3 I3 (u2 J3 w 0 (nI ls.length).toInt64) g h pn G H sv g3 h3 c n f := hM.on (fun a z1 z2 => ⟨(f1 a (by omega)).1, by rw [hj a (by omega)]; exact (f1 a (by omega)).2⟩)
      have e3' : T0 I3 m = T0 I m := eT I3 (f1 _ (by omega)).1 (f1 _ (by omega)).1
      refine opc_ok (w := w) (by rw [(f1 b (by omega)).1]; exact hb) (LW_addRules_ok hE hS8 hSN.1 hSN.2 (by decide) hc) (s_addRules_ok (d := 5) (nk := nk) (nk' := nk1) hM1.1 hM1.2.2.2.2.2.1 hM1.2.2.2.2.2.2.1 hn (by rw [hM1.2.1]; exact hg.1.c2) e (by rw [e3']; exact ho) hg.cb.2.2 (by rw [hM1.2.1]; exact hg.1.2.2.2.2.2) f4.cb.2.2 (by rw [e3']; exact f4.1.2.2.2.2.2) hM1.2.2.2.1 (fun I4 J4 b1 b2 b3 b4 b5 b6 b7 b8 b9 => ?_))
      rw [e3'] at b1
      rw [hM1.2.1, hM1.2.2.1] at b9
      rw [hM1.2.2.1] at b2
      obtain ⟨m1, m2, m3, m4, ⟨m5, m6, m7⟩, m8, m9, m10⟩ := hM1
      have z0 : (0 : Int32) = nI 0 := rfl
      have q1 : ∀ a, a < x + 1 ∨ a = x + 2 ∨ (x + 59 ≤ a ∧ a < x + 89) ∨ x + 271 ≤ a → a ≠ m → a ≠ m + 1 → a ≠ m + 5 → a ≠ m + 8 → I4 a = I a := fun a ha z1 z2 z3 z4 => by rw [b3 a z1 z2 z3 z4, (f1 a ha).1]
      have qx : ∀ a, a < m → I4 a = I3 a := fun a ha => b3 a (by omega) (by omega) (by omega) (by omega)
      have qj : ∀ a, a ≠ w → a ≠ m + 2 → a ≠ m + 6 → J4 a = J3 a := fun a z1 z2 z3 => by rw [b8 a z2 z3, hj a z1]
      have hg1 : Gd (I4 (m + 1)) nb1 nc1 nk1 := f4.cg b1
      have hr1 : Led I3 J3 (x + 29) π (I4 (m + 1)) (J4 (m + 2)) nb1 nc1 nk1 := f7 _ _ b1 (fun p k hp hk => by
        rw [b2 p k hp (by have := f4.cb.2.2; omega)]
        by_cases hk2 : k < nk
        · rw [if_neg (by omega), if_pos hk2]
        · rw [if_pos ⟨by omega, hk⟩, if_neg hk2])
      refine ⟨rfl, b5, fun v ev => ?_, ⟨a1, a2, a3⟩, hSN, by rw [q1 b (by omega) (by omega) (by omega) (by omega) (by omega)]; exact hb, _, _, nb1, nc1, nk1, psn pn, psh pn G g, psh pn H h, sv, g3, h3, c, 0, -1, hg1, by decide, ⟨πd, π, πs, πh, o1, hw, ?_, ?_, ⟨?_, ?_⟩, ?_, ?_, ?_⟩, m1, rfl, rfl, b9, ⟨?_, ?_, ?_⟩, ?_, ?_, b7⟩
      · cases ev
        rw [b8 w (by omega) (by omega), u2s]
        rfl
      · exact hr1.on hw.le hg1.cb (fun a z1 z2 => qx a (by omega)) (fun a z1 z2 => qj a (by omega) (by omega) (by omega))
      · exact f6.on hw.hi (fun a z1 z2 => qx a (by omega)) (fun a z1 z2 => qj a (by omega) (by omega) (by omega))
      · rw [q1 x (by omega) (by omega) (by omega) (by omega) (by omega)]; exact hsv.1
      · rcases hsv.2 with z | ⟨z, b3', c3, k3, z1, z2⟩
        · exact Or.inl z
        · exact Or.inr ⟨z, b3', c3, k3, z1, z2.on hw.sv z1.cb (fun a z3 z4 => q1 a (by omega) (by omega) (by omega) (by omega) (by omega)) (fun a z3 z4 => by rw [qj a (by omega) (by omega) (by omega), (f1 a (by omega)).2])⟩
      · rw [q1 _ (by omega) (by omega) (by omega) (by omega) (by omega)]; exact hT.1
      · rw [qx _ (by omega), f2, z0]
      · rw [qx _ (by omega)]; exact f3
      · rw [b4 4 (by decide) (by decide) (by decide) (by decide) (by decide) (by decide) (by decide)]; exact m5
      · rw [b3 _ (by omega) (by omega) (by omega) (by omega)]; exact m6
      · rw [b8 _ (by omega) (by omega)]; exact m7
      · rw [b3 _ (by omega) (by omega) (by omega) (by omega)]; exact m8
      · rw [b6, z0]
end OPR

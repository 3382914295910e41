/-! the law's invariant: what the class says and what the model says -/
def CI (S N : Nat → Nat) (x : Nat) (P : PM) (I : IM) (J : JM) (g : Nat → Int32) (h : Nat → Int64) (nb nc nk pn : Nat) (G : Nat → Nat → Int32) (H : Nat → Nat → Int64) (sv : Int32) (g3 : Nat → Int32) (h3 : Nat → Int64) (c : Nat → Int32) (n : Nat) (f : Int32) : Prop :=
  ∃ πd π πs πh o, WbS S N P x πd π πs πh ∧ Led I J (x + 29) π g h nb nc nk ∧ Hst I J (x + 89) πh pn o G H ∧ (I x 4 = sv ∧ (sv = 0 ∨ (sv = 1 ∧ ∃ b3 c3 k3, Gd g3 b3 c3 k3 ∧ Led I J (x + 59) πs g3 h3 b3 c3 k3))) ∧ (I (x + 2) = c ∧ I (x + 1) 1 = nI n ∧ I (x + 1) 2 = f)
def MI (S N : Nat → Nat) (m : Nat) (P : PM) (I : IM) (J : JM) (g : Nat → Int32) (h : Nat → Int64) (pn : Nat) (G : Nat → Nat → Int32) (H : Nat → Nat → Int64) (sv : Int32) (g3 : Nat → Int32) (h3 : Nat → Int64) (c : Nat → Int32) (n : Nat) (f : Int32) : Prop :=
  MdS S N P m ∧ I (m + 1) = g ∧ J (m + 2) = h ∧ Pas m I J pn G H ∧ (I m 4 = sv ∧ I (m + 3) = g3 ∧ J (m + 4) = h3) ∧ (I (m + 7) = c ∧ I m 10 = nI n ∧ I m 13 = f)
def Iv (S N : Nat → Nat) (x m w b : Nat) (xs : Nat → Int32) (P : PM) (I : IM) (J : JM) : Prop :=
  (x + 303 ≤ m ∧ m + 15 ≤ w ∧ b < x) ∧ (S w = 11 ∧ N w = 1) ∧ I b = xs ∧ ∃ g h nb nc nk pn G H sv g3 h3 c n f, Gd g nb nc nk ∧ n ≤ 80 ∧ CI S N x P I J g h nb nc nk pn G H sv g3 h3 c n f ∧ MI S N m P I J g h pn G H sv g3 h3 c n f
def toL : Value → Int64
  | .int v => v.toInt64
  | .long v => v
  | _ => 0
/-- a call through one of the law's wrappers: both sides answer alike, and the invariant holds again -/
def OpW (l : Launch) (E : tx_En) (M9 ML : MR) (hL : List (Nat × Nat × Nat × Nat)) (aw a9 : List Value) (x m w b : Nat) (xs : Nat → Int32) (I : IM) (J : JM) (P : PM) : Prop :=
  ∃ k I1 J1 P1 rb I2 J2, MtW l E ML hL aw I J P (some (.int k)) I1 J1 P1 ∧ I1 b = xs ∧ CWp E.2.2.1 E.2.2.2.1 11 M9 a9 I1 J1 P1 (Qe rb I2 J2 P1) ∧ I2 m 8 = k ∧ (k = 0 → ∀ v, rb = some v → J2 w 0 = toL v) ∧ Iv E.2.2.1 E.2.2.2.1 x m w b xs P1 I2 J2
/-- .. one that answers a long -/
def OpWJ (l : Launch) (E : tx_En) (M9 ML : MR) (hL : List (Nat × Nat × Nat × Nat)) (aw a9 : List Value) (x m w b : Nat) (xs : Nat → Int32) (I : IM) (J : JM) (P : PM) : Prop :=
  ∃ k I1 J1 P1 v I2 J2, MtW l E ML hL aw I J P (some (.int k)) I1 J1 P1 ∧ I1 b = xs ∧ CWp E.2.2.1 E.2.2.2.1 11 M9 a9 I1 J1 P1 (Qe (some (.long v)) I2 J2 P1) ∧ I2 m 8 = k ∧ (k = 0 → J2 w 0 = v) ∧ Iv E.2.2.1 E.2.2.2.1 x m w b xs P1 I2 J2
def OpDJ (E : tx_En) (M8 M9 : MR) (x m w b : Nat) (xs : Nat → Int32) (I : IM) (J : JM) (P : PM) : Prop :=
  ∃ v I1 J1 P1 I2 J2, CWp E.2.2.1 E.2.2.2.1 11 M8 [.ref x] I J P (Qe (some (.long v)) I1 J1 P1) ∧ I1 b = xs ∧ CWp E.2.2.1 E.2.2.2.1 11 M9 [.ref m] I1 J1 P1 (Qe (some (.long v)) I2 J2 P1) ∧ Iv E.2.2.1 E.2.2.2.1 x m w b xs P1 I2 J2
/-- a call without a wrapper -/
def OpD (E : tx_En) (M8 M9 : MR) (x m w b : Nat) (xs : Nat → Int32) (I : IM) (J : JM) (P : PM) : Prop :=
  ∃ r I1 J1 P1 I2 J2, CWp E.2.2.1 E.2.2.2.1 11 M8 [.ref x] I J P (Qe r I1 J1 P1) ∧ I1 b = xs ∧ CWp E.2.2.1 E.2.2.2.1 11 M9 [.ref m] I1 J1 P1 (Qe r I2 J2 P1) ∧ Iv E.2.2.1 E.2.2.2.1 x m w b xs P1 I2 J2
/-- a model's call that only answers -/
def Qm (m : Nat) (I I' : IM) (J J' : JM) : Prop := (∀ a, a ≠ m → I' a = I a) ∧ (∀ k, k ≠ 8 → k ≠ 21 → I' m k = I m k) ∧ Sc m J J'
def Qx (m : Nat) (k : Int32) (I : IM) (J : JM) (P : PM) : Option Value → IM → JM → PM → Prop := fun _ I2 J2 P2 => P2 = P ∧ I2 m 8 = k ∧ Qm m I I2 J J2
def Qo (m : Nat) (v : Int64) (I : IM) (J : JM) (P : PM) : Option Value → IM → JM → PM → Prop := fun r I2 J2 P2 => P2 = P ∧ I2 m 8 = 0 ∧ Qm m I I2 J J2 ∧ ∃ y, r = some y ∧ toL y = v
section QMS
variable {m : Nat} {I I' : IM} {J J' : JM} {P : PM} {r : Option Value} {y : Value} {k j : Int32}
theorem qm1 (h : Sc m J J') : Qm m I (u2 I m 8 k) J J' := ⟨fun a ha => u2_off _ _ _ ha, fun z h8 _ => u2k _ _ _ h8, h⟩
theorem qm2 (h : Sc m J J') : Qm m I (u2 (u2 I m 8 j) m 8 k) J J' := ⟨fun a ha => by rw [u2_off _ _ _ ha, u2_off _ _ _ ha], fun z h8 _ => by rw [u2k _ _ _ h8, u2k _ _ _ h8], h⟩
theorem qm21 (h : Sc m J J') : Qm m I (u2 (u2 I m 8 j) m 21 k) J J' := ⟨fun a ha => by rw [u2_off _ _ _ ha, u2_off _ _ _ ha], fun z h8 h21 => by rw [u2k _ _ _ h21, u2k _ _ _ h8], h⟩
theorem qmI (hi : Im m (u2 I m 8 j) I') (h : Sc m J J') : Qm m I I' J J' := ⟨fun a ha => by
  funext z
  rw [hi a z (fun q => ha q.1), u2_off _ _ _ ha], fun z h8 h21 => by rw [hi m z (fun q => h21 q.2), u2k _ _ _ h8], h⟩
theorem qb1 : Qx m k I J P r (u2 I m 8 k) J P := ⟨rfl, u2s _ _ _ _, qm1 Sc.rf⟩
theorem qb2 : Qx m k I J P r (u2 (u2 I m 8 j) m 8 k) J P := ⟨rfl, u2s _ _ _ _, qm2 Sc.rf⟩
theorem qb1s (h : Sc m J J') : Qx m k I J P r (u2 I m 8 k) J' P := ⟨rfl, u2s _ _ _ _, qm1 h⟩
theorem qb2s (h : Sc m J J') : Qx m k I J P r (u2 (u2 I m 8 j) m 8 k) J' P := ⟨rfl, u2s _ _ _ _, qm2 h⟩
theorem qo0 : Qo m (toL y) I J P (some y) (u2 I m 8 0) J P := ⟨rfl, u2s _ _ _ _, qm1 Sc.rf, y, rfl, rfl⟩
theorem qo1 (h : Sc m J J') : Qo m (toL y) I J P (some y) (u2 I m 8 0) J' P := ⟨rfl, u2s _ _ _ _, qm1 h, y, rfl, rfl⟩
theorem qo21 (h : Sc m J J') : Qo m (toL y) I J P (some y) (u2 (u2 I m 8 0) m 21 k) J' P := ⟨rfl, by rw [u2k _ _ _ (by decide)]; exact u2s _ _ _ _, qm21 h, y, rfl, rfl⟩
theorem qoI (hi : Im m (u2 I m 8 0) I') (h : Sc m J J') : Qo m (toL y) I J P (some y) I' J' P := ⟨rfl, by rw [hi m 8 (by simp), u2s], qmI hi h, y, rfl, rfl⟩
end QMS
section IVL
variable {l : Launch} {E : tx_En} {S N : Nat → Nat} {I I1 I2 : IM} {J J1 J2 : JM} {P P1 : PM} {x m w b d : Nat} {xs : Nat → Int32} {g : Nat → Int32} {h : Nat → Int64} {nb nc nk pn : Nat} {G : Nat → Nat → Int32} {H : Nat → Nat → Int64} {sv : Int32} {g3 : Nat → Int32} {h3 : Nat → Int64} {c : Nat → Int32} {n : Nat} {f : Int32} {M M9 ML : MR} {hL : List (Nat × Nat × Nat × Nat)} {aw a9 As : List Value} {V : Value} {v : Int64} {k : Int32}
theorem CI.q (hg : Gd g nb nc nk) (h0 : CI S N x P I J g h nb nc nk pn G H sv g3 h3 c n f) (hI : ∀ a, x ≤ a → a < x + 271 → I1 a = I a ∧ J1 a = J a) : CI S N x P I1 J1 g h nb nc nk pn G H sv g3 h3 c n f := by
  obtain ⟨πd, π, πs, πh, o, hw, hr, hH, ⟨h4, hsv⟩, t1, t2, t3⟩ := h0
  refine ⟨πd, π, πs, πh, o, hw, hr.on hw.le hg.cb (fun a q1 q2 => (hI a (by omega) (by omega)).1) (fun a q1 q2 => (hI a (by omega) (by omega)).2), hH.on hw.hi (fun a q1 q2 => (hI a (by omega) (by omega)).1) (fun a q1 q2 => (hI a (by omega) (by omega)).2), ⟨by rw [(hI x (by omega) (by omega)).1]; exact h4, ?_⟩, by rw [(hI (x + 2) (by omega) (by omega)).1]; exact t1, by rw [(hI (x + 1) (by omega) (by omega)).1]; exact t2, by rw [(hI (x + 1) (by omega) (by omega)).1]; exact t3⟩
  rcases hsv with z | ⟨z, b3, c3, k3, z1, z2⟩
  · exact Or.inl z
  · exact Or.inr ⟨z, b3, c3, k3, z1, z2.on hw.sv z1.cb (fun a q1 q2 => (hI a (by omega) (by omega)).1) (fun a q1 q2 => (hI a (by omega) (by omega)).2)⟩
theorem MI.on (h0 : MI S N m P I J g h pn G H sv g3 h3 c n f) (hI : ∀ a, m ≤ a → a < m + 8 → I1 a = I a ∧ J1 a = J a) : MI S N m P I1 J1 g h pn G H sv g3 h3 c n f := by
  obtain ⟨h1, h2, h3, h4, ⟨h5, h6, h7⟩, h8, h9, h10⟩ := h0
  have em := (hI m (by omega) (by omega)).1
  refine ⟨h1, ?_, ?_, h4.on ?_ ?_ ?_, ⟨?_, ?_, ?_⟩, ?_, ?_, ?_⟩
  · rw [(hI (m + 1) (by omega) (by omega)).1]; exact h2
  · rw [(hI (m + 2) (by omega) (by omega)).2]; exact h3
  · rw [em]
  · exact (hI (m + 5) (by omega) (by omega)).1
  · exact (hI (m + 6) (by omega) (by omega)).2
  · rw [em]; exact h5
  · rw [(hI (m + 3) (by omega) (by omega)).1]; exact h6
  · rw [(hI (m + 4) (by omega) (by omega)).2]; exact h7
  · rw [(hI (m + 7) (by omega) (by omega)).1]; exact h8
  · rw [em]; exact h9
  · rw [em]; exact h10
theorem MI.q (h0 : MI S N m P I J g h pn G H sv g3 h3 c n f) (hq : Qm m I I1 J J1) : MI S N m P I1 J1 g h pn G H sv g3 h3 c n f := by
  obtain ⟨h1, h2, h3, h4, ⟨h5, h6, h7⟩, h8, h9, h10⟩ := h0
  obtain ⟨q1, q2, q3⟩ := hq
  refine ⟨h1, ?_, ?_, h4.on ?_ ?_ ?_, ⟨?_, ?_, ?_⟩, ?_, ?_, ?_⟩
  · rw [q1 _ (by omega)]; exact h2
  · rw [q3 _ (by omega) (by omega) (by omega) (by omega) (by omega)]; exact h3
  · exact q2 7 (by decide) (by decide)
  · exact q1 _ (by omega)
  · exact q3 _ (by omega) (by omega) (by omega) (by omega) (by omega)
  · rw [q2 4 (by decide) (by decide)]; exact h5
  · rw [q1 _ (by omega)]; exact h6
  · rw [q3 _ (by omega) (by omega) (by omega) (by omega) (by omega)]; exact h7
  · rw [q1 _ (by omega)]; exact h8
  · rw [q2 10 (by decide) (by decide)]; exact h9
  · rw [q2 13 (by decide) (by decide)]; exact h10
theorem MI.g1 (h0 : MI S N m P I J g h pn G H sv g3 h3 c n f) (a1 : x + 303 ≤ m) (hf : Fr (x + 271) (x + 303) I I1 J J1) : I1 (m + 1) = g := by rw [(hf (m + 1) (by omega)).1]; exact h0.2.1
theorem MI.h1 (h0 : MI S N m P I J g h pn G H sv g3 h3 c n f) (a1 : x + 303 ≤ m) (a2 : m + 15 ≤ w) (hf : Fr (x + 271) (x + 303) I I1 J J1) : (u2 J1 w 0 v) (m + 2) = h := by rw [u2_off _ _ _ (by omega), (hf (m + 2) (by omega)).2]; exact h0.2.2.1
theorem MI.h2 (h0 : MI S N m P I J g h pn G H sv g3 h3 c n f) (a1 : x + 303 ≤ m) (hf : Fr (x + 271) (x + 303) I I1 J J1) : J1 (m + 2) = h := by rw [(hf (m + 2) (by omega)).2]; exact h0.2.2.1
theorem Iv.q (hv : Iv S N x m w b xs P I J) (hf : Fr (x + 271) (x + 303) I I1 J J1) (J3 : JM) (hJ : J3 = J1 ∨ ∃ v, J3 = u2 J1 w 0 v) (hq : Qm m I1 I2 J3 J2) : Iv S N x m w b xs P I2 J2 := by
  obtain ⟨⟨a1, a2, a3⟩, ⟨hSo, hNo⟩, hb, g, h, nb, nc, nk, pn, G, H, sv, g3, h3, c, n, f, hg, hn, hC, hM⟩ := hv
  have eJ : ∀ a, a ≠ w → J3 a = J1 a := fun a ha => by
    rcases hJ with rfl | ⟨v, rfl⟩
    · rfl
    · exact u2_off _ _ _ ha
  refine ⟨⟨a1, a2, a3⟩, ⟨hSo, hNo⟩, ?_, g, h, nb, nc, nk, pn, G, H, sv, g3, h3, c, n, f, hg, hn, hC.q hg (fun a z1 z2 => ⟨?_, ?_⟩), (hM.on (I1 := I1) (J1 := J3) (fun a z1 z2 => ⟨?_, ?_⟩)).q hq⟩
  · rw [hq.1 b (by omega), (hf b (by omega)).1]; exact hb
  · rw [hq.1 a (by omega), (hf a (by omega)).1]
  · rw [hq.2.2 a (by omega) (by omega) (by omega) (by omega) (by omega), eJ a (by omega), (hf a (by omega)).2]
  · exact (hf a (by omega)).1
  · rw [eJ a (by omega)]; exact (hf a (by omega)).2
theorem Iv.b1 (hv : Iv S N x m w b xs P I J) (hf : Fr (x + 271) (x + 303) I I1 J J1) : I1 b = xs := by
  obtain ⟨⟨a1, a2, a3⟩, -, hb, -⟩ := hv
  rw [(hf b (by omega)).1]
  exact hb
theorem opq_x (hv : Iv E.2.2.1 E.2.2.2.1 x m w b xs P I J) (hk : k ≠ 0) (hW : MtW l E ML hL aw I J P (some (.int k)) I1 J1 P) (hf : Fr (x + 271) (x + 303) I I1 J J1) (hm : CWp E.2.2.1 E.2.2.2.1 11 M9 a9 I1 J1 P (Qx m k I1 J1 P)) : OpW l E M9 ML hL aw a9 x m w b xs I J P := by
  obtain ⟨r, I2, J2, P2, ⟨rfl, q1, q2⟩, hc⟩ := cw_ex hm
  exact ⟨k, I1, J1, _, r, I2, J2, hW, hv.b1 hf, hc, q1, fun z => absurd z hk, hv.q hf J1 (Or.inl rfl) q2⟩
theorem opq_ok (hv : Iv E.2.2.1 E.2.2.2.1 x m w b xs P I J) (hW : MtW l E ML hL aw I J P (some (.int 0)) I1 (u2 J1 w 0 v) P) (hf : Fr (x + 271) (x + 303) I I1 J J1) (hm : CWp E.2.2.1 E.2.2.2.1 11 M9 a9 I1 (u2 J1 w 0 v) P (Qo m v I1 (u2 J1 w 0 v) P)) : OpW l E M9 ML hL aw a9 x m w b xs I J P := by
  obtain ⟨r, I2, J2, P2, ⟨rfl, q1, q2, y, rfl, q3⟩, hc⟩ := cw_ex hm
  refine ⟨0, I1, _, _, _, I2, J2, hW, hv.b1 hf, hc, q1, fun _ z e => ?_, hv.q hf _ (Or.inr ⟨v, rfl⟩) q2⟩
  cases e
  obtain ⟨⟨a1, a2, a3⟩, -⟩ := hv
  rw [q2.2.2 w (by omega) (by omega) (by omega) (by omega) (by omega), u2s, q3]
theorem opj_x (hv : Iv E.2.2.1 E.2.2.2.1 x m w b xs P I J) (hk : k ≠ 0) (hW : MtW l E ML hL aw I J P (some (.int k)) I1 J1 P) (hf : Fr (x + 271) (x + 303) I I1 J J1) (hm : CWp E.2.2.1 E.2.2.2.1 11 M9 a9 I1 J1 P (fun r I2 J2 P2 => Qx m k I1 J1 P r I2 J2 P2 ∧ ∃ v, r = some (.long v))) : OpWJ l E M9 ML hL aw a9 x m w b xs I J P := by
  obtain ⟨r, I2, J2, P2, ⟨⟨rfl, q1, q2⟩, v9, rfl⟩, hc⟩ := cw_ex hm
  exact ⟨k, I1, J1, _, v9, I2, J2, hW, hv.b1 hf, hc, q1, fun z => absurd z hk, hv.q hf J1 (Or.inl rfl) q2⟩
theorem opj_ok (hv : Iv E.2.2.1 E.2.2.2.1 x m w b xs P I J) (hW : MtW l E ML hL aw I J P (some (.int 0)) I1 (u2 J1 w 0 v) P) (hf : Fr (x + 271) (x + 303) I I1 J J1) (hm : CWp E.2.2.1 E.2.2.2.1 11 M9 a9 I1 (u2 J1 w 0 v) P (fun r I2 J2 P2 => Qo m v I1 (u2 J1 w 0 v) P r I2 J2 P2 ∧ ∃ v, r = some (.long v))) : OpWJ l E M9 ML hL aw a9 x m w b xs I J P := by
  obtain ⟨r, I2, J2, P2, ⟨⟨rfl, q1, q2, y, hy, q3⟩, v9, rfl⟩, hc⟩ := cw_ex hm
  refine ⟨0, I1, _, _, v9, I2, J2, hW, hv.b1 hf, hc, q1, fun _ => ?_, hv.q hf _ (Or.inr ⟨v, rfl⟩) q2⟩
  cases hy
  obtain ⟨⟨a1, a2, a3⟩, -⟩ := hv
  rw [q2.2.2 w (by omega) (by omega) (by omega) (by omega) (by omega), u2s, ← q3]
  rfl
theorem opdj_q (hv : Iv E.2.2.1 E.2.2.2.1 x m w b xs P I J) {M8 : MR} (hW : CWp E.2.2.1 E.2.2.2.1 11 M8 [.ref x] I J P (Qe (some (.long v)) I1 J1 P)) (hf : Fr (x + 271) (x + 303) I I1 J J1) (hm : CWp E.2.2.1 E.2.2.2.1 11 M9 [.ref m] I1 J1 P (fun r9 I2 J2 P2 => r9 = some (.long v) ∧ P2 = P ∧ Qm m I1 I2 J1 J2)) : OpDJ E M8 M9 x m w b xs I J P := by
  obtain ⟨r2, I2, J2, P2, ⟨rfl, rfl, q2⟩, hc⟩ := cw_ex hm
  exact ⟨_, I1, J1, _, I2, J2, hW, hv.b1 hf, hc, hv.q hf J1 (Or.inl rfl) q2⟩
theorem opd_q (hv : Iv E.2.2.1 E.2.2.2.1 x m w b xs P I J) {r : Option Value} {M8 : MR} (hW : CWp E.2.2.1 E.2.2.2.1 11 M8 [.ref x] I J P (Qe r I1 J1 P)) (hf : Fr (x + 271) (x + 303) I I1 J J1) (hm : CWp E.2.2.1 E.2.2.2.1 11 M9 [.ref m] I1 J1 P (fun r9 I2 J2 P2 => r9 = r ∧ P2 = P ∧ Qm m I1 I2 J1 J2)) : OpD E M8 M9 x m w b xs I J P := by
  obtain ⟨r2, I2, J2, P2, ⟨rfl, rfl, q2⟩, hc⟩ := cw_ex hm
  exact ⟨_, I1, J1, _, I2, J2, hW, hv.b1 hf, hc, hv.q hf J1 (Or.inl rfl) q2⟩
theorem cw_fr (hc : CWp S N d M As I J P (fun r I' J' P' => r = some V ∧ P' = P ∧ Fr (x + 271) (x + 303) I I' J J')) : ∃ I1 J1, CWp S N d M As I J P (Qe (some V) I1 J1 P) ∧ Fr (x + 271) (x + 303) I I1 J J1 := by
  obtain ⟨r, I1, J1, P1, ⟨rfl, rfl, q⟩, h1⟩ := cw_ex hc
  exact ⟨I1, J1, h1, q⟩
end IVL
/-! indices and ranges -/
theorem idx (n : Nat) (hn : n < 2 ^ 31) (v : Int32) : (v < 0 ∨ nI n ≤ v) ∨ ∃ k, k < n ∧ v = nI k := by
  by_cases h1 : v < 0
  · exact Or.inl (Or.inl h1)
  · by_cases h2 : nI n ≤ v
    · exact Or.inl (Or.inr h2)
    · refine Or.inr ⟨v.toNatClampNeg, ?_, ?_⟩
      · have h3 := Int32.not_le.mp h2
        rw [Int32.lt_iff_toInt_lt] at h3 h1
        have e1 : (nI n).toInt = n := nI_toInt hn
        have e0 : (0 : Int32).toInt = 0 := rfl
        have : v.toNatClampNeg = v.toInt.toNat := rfl
        omega
      · have e0 : (0 : Int32).toInt = 0 := rfl
        rw [Int32.lt_iff_toInt_lt] at h1
        have h4 := v.toInt_lt
        refine Int32.toInt_inj.mp ?_
        have h5 : v.toNatClampNeg = v.toInt.toNat := rfl
        rw [nI_toInt (by omega)]
        omega
theorem bad_rng (n : Nat) (hn : n + 1 < 2 ^ 31) {v : Int32} (h : v < 0 ∨ nI (n + 1) ≤ v) : ¬ (0 ≤ v ∧ v ≤ nI n) := by
  rintro ⟨h1, h2⟩
  rcases h with h | h
  · exact Int32.not_lt.mpr h1 h
  · have h3 := Int32.le_trans h h2
    rw [Int32.le_iff_toInt_le, nI_toInt hn, nI_toInt (by omega)] at h3
    omega
theorem ok_rng {n k : Nat} (hn : n < 2 ^ 31) (hk : k ≤ n) : 0 ≤ nI k ∧ nI k ≤ nI n := ⟨nI_pos' (by omega), nI_le hk hn⟩

/-! what comes of a run, by its next step -/
def clAt (S N : Nat → Nat) : Nat → CL
  | 0 => fun _ _ _ _ _ _ _ _ _ => False
  | d + 1 => tx_Cl S N d
def natAt : Nat → Prop
  | 0 => False
  | _ + 1 => True
def Wp (S N : Nat → Nat) (d : Nat) (M : MR) (pc : Nat) (ll : List (Option Value)) (st : List Value) (I : IM) (J : JM) (P : PM) (Q : Option Value → IM → JM → PM → Prop) : Prop := ∃ n, tx_Run S N (clAt S N d) (natAt d) M Q n (pc, ll, st, I, J, P)
def CWp (S N : Nat → Nat) (d : Nat) (M : MR) (av : List Value) (I : IM) (J : JM) (P : PM) (Q : Option Value → IM → JM → PM → Prop) : Prop := ∃ r I' J' P', tx_Cl S N d M av I J P r I' J' P' ∧ Q r I' J' P'
section WP
variable {S N : Nat → Nat} {d : Nat} {M : MR} {pc len : Nat} {i : Instr} {ll : List (Option Value)} {st st' : List Value} {I I' : IM} {J J' : JM} {P P' : PM} {Q : Option Value → IM → JM → PM → Prop}
theorem tx_lin {cl : CL} {nat : Prop} : ∀ (n : Nat) (x : Stt), tx_Run S N cl nat M Q n x ↔ ∃ r I' J' P', tx_Run S N cl nat M (fun r0 I0 J0 P0 => r0 = r ∧ I0 = I' ∧ J0 = J' ∧ P0 = P') n x ∧ Q r I' J' P' := by
  intro n
  induction n with
  | zero => intro x; exact ⟨fun h => h.elim, fun ⟨_, _, _, _, h, _⟩ => h.elim⟩
  | succ n ih =>
    intro x
    constructor
    · rintro (⟨i, r, h1, h2, h3, h4⟩ | ⟨y, h1, h2⟩)
      · exact ⟨r, _, _, _, Or.inl ⟨i, r, h1, h2, h3, rfl, rfl, rfl, rfl⟩, h4⟩
      · obtain ⟨r, I', J', P', h3, h4⟩ := (ih y).mp h2
        exact ⟨r, I', J', P', Or.inr ⟨y, h1, h3⟩, h4⟩
    · rintro ⟨r, I', J', P', (⟨i, r0, h1, h2, h3, rfl, rfl, rfl, rfl⟩ | ⟨y, h1, h2⟩), h4⟩
      · exact Or.inl ⟨i, r0, h1, h2, h3, h4⟩
      · exact Or.inr ⟨y, h1, (ih y).mpr ⟨r, I', J', P', h2, h4⟩⟩
theorem cwp_iff {av : List Value} : CWp S N d M av I J P Q ↔ (entl av).length ≤ M.2.2.1 ∧ Wp S N d M 0 (entL av M.2.2.1) [] I J P Q := by
  cases d with
  | zero =>
    constructor
    · rintro ⟨r, I', J', P', ⟨h1, n, h2⟩, h3⟩
      exact ⟨h1, n, (tx_lin n _).mpr ⟨r, I', J', P', h2, h3⟩⟩
    · rintro ⟨h1, n, h2⟩
      obtain ⟨r, I', J', P', h3, h4⟩ := (tx_lin n _).mp h2
      exact ⟨r, I', J', P', ⟨h1, n, h3⟩, h4⟩
  | succ d =>
    constructor
    · rintro ⟨r, I', J', P', ⟨h1, n, h2⟩, h3⟩
      exact ⟨h1, n, (tx_lin n _).mpr ⟨r, I', J', P', h2, h3⟩⟩
    · rintro ⟨h1, n, h2⟩
      obtain ⟨r, I', J', P', h3, h4⟩ := (tx_lin n _).mp h2
      exact ⟨r, I', J', P', ⟨h1, n, h3⟩, h4⟩
theorem CWp.mono {av : List Value} {Q' : Option Value → IM → JM → PM → Prop} (h : CWp S N d M av I J P Q) (k : ∀ r I' J' P', Q r I' J' P' → Q' r I' J' P') : CWp S N d M av I J P Q' := by
  obtain ⟨r, I', J', P', h1, h2⟩ := h
  exact ⟨r, I', J', P', h1, k _ _ _ _ h2⟩
theorem wp_iff (hd : decode M.2.1 pc = .ok (i, len)) (hk : tx_k i ≠ 0) : Wp S N d M pc ll st I J P Q ↔ ∃ y : Stt, tx_N S N (clAt S N d) (natAt d) M.2.2.2.2.1 M.2.1 (pc, ll, st, I, J, P) y ∧ Wp S N d M y.1 y.2.1 y.2.2.1 y.2.2.2.1 y.2.2.2.2.1 y.2.2.2.2.2 Q := by
  constructor
  · rintro ⟨n, h⟩
    cases n with
    | zero => exact h.elim
    | succ n =>
      rcases h with ⟨i', r, h1, h2, -⟩ | ⟨y, h1, h2⟩
      · have := hd.symm.trans h1
        cases this
        exact absurd h2 hk
      · exact ⟨y, h1, n, h2⟩
  · rintro ⟨y, h1, n, h2⟩
    exact ⟨n + 1, Or.inr ⟨y, h1, h2⟩⟩
theorem wp_ret {r : Option Value} (hd : decode M.2.1 pc = .ok (i, 1)) (hk : tx_k i = 0) (h : ∀ r', tx_rt M.2.2.2.1 i st r' ↔ r' = r) : Wp S N d M pc ll st I J P Q ↔ Q r I J P := by
  constructor
  · rintro ⟨n, hn⟩
    cases n with
    | zero => exact hn.elim
    | succ n =>
      rcases hn with ⟨i', r', h1, h2, h3, h4⟩ | ⟨y, ⟨i', len', h1, h2⟩, -⟩
      · have := hd.symm.trans h1
        cases this
        rw [(h r').mp h3] at h4
        exact h4
      · have := hd.symm.trans h1
        cases this
        rcases h2 with h2 | h2 | h2 | h2 | h2 | h2 | h2 | h2 | h2 | h2 | h2 | h2 | h2 <;> exact absurd (hk.symm.trans h2.1) (by decide)
  · intro hq
    exact ⟨1, Or.inl ⟨i, r, hd, hk, (h r).mpr rfl, hq⟩⟩
/-- from a step's inversion to a rule: the only y -/
theorem wp_one {y : Stt} (hd : decode M.2.1 pc = .ok (i, len)) (hk : tx_k i ≠ 0) (h : ∀ z, tx_N S N (clAt S N d) (natAt d) M.2.2.2.2.1 M.2.1 (pc, ll, st, I, J, P) z ↔ z = y) : Wp S N d M pc ll st I J P Q ↔ Wp S N d M y.1 y.2.1 y.2.2.1 y.2.2.2.1 y.2.2.2.2.1 y.2.2.2.2.2 Q := by
  rw [wp_iff hd hk]
  constructor
  · rintro ⟨z, h1, h2⟩
    rw [(h z).mp h1] at h2
    exact h2
  · intro hw
    exact ⟨y, (h y).mpr rfl, hw⟩
theorem wp_alu (hk1 : tx_k i = 1) (hl : len = tx_len1 i) (h : tx_alu (cres M.2.2.2.2.1) i st = some st') (hd : decode M.2.1 pc = .ok (i, len)) : Wp S N d M pc ll st I J P Q ↔ Wp S N d M (pc + len) ll st' I J P Q := by
  have hk : tx_k (i) = 1 := hk1
  refine wp_one (y := ((pc + len), ll, st', I, J, P)) hd (by rw [hk]; decide) (fun z => ⟨fun hz => ?_, fun hz => ?_⟩)
  · obtain ⟨i', len', h1, hz⟩ := hz
    have h2 := hd.symm.trans h1
    cases h2
    rcases hz with hz | hz | hz | hz | hz | hz | hz | hz | hz | hz | hz | hz | hz
    · obtain ⟨-, -, st2, h2, rfl⟩ := hz
      dsimp only at h2
      rw [h] at h2
      cases h2
      rfl
    · exact absurd (hk.symm.trans hz.1) (by decide)
    · exact absurd (hk.symm.trans hz.1) (by decide)
    · exact absurd (hk.symm.trans hz.1) (by decide)
    · exact absurd (hk.symm.trans hz.1) (by decide)
    · exact absurd (hk.symm.trans hz.1) (by decide)
    · exact absurd (hk.symm.trans hz.1) (by decide)
    · exact absurd (hk.symm.trans hz.1) (by decide)
    · exact absurd (hk.symm.trans hz.1) (by decide)
    · exact absurd (hk.symm.trans hz.1) (by decide)
    · exact absurd (hk.symm.trans hz.1) (by decide)
    · exact absurd (hk.symm.trans hz.1) (by decide)
    · exact absurd (hk.symm.trans hz.1) (by decide)
  · subst hz
    exact ⟨_, _, hd, Or.inl ⟨hk, hl, _, h, rfl⟩⟩
theorem wp_lod {k t : Nat} {v : Value} (hk1 : tx_k i = 2) (h : tx_lod i = some (k, t, len)) (hv : ll[k]? = some (some v)) (ht : tx_tc v = t) (hd : decode M.2.1 pc = .ok (i, len)) : Wp S N d M pc ll st I J P Q ↔ Wp S N d M (pc + len) ll (v :: st) I J P Q := by
  have hk : tx_k (i) = 2 := hk1
  refine wp_one (y := ((pc + len), ll, (v :: st), I, J, P)) hd (by rw [hk]; decide) (fun z => ⟨fun hz => ?_, fun hz => ?_⟩)
  · obtain ⟨i', len', h1, hz⟩ := hz
    have h2 := hd.symm.trans h1
    cases h2
    rcases hz with hz | hz | hz | hz | hz | hz | hz | hz | hz | hz | hz | hz | hz
    · exact absurd (hk.symm.trans hz.1) (by decide)
    · obtain ⟨-, k2, t2, v2, h2, h3, h4, rfl⟩ := hz
      dsimp only at h3
      rw [h] at h2
      cases h2
      rw [hv] at h3
      cases h3
      rfl
    · exact absurd (hk.symm.trans hz.1) (by decide)
    · exact absurd (hk.symm.trans hz.1) (by decide)
    · exact absurd (hk.symm.trans hz.1) (by decide)
    · exact absurd (hk.symm.trans hz.1) (by decide)
    · exact absurd (hk.symm.trans hz.1) (by decide)
    · exact absurd (hk.symm.trans hz.1) (by decide)
    · exact absurd (hk.symm.trans hz.1) (by decide)
    · exact absurd (hk.symm.trans hz.1) (by decide)
    · exact absurd (hk.symm.trans hz.1) (by decide)
    · exact absurd (hk.symm.trans hz.1) (by decide)
    · exact absurd (hk.symm.trans hz.1) (by decide)
  · subst hz
    exact ⟨_, _, hd, Or.inr (Or.inl ⟨hk, _, _, _, h, hv, ht, rfl⟩)⟩
theorem wp_sto {k t : Nat} {v : Value} {ll2 : List (Option Value)} (hk1 : tx_k i = 3) (h : tx_sto i = some (k, t, len)) (hs : st = v :: st') (ht : tx_tc v = t) (hk2 : (if t = 1 then k + 1 else k) < ll.length) (hl2 : (if t = 1 then sl2 ll k v else sl1 ll k v) = ll2) (hd : decode M.2.1 pc = .ok (i, len)) : Wp S N d M pc ll st I J P Q ↔ Wp S N d M (pc + len) ll2 st' I J P Q := by
  have hk : tx_k (i) = 3 := hk1
  refine wp_one (y := ((pc + len), ll2, st', I, J, P)) hd (by rw [hk]; decide) (fun z => ⟨fun hz => ?_, fun hz => ?_⟩)
  · obtain ⟨i', len', h1, hz⟩ := hz
    have h2 := hd.symm.trans h1
    cases h2
    rcases hz with hz | hz | hz | hz | hz | hz | hz | hz | hz | hz | hz | hz | hz
    · exact absurd (hk.symm.trans hz.1) (by decide)
    · exact absurd (hk.symm.trans hz.1) (by decide)
    · obtain ⟨-, k2, t2, v2, s2, h2, h3, h4, h5, rfl⟩ := hz
      dsimp only at h3
      rw [h] at h2
      cases h2
      rw [hs] at h3
      cases h3
      rw [← hl2]
    · exact absurd (hk.symm.trans hz.1) (by decide)
    · exact absurd (hk.symm.trans hz.1) (by decide)
    · exact absurd (hk.symm.trans hz.1) (by decide)
    · exact absurd (hk.symm.trans hz.1) (by decide)
    · exact absurd (hk.symm.trans hz.1) (by decide)
    · exact absurd (hk.symm.trans hz.1) (by decide)
    · exact absurd (hk.symm.trans hz.1) (by decide)
    · exact absurd (hk.symm.trans hz.1) (by decide)
    · exact absurd (hk.symm.trans hz.1) (by decide)
    · exact absurd (hk.symm.trans hz.1) (by decide)
  · subst hz
    exact ⟨_, _, hd, Or.inr (Or.inr (Or.inl ⟨hk, _, _, _, _, h, hs, ht, hk2, by rw [← hl2]⟩))⟩
theorem wp_inc {k : Nat} {n : Int} {v : Int32} {ll2 : List (Option Value)} (hv : ll[k]? = some (some (.int v))) (hl2 : sl1 ll k (.int (v + Int32.ofInt n)) = ll2) (hd : decode M.2.1 pc = .ok (.iinc k n, 3)) : Wp S N d M pc ll st I J P Q ↔ Wp S N d M (pc + 3) ll2 st I J P Q := by
  have hk : tx_k (.iinc k n) = 4 := rfl
  refine wp_one (y := ((pc + 3), ll2, st, I, J, P)) hd (by rw [hk]; decide) (fun z => ⟨fun hz => ?_, fun hz => ?_⟩)
  · obtain ⟨i', len', h1, hz⟩ := hz
    have h2 := hd.symm.trans h1
    cases h2
    rcases hz with hz | hz | hz | hz | hz | hz | hz | hz | hz | hz | hz | hz | hz
    · exact absurd (hk.symm.trans hz.1) (by decide)
    · exact absurd (hk.symm.trans hz.1) (by decide)
    · exact absurd (hk.symm.trans hz.1) (by decide)
    · obtain ⟨-, -, k2, n2, v2, h2, h3, rfl⟩ := hz
      dsimp only at h3
      cases h2
      rw [hv] at h3
      cases h3
      rw [← hl2]
    · exact absurd (hk.symm.trans hz.1) (by decide)
    · exact absurd (hk.symm.trans hz.1) (by decide)
    · exact absurd (hk.symm.trans hz.1) (by decide)
    · exact absurd (hk.symm.trans hz.1) (by decide)
    · exact absurd (hk.symm.trans hz.1) (by decide)
    · exact absurd (hk.symm.trans hz.1) (by decide)
    · exact absurd (hk.symm.trans hz.1) (by decide)
    · exact absurd (hk.symm.trans hz.1) (by decide)
    · exact absurd (hk.symm.trans hz.1) (by decide)
  · subst hz
    exact ⟨_, _, hd, Or.inr (Or.inr (Or.inr (Or.inl ⟨rfl, rfl, _, _, _, rfl, hv, by rw [← hl2]⟩)))⟩
theorem wp_go {off : Int} {tgt : Nat} (hk1 : tx_k i = 6) (h3 : ∀ off, i = .goto off → len = 3) (h : tx_go i st = some (off, st')) (ht : ((pc : Nat) : Int) + off = ((tgt : Nat) : Int)) (hd : decode M.2.1 pc = .ok (i, len)) : Wp S N d M pc ll st I J P Q ↔ Wp S N d M tgt ll st' I J P Q := by
  have hk : tx_k (i) = 6 := hk1
  refine wp_one (y := (tgt, ll, st', I, J, P)) hd (by rw [hk]; decide) (fun z => ⟨fun hz => ?_, fun hz => ?_⟩)
  · obtain ⟨i', len', h1, hz⟩ := hz
    have h2 := hd.symm.trans h1
    cases h2
    rcases hz with hz | hz | hz | hz | hz | hz | hz | hz | hz | hz | hz | hz | hz
    · exact absurd (hk.symm.trans hz.1) (by decide)
    · exact absurd (hk.symm.trans hz.1) (by decide)
    · exact absurd (hk.symm.trans hz.1) (by decide)
    · exact absurd (hk.symm.trans hz.1) (by decide)
    · exact absurd (hk.symm.trans hz.1) (by decide)
    · obtain ⟨-, -, off2, st2, tgt2, h2, h4, rfl⟩ := hz
      dsimp only at h2 h4
      rw [h] at h2
      cases h2
      have : tgt2 = tgt := by omega
      subst this
      rfl
    · exact absurd (hk.symm.trans hz.1) (by decide)
    · exact absurd (hk.symm.trans hz.1) (by decide)
    · exact absurd (hk.symm.trans hz.1) (by decide)
    · exact absurd (hk.symm.trans hz.1) (by decide)
    · exact absurd (hk.symm.trans hz.1) (by decide)
    · exact absurd (hk.symm.trans hz.1) (by decide)
    · exact absurd (hk.symm.trans hz.1) (by decide)
  · subst hz
    exact ⟨_, _, hd, Or.inr (Or.inr (Or.inr (Or.inr (Or.inr (Or.inl ⟨hk, h3, _, _, _, h, ht, rfl⟩)))))⟩
theorem wp_br {b : Prop} {off : Int} {tgt : Nat} (hk1 : tx_k i = 5) (h : tx_br i st = some (b, off, st')) (ht : ((pc : Nat) : Int) + off = ((tgt : Nat) : Int)) (hd : decode M.2.1 pc = .ok (i, 3)) : Wp S N d M pc ll st I J P Q ↔ (b → Wp S N d M tgt ll st' I J P Q) ∧ (¬ b → Wp S N d M (pc + 3) ll st' I J P Q) := by
  rw [wp_iff hd (by rw [hk1]; decide)]
  constructor
  · rintro ⟨z, ⟨i', len', h1, hz⟩, hw⟩
    have h2 := hd.symm.trans h1
    cases h2
    rcases hz with hz | hz | hz | hz | hz | hz | hz | hz | hz | hz | hz | hz | hz
    · exact absurd (hk1.symm.trans hz.1) (by decide)
    · exact absurd (hk1.symm.trans hz.1) (by decide)
    · exact absurd (hk1.symm.trans hz.1) (by decide)
    · exact absurd (hk1.symm.trans hz.1) (by decide)
    · obtain ⟨-, -, b2, off2, st2, tgt2, h2, h4, h5⟩ := hz
      dsimp only at h2 h4 h5
      rw [h] at h2
      cases h2
      have : tgt2 = tgt := by omega
      subst this
      rcases h5 with ⟨h5, rfl⟩ | ⟨h5, rfl⟩
      · exact ⟨fun _ => hw, fun q => absurd h5 q⟩
      · exact ⟨fun q => absurd q h5, fun _ => hw⟩
    · exact absurd (hk1.symm.trans hz.1) (by decide)
    · exact absurd (hk1.symm.trans hz.1) (by decide)
    · exact absurd (hk1.symm.trans hz.1) (by decide)
    · exact absurd (hk1.symm.trans hz.1) (by decide)
    · exact absurd (hk1.symm.trans hz.1) (by decide)
    · exact absurd (hk1.symm.trans hz.1) (by decide)
    · exact absurd (hk1.symm.trans hz.1) (by decide)
    · exact absurd (hk1.symm.trans hz.1) (by decide)
  · rintro ⟨h1, h2⟩
    by_cases hb : b
    · exact ⟨_, ⟨_, _, hd, Or.inr (Or.inr (Or.inr (Or.inr (Or.inl ⟨hk1, rfl, _, _, _, _, h, ht, Or.inl ⟨hb, rfl⟩⟩))))⟩, h1 hb⟩
    · exact ⟨_, ⟨_, _, hd, Or.inr (Or.inr (Or.inr (Or.inr (Or.inl ⟨hk1, rfl, _, _, _, _, h, ht, Or.inr ⟨hb, rfl⟩⟩))))⟩, h2 hb⟩
theorem wp_getf {n k j t a : Nat} {v : Value} (hf : fres M.2.2.2.2.1 n = some (k, j)) (hs : st = .ref a :: st') (ht : (tx_fk k)[j]? = some t) (hv : tx_v (I a) (J a) (P a) t j = v) (hd : decode M.2.1 pc = .ok (.getfield n, 3)) : Wp S N d M pc ll st I J P Q ↔ (S a = k) ∧ Wp S N d M (pc + 3) ll (v :: st') I J P Q := by
  have hk : tx_k (.getfield n) = 7 := rfl
  rw [wp_iff hd (by rw [hk]; decide)]
  constructor
  · rintro ⟨z, ⟨i', len', h1, hz⟩, hw⟩
    have h2 := hd.symm.trans h1
    cases h2
    rcases hz with hz | hz | hz | hz | hz | hz | hz | hz | hz | hz | hz | hz | hz
    · exact absurd (hk.symm.trans hz.1) (by decide)
    · exact absurd (hk.symm.trans hz.1) (by decide)
    · exact absurd (hk.symm.trans hz.1) (by decide)
    · exact absurd (hk.symm.trans hz.1) (by decide)
    · exact absurd (hk.symm.trans hz.1) (by decide)
    · exact absurd (hk.symm.trans hz.1) (by decide)
    · obtain ⟨-, -, n2, k2, j2, t2, a2, s2, h2, h3, h4, h5, h6, rfl⟩ := hz
      dsimp only at h4 hw
      cases h2
      rw [hf] at h3
      cases h3
      rw [hs] at h4
      cases h4
      rw [ht] at h6
      cases h6
      rw [hv] at hw
      exact ⟨h5, hw⟩
    · exact absurd (hk.symm.trans hz.1) (by decide)
    · exact absurd (hk.symm.trans hz.1) (by decide)
    · exact absurd (hk.symm.trans hz.1) (by decide)
    · exact absurd (hk.symm.trans hz.1) (by decide)
    · exact absurd (hk.symm.trans hz.1) (by decide)
    · exact absurd (hk.symm.trans hz.1) (by decide)
  · rintro ⟨hc, hw⟩
    subst hv
    exact ⟨_, ⟨_, _, hd, Or.inr (Or.inr (Or.inr (Or.inr (Or.inr (Or.inr (Or.inl ⟨rfl, rfl, _, _, _, _, _, _, rfl, hf, hs, hc, ht, rfl⟩))))))⟩, hw⟩
theorem wp_putf {n k j a : Nat} {v : Value} {b : Prop} (hf : fres M.2.2.2.2.1 n = some (k, j)) (hs : st = v :: .ref a :: st') (hfin : (tx_T k j).2.2.2 = false) (hp : tx_pf I J P a k j v = some (b, I', J', P')) (hd : decode M.2.1 pc = .ok (.putfield n, 3)) : Wp S N d M pc ll st I J P Q ↔ (S a = k ∧ b) ∧ Wp S N d M (pc + 3) ll st' I' J' P' Q := by
  have hk : tx_k (.putfield n) = 8 := rfl
  rw [wp_iff hd (by rw [hk]; decide)]
  constructor
  · rintro ⟨z, ⟨i', len', h1, hz⟩, hw⟩
    have h2 := hd.symm.trans h1
    cases h2
    rcases hz with hz | hz | hz | hz | hz | hz | hz | hz | hz | hz | hz | hz | hz
    · exact absurd (hk.symm.trans hz.1) (by decide)
    · exact absurd (hk.symm.trans hz.1) (by decide)
    · exact absurd (hk.symm.trans hz.1) (by decide)
    · exact absurd (hk.symm.trans hz.1) (by decide)
    · exact absurd (hk.symm.trans hz.1) (by decide)
    · exact absurd (hk.symm.trans hz.1) (by decide)
    · exact absurd (hk.symm.trans hz.1) (by decide)
    · obtain ⟨-, -, n2, k2, j2, v2, a2, s2, b2, I2, J2, P2, h2, h3, h4, h5, h6, h7, h8, rfl⟩ := hz
      dsimp only at h4 h7
      cases h2
      rw [hf] at h3
      cases h3
      rw [hs] at h4
      cases h4
      rw [hp] at h7
      cases h7
      exact ⟨⟨h5, h8⟩, hw⟩
    · exact absurd (hk.symm.trans hz.1) (by decide)
    · exact absurd (hk.symm.trans hz.1) (by decide)
    · exact absurd (hk.symm.trans hz.1) (by decide)
    · exact absurd (hk.symm.trans hz.1) (by decide)
    · exact absurd (hk.symm.trans hz.1) (by decide)
  · rintro ⟨hc, hw⟩
    exact ⟨_, ⟨_, _, hd, Or.inr (Or.inr (Or.inr (Or.inr (Or.inr (Or.inr (Or.inr (Or.inl ⟨rfl, rfl, _, _, _, _, _, _, _, _, _, _, rfl, hf, hs, hc.1, hfin, hp, hc.2, rfl⟩)))))))⟩, hw⟩
theorem wp_ald {b : Prop} (hk1 : tx_k i = 9) (h : tx_ald S N I J P i st = some (b, st')) (hd : decode M.2.1 pc = .ok (i, 1)) : Wp S N d M pc ll st I J P Q ↔ (b) ∧ Wp S N d M (pc + 1) ll st' I J P Q := by
  have hk : tx_k (i) = 9 := hk1
  rw [wp_iff hd (by rw [hk]; decide)]
  constructor
  · rintro ⟨z, ⟨i', len', h1, hz⟩, hw⟩
    have h2 := hd.symm.trans h1
    cases h2
    rcases hz with hz | hz | hz | hz | hz | hz | hz | hz | hz | hz | hz | hz | hz
    · exact absurd (hk.symm.trans hz.1) (by decide)
    · exact absurd (hk.symm.trans hz.1) (by decide)
    · exact absurd (hk.symm.trans hz.1) (by decide)
    · exact absurd (hk.symm.trans hz.1) (by decide)
    · exact absurd (hk.symm.trans hz.1) (by decide)
    · exact absurd (hk.symm.trans hz.1) (by decide)
    · exact absurd (hk.symm.trans hz.1) (by decide)
    · exact absurd (hk.symm.trans hz.1) (by decide)
    · obtain ⟨-, -, b2, s2, h2, h3, rfl⟩ := hz
      dsimp only at h2
      rw [h] at h2
      cases h2
      exact ⟨h3, hw⟩
    · exact absurd (hk.symm.trans hz.1) (by decide)
    · exact absurd (hk.symm.trans hz.1) (by decide)
    · exact absurd (hk.symm.trans hz.1) (by decide)
    · exact absurd (hk.symm.trans hz.1) (by decide)
  · rintro ⟨hc, hw⟩
    exact ⟨_, ⟨_, _, hd, Or.inr (Or.inr (Or.inr (Or.inr (Or.inr (Or.inr (Or.inr (Or.inr (Or.inl ⟨hk, rfl, _, _, h, hc, rfl⟩))))))))⟩, hw⟩
theorem wp_ast {b : Prop} (hk1 : tx_k i = 10) (h : tx_ast S N I J P i st = some (b, st', I', J', P')) (hd : decode M.2.1 pc = .ok (i, 1)) : Wp S N d M pc ll st I J P Q ↔ (b) ∧ Wp S N d M (pc + 1) ll st' I' J' P' Q := by
  have hk : tx_k (i) = 10 := hk1
  rw [wp_iff hd (by rw [hk]; decide)]
  constructor
  · rintro ⟨z, ⟨i', len', h1, hz⟩, hw⟩
    have h2 := hd.symm.trans h1
    cases h2
    rcases hz with hz | hz | hz | hz | hz | hz | hz | hz | hz | hz | hz | hz | hz
    · exact absurd (hk.symm.trans hz.1) (by decide)
    · exact absurd (hk.symm.trans hz.1) (by decide)
    · exact absurd (hk.symm.trans hz.1) (by decide)
    · exact absurd (hk.symm.trans hz.1) (by decide)
    · exact absurd (hk.symm.trans hz.1) (by decide)
    · exact absurd (hk.symm.trans hz.1) (by decide)
    · exact absurd (hk.symm.trans hz.1) (by decide)
    · exact absurd (hk.symm.trans hz.1) (by decide)
    · exact absurd (hk.symm.trans hz.1) (by decide)
    · obtain ⟨-, -, b2, s2, I2, J2, P2, h2, h3, rfl⟩ := hz
      dsimp only at h2
      rw [h] at h2
      cases h2
      exact ⟨h3, hw⟩
    · exact absurd (hk.symm.trans hz.1) (by decide)
    · exact absurd (hk.symm.trans hz.1) (by decide)
    · exact absurd (hk.symm.trans hz.1) (by decide)
  · rintro ⟨hc, hw⟩
    exact ⟨_, ⟨_, _, hd, Or.inr (Or.inr (Or.inr (Or.inr (Or.inr (Or.inr (Or.inr (Or.inr (Or.inr (Or.inl ⟨hk, rfl, _, _, _, _, _, h, hc, rfl⟩)))))))))⟩, hw⟩
end WP
section WPC
variable {S N : Nat → Nat} {d : Nat} {M : MR} {pc len : Nat} {i : Instr} {ll : List (Option Value)} {st st' : List Value} {I I' : IM} {J J' : JM} {P P' : PM} {Q : Option Value → IM → JM → PM → Prop}
theorem wp_callV {n b : Nat} {M' : MR} {As : List Value} (hm : mres M.2.2.2.2.1 n = some M') (hst : M'.2.2.2.2.2.2 = false) (hs : st = As.reverse ++ .ref b :: st') (hn : As.length = M'.2.2.2.2.2.1) (h10 : M'.2.2.2.2.1 < 10) (hsum : (st'.map fun v => v.category).sum ≤ 8) (hd : decode M.2.1 pc = .ok (.invokevirtual n, 3)) : Wp S N (d + 1) M pc ll st I J P Q ↔ S b = M'.2.2.2.2.1 ∧ CWp S N d M' (.ref b :: As) I J P (fun r I1 J1 P1 => Wp S N (d + 1) M (pc + 3) ll (r.toList ++ st') I1 J1 P1 Q) := by
  have hk : tx_k (.invokevirtual n) = 11 := rfl
  rw [wp_iff hd (by rw [hk]; decide)]
  constructor
  · rintro ⟨z, ⟨i', len', h1, hz⟩, hw⟩
    have h2 := hd.symm.trans h1
    cases h2
    rcases hz with hz | hz | hz | hz | hz | hz | hz | hz | hz | hz | hz | hz | hz
    · exact absurd (hk.symm.trans hz.1) (by decide)
    · exact absurd (hk.symm.trans hz.1) (by decide)
    · exact absurd (hk.symm.trans hz.1) (by decide)
    · exact absurd (hk.symm.trans hz.1) (by decide)
    · exact absurd (hk.symm.trans hz.1) (by decide)
    · exact absurd (hk.symm.trans hz.1) (by decide)
    · exact absurd (hk.symm.trans hz.1) (by decide)
    · exact absurd (hk.symm.trans hz.1) (by decide)
    · exact absurd (hk.symm.trans hz.1) (by decide)
    · exact absurd (hk.symm.trans hz.1) (by decide)
    · obtain ⟨-, -, -, n2, M2, b2, A2, s2, r, I2, J2, P2, h2, h3, h4, h5, h6, h7, h8, h9, h11, rfl⟩ := hz
      dsimp only at h5 h11 hw
      cases h2
      rw [hm] at h3
      cases h3
      have e := hs.symm.trans h5
      have e1 : As.reverse = A2.reverse ∧ (.ref b :: st') = (.ref b2 :: s2) := List.append_inj e (by rw [List.length_reverse, List.length_reverse, hn, h6])
      have e2 : As = A2 := by simpa using e1.1
      subst e2
      have e3 := e1.2
      cases e3
      exact ⟨h7, r, I2, J2, P2, h11, hw⟩
    · exact absurd (hk.symm.trans hz.1) (by decide)
    · exact absurd (hk.symm.trans hz.1) (by decide)
  · rintro ⟨h1, r, I2, J2, P2, h2, h3⟩
    exact ⟨_, ⟨_, _, hd, Or.inr (Or.inr (Or.inr (Or.inr (Or.inr (Or.inr (Or.inr (Or.inr (Or.inr (Or.inr (Or.inl ⟨rfl, rfl, trivial, _, _, _, _, _, _, _, _, _, rfl, hm, hst, hs, hn, h1, (by rw [h1]; exact h10), hsum, h2, rfl⟩))))))))))⟩, h3⟩
theorem wp_callS {n : Nat} {M' : MR} {As : List Value} (hm : mres M.2.2.2.2.1 n = some M') (hst : M'.2.2.2.2.2.2 = true) (hs : st = As.reverse ++ st') (hn : As.length = M'.2.2.2.2.2.1) (hsum : (st'.map fun v => v.category).sum ≤ 8) (hd : decode M.2.1 pc = .ok (.invokestatic n, 3)) : Wp S N (d + 1) M pc ll st I J P Q ↔ CWp S N d M' As I J P (fun r I1 J1 P1 => Wp S N (d + 1) M (pc + 3) ll (r.toList ++ st') I1 J1 P1 Q) := by
  have hk : tx_k (.invokestatic n) = 12 := rfl
  rw [wp_iff hd (by rw [hk]; decide)]
  constructor
  · rintro ⟨z, ⟨i', len', h1, hz⟩, hw⟩
    have h2 := hd.symm.trans h1
    cases h2
    rcases hz with hz | hz | hz | hz | hz | hz | hz | hz | hz | hz | hz | hz | hz
    · exact absurd (hk.symm.trans hz.1) (by decide)
    · exact absurd (hk.symm.trans hz.1) (by decide)
    · exact absurd (hk.symm.trans hz.1) (by decide)
    · exact absurd (hk.symm.trans hz.1) (by decide)
    · exact absurd (hk.symm.trans hz.1) (by decide)
    · exact absurd (hk.symm.trans hz.1) (by decide)
    · exact absurd (hk.symm.trans hz.1) (by decide)
    · exact absurd (hk.symm.trans hz.1) (by decide)
    · exact absurd (hk.symm.trans hz.1) (by decide)
    · exact absurd (hk.symm.trans hz.1) (by decide)
    · exact absurd (hk.symm.trans hz.1) (by decide)
    · obtain ⟨-, -, -, n2, M2, A2, s2, r, I2, J2, P2, h2, h3, h4, h5, h6, h7, h8, rfl⟩ := hz
      dsimp only at h5 h8 hw
      cases h2
      rw [hm] at h3
      cases h3
      have e := hs.symm.trans h5
      have e1 : As.reverse = A2.reverse ∧ st' = s2 := List.append_inj e (by rw [List.length_reverse, List.length_reverse, hn, h6])
      have e2 : As = A2 := by simpa using e1.1
      subst e2
      have e3 := e1.2
      subst e3
      exact ⟨r, I2, J2, P2, h8, hw⟩
    · obtain ⟨-, -, -, n2, w, b, s2, I2, J2, h2, h3, -⟩ := hz
      cases h2
      rw [hm] at h3
      cases h3
  · rintro ⟨r, I2, J2, P2, h2, h3⟩
    exact ⟨_, ⟨_, _, hd, Or.inr (Or.inr (Or.inr (Or.inr (Or.inr (Or.inr (Or.inr (Or.inr (Or.inr (Or.inr (Or.inr (Or.inl ⟨rfl, rfl, trivial, _, _, _, _, _, _, _, _, rfl, hm, hst, hs, hn, hsum, h2, rfl⟩)))))))))))⟩, h3⟩
theorem wp_nat {n w : Nat} {b : Prop} (hm : mres M.2.2.2.2.1 n = none) (hw1 : nres M.2.2.2.2.1 n = some w) (h : tx_nat S N I J w st = some (b, st', I', J')) (hsum : (st'.map fun v => v.category).sum ≤ 8) (hd : decode M.2.1 pc = .ok (.invokestatic n, 3)) : Wp S N (d + 1) M pc ll st I J P Q ↔ b ∧ Wp S N (d + 1) M (pc + 3) ll st' I' J' P Q := by
  have hk : tx_k (.invokestatic n) = 12 := rfl
  rw [wp_iff hd (by rw [hk]; decide)]
  constructor
  · rintro ⟨z, ⟨i', len', h1, hz⟩, hw⟩
    have h2 := hd.symm.trans h1
    cases h2
    rcases hz with hz | hz | hz | hz | hz | hz | hz | hz | hz | hz | hz | hz | hz
    · exact absurd (hk.symm.trans hz.1) (by decide)
    · exact absurd (hk.symm.trans hz.1) (by decide)
    · exact absurd (hk.symm.trans hz.1) (by decide)
    · exact absurd (hk.symm.trans hz.1) (by decide)
    · exact absurd (hk.symm.trans hz.1) (by decide)
    · exact absurd (hk.symm.trans hz.1) (by decide)
    · exact absurd (hk.symm.trans hz.1) (by decide)
    · exact absurd (hk.symm.trans hz.1) (by decide)
    · exact absurd (hk.symm.trans hz.1) (by decide)
    · exact absurd (hk.symm.trans hz.1) (by decide)
    · exact absurd (hk.symm.trans hz.1) (by decide)
    · obtain ⟨-, -, -, n2, M2, A2, s2, r, I2, J2, P2, h2, h3, -⟩ := hz
      cases h2
      rw [hm] at h3
      cases h3
    · obtain ⟨-, -, -, n2, w2, b2, s2, I2, J2, h2, h3, h4, h5, h6, h7, rfl⟩ := hz
      dsimp only at h5 hw
      cases h2
      rw [hw1] at h4
      cases h4
      rw [h] at h5
      cases h5
      exact ⟨h6, hw⟩
  · rintro ⟨hc, h3⟩
    exact ⟨_, ⟨_, _, hd, Or.inr (Or.inr (Or.inr (Or.inr (Or.inr (Or.inr (Or.inr (Or.inr (Or.inr (Or.inr (Or.inr (Or.inr (⟨rfl, rfl, trivial, _, _, _, _, _, _, rfl, hm, hw1, h, hc, hsum, rfl⟩))))))))))))⟩, h3⟩
end WPC

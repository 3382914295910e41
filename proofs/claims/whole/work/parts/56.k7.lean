/-! the class: couples -/
def CoS (S N : Nat → Nat) (P : PM) (co : Nat) : Prop := S co = 1 ∧ P co 0 = some (co + 1) ∧ AsS S N P (co + 1)
/-- the same memory but from a to b -/
def Fr (a b : Nat) (I I' : IM) (J J' : JM) : Prop := ∀ x, x < a ∨ b ≤ x → I' x = I x ∧ J' x = J x
theorem Fr.rf {a b : Nat} {I : IM} {J : JM} : Fr a b I I J J := fun _ _ => ⟨rfl, rfl⟩
theorem Fr.tr {a b : Nat} {I I' I'' : IM} {J J' J'' : JM} (h : Fr a b I I' J J') (h2 : Fr a b I' I'' J' J'') : Fr a b I I'' J J'' := fun x hx => ⟨(h2 x hx).1.trans (h x hx).1, (h2 x hx).2.trans (h x hx).2⟩
theorem Fr.w {a b a' b' : Nat} {I I' : IM} {J J' : JM} (h : Fr a b I I' J J') (h1 : a' ≤ a) (h2 : b ≤ b') : Fr a' b' I I' J J' := fun x hx => h x (by omega)
theorem Led.fr {S N : Nat → Nat} {P : PM} {I I' : IM} {J J' : JM} {l : Nat} {π : Nat → Nat} {g : Nat → Int32} {h : Nat → Int64} {nb nc nk : Nat} (hs : LeS S N P l π) (hb : Cb nb nc nk) (hr : Led I J l π g h nb nc nk) {a b : Nat} (hf : Fr a b I I' J J') (hdis : b ≤ l ∨ l + 30 ≤ a) : Led I' J' l π g h nb nc nk := hr.on hs hb (fun x h1 h2 => (hf x (by omega)).1) (fun x h1 h2 => (hf x (by omega)).2)
theorem asC_u (I : IM) (a : Nat) (e x dd f : Int32) : AsC (u2 (u2 (u2 (u2 I a 0 e) a 1 x) a 2 dd) a 3 f) a e x dd f := by
  refine ⟨?_, ?_, ?_, u2s _ _ _ _⟩
  · rw [u2k _ _ _ (by decide), u2k _ _ _ (by decide), u2k _ _ _ (by decide), u2s]
  · rw [u2k _ _ _ (by decide), u2k _ _ _ (by decide), u2s]
  · rw [u2k _ _ _ (by decide), u2s]
theorem Gd.per {g : Nat → Int32} {nb nc nk : Nat} (hg : Gd g nb nc nk) {p : Nat} (hp : p < 6) : Bd (g (64 + 3 * p)) 9999 ∧ Bd (g (65 + 3 * p)) 9999 ∧ Bd (g (66 + 3 * p)) 9 := hg.2.2.2.2.2.2.2.2 p hp
theorem Cs.one {g : Nat → Int32} {nb nc nk : Nat} (hg : Gd g nb nc nk) {p : Nat} (hp : p < 6) {dd : Int32} (hd : Bd dd 18) : Cs (g (64 + 3 * p)) (g (64 + 3 * p) + g (65 + 3 * p)) dd 1 := by
  obtain ⟨⟨E, hE, e1⟩, ⟨O, hO, e2⟩, -⟩ := hg.per hp
  obtain ⟨D, hD, e3⟩ := hd
  exact ⟨E, E + O, D, 1, by omega, by omega, hD, by decide, e1, by rw [e1, e2, nI_add], e3, rfl⟩
theorem Cs.two {g : Nat → Int32} {nb nc nk : Nat} (hg : Gd g nb nc nk) {p q : Nat} (hp : p < 6) (hq : q < 6) : Cs (g (64 + 3 * p) + g (64 + 3 * q)) (g (64 + 3 * p) + g (64 + 3 * q) + g (65 + 3 * p) + g (65 + 3 * q)) (g (66 + 3 * p) + g (66 + 3 * q)) 2 := by
  obtain ⟨⟨E, hE, e1⟩, ⟨O, hO, e2⟩, ⟨D, hD, e3⟩⟩ := hg.per hp
  obtain ⟨⟨E', hE', e1'⟩, ⟨O', hO', e2'⟩, ⟨D', hD', e3'⟩⟩ := hg.per hq
  exact ⟨E + E', E + E' + O + O', D + D', 2, by omega, by omega, by omega, by decide, by rw [e1, e1', nI_add], by rw [e1, e1', e2, e2', nI_add, nI_add, nI_add], by rw [e3, e3', nI_add], rfl⟩
section KT7
variable {S N : Nat → Nat} {d : Nat} {I : IM} {J : JM} {P : PM} {Q : Option Value → IM → JM → PM → Prop} {as co l : Nat} {π : Nat → Nat} {g : Nat → Int32} {h : Nat → Int64} {nb nc nk : Nat}
/-- takeAlone -/
theorem k_tAlone (ha : AsS S N P as) (hl : LeS S N P l π) (hdis : as + 10 ≤ l ∨ l + 30 ≤ as) (hg : Gd g nb nc nk) (hr : Led I J l π g h nb nc nk) {p : Nat} (hp : p < 6) {dd : Int32} (hd : Bd dd 18)
    (hq : ∀ I' J', Fr as (as + 10) I I' J J' → AsC I' as (g (64 + 3 * p)) (g (64 + 3 * p) + g (65 + 3 * p)) dd 1 → Led I' J' l π g h nb nc nk → (∀ j, j < nk → J' (as + 1) j = Br1 h p j) → Q none I' J' P) : CWp S N d MX0_takeAlone [.ref as, .ref l, .int (nI p), .int dd] I J P Q := by
  refine k_takeAlone ha hl hdis hg.cb hr hp (fun J1 a1 a2 _ => ?_)
  have hf : Fr as (as + 10) I (u2 (u2 (u2 (u2 I as 0 (g (64 + 3 * p))) as 1 (g (64 + 3 * p) + g (65 + 3 * p))) as 2 dd) as 3 1) J J1 := fun x hx => ⟨by rw [u2_off _ _ _ (by omega), u2_off _ _ _ (by omega), u2_off _ _ _ (by omega), u2_off _ _ _ (by omega)], a1 x (by omega)⟩
  exact hq _ J1 hf (asC_u _ _ _ _ _ _) (hr.fr hl hg.cb hf (by omega)) a2
/-- compute behind takeAlone -/
theorem k_cAlone (ha : AsS S N P as) (hl : LeS S N P l π) (hdis : as + 10 ≤ l ∨ l + 30 ≤ as) (hg : Gd g nb nc nk) {p : Nat} (hp : p < 6) {dd : Int32} (hd : Bd dd 18)
    (hc : AsC I as (g (64 + 3 * p)) (g (64 + 3 * p) + g (65 + 3 * p)) dd 1) (hr : Led I J l π g h nb nc nk) (hb : ∀ j, j < nk → J (as + 1) j = Br1 h p j)
    (hq : ∀ J', (∀ a, a < as ∨ as + 10 ≤ a → J' a = J a) → J' as 7 = TxA g h nb nc nk p dd → (∀ j, j < 6 → J' (as + 2) j = TpF g nb nc (g (64 + 3 * p) + g (65 + 3 * p)) 1 j) → (∀ i j, i < nk → j < 5 → J' (as + 4 + i) j = Tct g nb nc (Br1 h p) (g (64 + 3 * p)) (g (64 + 3 * p) + g (65 + 3 * p)) dd 1 i j) → Led I J' l π g h nb nc nk → Q none I J' P) :
    CWp S N (d + 2) MX0_compute [.ref as, .ref (l + 1)] I J P Q :=
  k_compute ha hc (Cs.one hg hp hd) hl.r (by omega) hg.cb hr.1 hg.rb hb (fun J' a1 a2 a3 a4 => hq J' (fun a h1 => a1 a (by omega) (by omega) (by omega)) a2 a3 a4 (hr.on hl hg.cb (fun _ _ _ => rfl) (fun a h1 h2 => a1 a (by omega) (by omega) (by omega))))
/-- takeTogether -/
theorem tg_loop (ha : AsS S N P as) (hl : LeS S N P l π) (hdis : as + 10 ≤ l ∨ l + 30 ≤ as) {q : Nat} (hq6 : q < 6) {x2 : Option Value} : ∀ (n k : Nat), k + n = 6 → ∀ (J : JM), (∀ J', (∀ a, a ≠ as + 1 → J' a = J a) → (∀ j, k ≤ j → j < 6 → J' (as + 1) j = J (as + 1) j + J (l + 10 + 3 * π j) q) → (∀ j, j < k → J' (as + 1) j = J (as + 1) j) → Q none I J' P) →
    Wp S N d MX0_takeTogether 64 [some (.ref as), some (.ref l), x2, some (.int (nI q)), some (.int (nI k))] [] I J P Q := by
  have ha' := ha.f
  have hl' := hl
  unfold LeS at hl'
  have hs' := hl.r.f
  intro n
  induction n with
  | zero =>
    intro k hk J hq
    have hk : k = 6 := by omega
    subst hk
    have g1 : (6 : Int32) ≤ nI 6 := by decide
    simp only [e_X0_takeTogether_64, e_X0_takeTogether_66, e_X0_takeTogether_68, e_X0_takeTogether_102, g1, true_and, and_true, rf_s, not_true_eq_false, not_false_eq_true, true_implies, false_implies, kl_i, kl_n, kl_l, kl_r, Option.toList, List.cons_append, List.nil_append, if_true, if_false, u2s, lt00, lt01, lt02, lt03, le10, le20, le30, ne10, ne20, ne30, eq00]
    exact hq J (fun _ _ => rfl) (fun j h1 h2 => by omega) (fun _ _ => rfl)
  | succ n ih =>
    intro k hk J hq
    have hk6 : k < 6 := by omega
    have g1 : ¬ (6 : Int32) ≤ nI k := nI_ge (b := 6) hk6 (by decide)
    have c1 := cr_row hl.r hk6
    obtain ⟨p1, p2⟩ := hl.r.2.2.2.2.1 k hk6
    rw [e_X0_takeTogether_64]
    simp only [e_X0_takeTogether_66, e_X0_takeTogether_68, e_X0_takeTogether_71, e_X0_takeTogether_72, e_X0_takeTogether_75, e_X0_takeTogether_77, e_X0_takeTogether_78, e_X0_takeTogether_79, e_X0_takeTogether_80, e_X0_takeTogether_83, e_X0_takeTogether_86, e_X0_takeTogether_88, e_X0_takeTogether_89, e_X0_takeTogether_92, e_X0_takeTogether_93, e_X0_takeTogether_94, e_X0_takeTogether_95, e_X0_takeTogether_96, e_X0_takeTogether_99, hl'.1, hl'.2.1, hs', ha', g1, c1, p2, nI_1, nI_clamp (show k < 2 ^ 31 by omega), vpn hk6 (by decide), nI_clamp (show q < 2 ^ 31 by omega), vpn hq6 (by decide), true_or, or_true, true_and, and_true, rf_s, not_true_eq_false, not_false_eq_true, true_implies, false_implies, kl_i, kl_n, kl_l, kl_r, Option.toList, List.cons_append, List.nil_append, if_true, if_false, u2s, lt00, lt01, lt02, lt03, le10, le20, le30, ne10, ne20, ne30, eq00]
    refine ih (k + 1) (by omega) _ (fun J' a1 a2 a3 => hq J' (fun a ha => (a1 a ha).trans (u2_off _ _ _ ha)) (fun j h1 h2 => ?_) (fun j hj => by rw [a3 j (by omega), u2k _ _ _ (by omega)]))
    have pj := (hl.r.2.2.2.2.1 j h2).1
    by_cases hj : j = k
    · subst hj
      rw [a3 j (by omega), u2s, show l + 1 + 7 + 3 * π j + 2 = l + 10 + 3 * π j by omega]
    · rw [a2 j (by omega) h2, u2k _ _ _ hj, u2_off _ _ _ (show l + 10 + 3 * π j ≠ as + 1 by omega)]
theorem k_tTog (ha : AsS S N P as) (hl : LeS S N P l π) (hdis : as + 10 ≤ l ∨ l + 30 ≤ as) (hg : Gd g nb nc nk) (hr : Led I J l π g h nb nc nk) {p q : Nat} (hp : p < 6) (hq6 : q < 6)
    (hq : ∀ I' J', Fr as (as + 10) I I' J J' → AsC I' as (g (64 + 3 * p) + g (64 + 3 * q)) (g (64 + 3 * p) + g (64 + 3 * q) + g (65 + 3 * p) + g (65 + 3 * q)) (g (66 + 3 * p) + g (66 + 3 * q)) 2 → Led I' J' l π g h nb nc nk → (∀ j, j < nk → J' (as + 1) j = Br2 h p q j) → Q none I' J' P) : CWp S N (d + 1) MX0_takeTogether [.ref as, .ref l, .int (nI p), .int (nI q)] I J P Q := by
  rw [c_X0_takeTogether]
  have ha' := ha.f
  have hl' := hl
  unfold LeS at hl'
  obtain ⟨e1, e2, e3, e4⟩ := hr.2.2 p hp
  obtain ⟨f1, f2, f3, f4⟩ := hr.2.2 q hq6
  simp only [e_X0_takeTogether_0, e_X0_takeTogether_1, e_X0_takeTogether_2, e_X0_takeTogether_3, e_X0_takeTogether_4, e_X0_takeTogether_7, e_X0_takeTogether_8, e_X0_takeTogether_9, e_X0_takeTogether_10, e_X0_takeTogether_13, e_X0_takeTogether_14, e_X0_takeTogether_15, e_X0_takeTogether_16, hl'.1, hl'.2.1, hl'.2.2.1, hl'.2.2.2.1, ha', e3, f3, nI_clamp (show p < 2 ^ 31 by omega), vpn hp (by decide), nI_clamp (show q < 2 ^ 31 by omega), vpn hq6 (by decide), true_or, or_true, true_and, and_true, rf_s, not_true_eq_false, not_false_eq_true, true_implies, false_implies, kl_i, kl_n, kl_l, kl_r, Option.toList, List.cons_append, List.nil_append, if_true, if_false, u2s, lt00, lt01, lt02, lt03, le10, le20, le30, ne10, ne20, ne30, eq00]
  refine k_takeAlone ha hl hdis hg.cb hr hp (fun J1 a1 a2 a2' => ?_)
  have o1 : ∀ (v w x y : Int32), (u2 (u2 (u2 (u2 I as 0 v) as 1 w) as 2 x) as 3 y) (l + 26) q = g (64 + 3 * q) := fun v w x y => by rw [u2_off _ _ _ (by omega), u2_off _ _ _ (by omega), u2_off _ _ _ (by omega), u2_off _ _ _ (by omega)]; exact f1
  have o2 : ∀ (v w x y z : Int32), (u2 (u2 (u2 (u2 (u2 I as 0 v) as 1 w) as 2 x) as 3 y) as 0 z) (l + 26) q = g (64 + 3 * q) := fun v w x y z => by rw [u2_off _ _ _ (by omega)]; exact o1 v w x y
  have o3 : ∀ (v w x y z : Int32), (u2 (u2 (u2 (u2 (u2 I as 0 v) as 1 w) as 2 x) as 3 y) as 0 z) (l + 27) q = g (65 + 3 * q) := fun v w x y z => by rw [u2_off _ _ _ (by omega), u2_off _ _ _ (by omega), u2_off _ _ _ (by omega), u2_off _ _ _ (by omega), u2_off _ _ _ (by omega)]; exact f2
  have q0 : ∀ (v w x y : Int32), (u2 (u2 (u2 (u2 I as 0 v) as 1 w) as 2 x) as 3 y) as 0 = v := fun v w x y => by rw [u2k _ _ _ (by decide), u2k _ _ _ (by decide), u2k _ _ _ (by decide), u2s]
  have q1 : ∀ (v w x y z : Int32), (u2 (u2 (u2 (u2 (u2 I as 0 v) as 1 w) as 2 x) as 3 y) as 0 z) as 1 = w := fun v w x y z => by rw [u2k _ _ _ (by decide), u2k _ _ _ (by decide), u2k _ _ _ (by decide), u2s]
  simp only [e_X0_takeTogether_19, e_X0_takeTogether_20, e_X0_takeTogether_21, e_X0_takeTogether_24, e_X0_takeTogether_25, e_X0_takeTogether_28, e_X0_takeTogether_29, e_X0_takeTogether_30, e_X0_takeTogether_31, e_X0_takeTogether_34, e_X0_takeTogether_35, e_X0_takeTogether_36, e_X0_takeTogether_39, e_X0_takeTogether_40, e_X0_takeTogether_43, e_X0_takeTogether_44, e_X0_takeTogether_45, e_X0_takeTogether_46, e_X0_takeTogether_49, e_X0_takeTogether_50, e_X0_takeTogether_51, e_X0_takeTogether_52, e_X0_takeTogether_53, e_X0_takeTogether_56, e_X0_takeTogether_57, e_X0_takeTogether_58, e_X0_takeTogether_61, e_X0_takeTogether_62, hl'.1, hl'.2.1, hl'.2.2.1, hl'.2.2.2.1, ha', o1, o2, o3, q0, q1, nI_clamp (show q < 2 ^ 31 by omega), vpn hq6 (by decide), true_or, or_true, true_and, and_true, rf_s, not_true_eq_false, not_false_eq_true, true_implies, false_implies, kl_i, kl_n, kl_l, kl_r, Option.toList, List.cons_append, List.nil_append, if_true, if_false, u2s, lt00, lt01, lt02, lt03, le10, le20, le30, ne10, ne20, ne30, eq00]
  refine tg_loop ha hl hdis hq6 6 0 rfl J1 (fun J2 b1 b2 _ => ?_)
  have hf : ∀ (v w x y z s u : Int32), Fr as (as + 10) I (u2 (u2 (u2 (u2 (u2 (u2 (u2 I as 0 v) as 1 w) as 2 x) as 3 y) as 0 z) as 1 s) as 3 u) J J2 := fun v w x y z s u x' hx => ⟨by rw [u2_off _ _ _ (by omega), u2_off _ _ _ (by omega), u2_off _ _ _ (by omega), u2_off _ _ _ (by omega), u2_off _ _ _ (by omega), u2_off _ _ _ (by omega), u2_off _ _ _ (by omega)], by rw [b1 x' (by omega), a1 x' (by omega)]⟩
  refine hq _ J2 (hf _ _ _ _ _ _ _) ⟨?_, ?_, ?_, u2s _ _ _ _⟩ (hr.fr hl hg.cb (hf _ _ _ _ _ _ _) (by omega)) (fun j hj => ?_)
  · rw [u2k _ _ _ (by decide), u2k _ _ _ (by decide), u2s]
  · rw [u2k _ _ _ (by decide), u2s]
    rw [Int32.add_assoc (g (64 + 3 * p) + g (64 + 3 * q)), Int32.add_assoc, Int32.add_assoc, ← Int32.add_assoc (g (65 + 3 * p)), Int32.add_comm (g (65 + 3 * p)) (g (64 + 3 * q)), Int32.add_assoc]
  · rw [u2k _ _ _ (by decide), u2k _ _ _ (by decide), u2k _ _ _ (by decide), u2k _ _ _ (by decide), u2s]
  · have hj6 : j < 6 := by have := hg.cb.2.2; omega
    have pj := (hl.r.2.2.2.2.1 j hj6).1
    rw [b2 j (Nat.zero_le _) hj6, a2' j hj6, a1 _ (by omega)]
    unfold Br2
    have h9 := (hr.1.2.2.2.2 j hj).2
    rw [show l + 10 + 3 * π j = l + 1 + 9 + 3 * π j by omega, h9 p hp, h9 q hq6]
theorem k_cTog (ha : AsS S N P as) (hl : LeS S N P l π) (hdis : as + 10 ≤ l ∨ l + 30 ≤ as) (hg : Gd g nb nc nk) {p q : Nat} (hp : p < 6) (hq6 : q < 6)
    (hc : AsC I as (g (64 + 3 * p) + g (64 + 3 * q)) (g (64 + 3 * p) + g (64 + 3 * q) + g (65 + 3 * p) + g (65 + 3 * q)) (g (66 + 3 * p) + g (66 + 3 * q)) 2) (hr : Led I J l π g h nb nc nk) (hb : ∀ j, j < nk → J (as + 1) j = Br2 h p q j)
    (hq : ∀ J', (∀ a, a < as ∨ as + 10 ≤ a → J' a = J a) → J' as 7 = TxJ g h nb nc nk p q → (∀ i j, i < nk → j < 5 → J' (as + 4 + i) j = Tct g nb nc (Br2 h p q) (g (64 + 3 * p) + g (64 + 3 * q)) (g (64 + 3 * p) + g (64 + 3 * q) + g (65 + 3 * p) + g (65 + 3 * q)) (g (66 + 3 * p) + g (66 + 3 * q)) 2 i j) → Led I J' l π g h nb nc nk → Q none I J' P) :
    CWp S N (d + 2) MX0_compute [.ref as, .ref (l + 1)] I J P Q :=
  k_compute ha hc (Cs.two hg hp hq6) hl.r (by omega) hg.cb hr.1 hg.rb hb (fun J' a1 a2 a3 a4 => hq J' (fun a h1 => a1 a (by omega) (by omega) (by omega)) a2 a4 (hr.on hl hg.cb (fun _ _ _ => rfl) (fun a h1 h2 => a1 a (by omega) (by omega) (by omega))))
end KT7

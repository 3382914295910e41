/-! the class: a whole assessment -/
section KT6
variable {S N : Nat → Nat} {d : Nat} {I : IM} {J : JM} {P : PM} {Q : Option Value → IM → JM → PM → Prop} {r as : Nat} {π : Nat → Nat} {g : Nat → Int32} {h : Nat → Int64} {nb nc nk : Nat} {e x dd f : Int32} {br : Nat → Int64}
theorem ux_kd {kd j : Nat} (h1 : kd < 3) (h2 : j < 3) : (nI kd = nI j) = (kd = j) := propext (nI_eq (by omega) (by omega))
theorem ux1 {k kd : Nat} (hkd : kd < 3) (hg : g (28 + 6 * k) = nI kd) (l : Int64) : (if kd = 1 then Tval g k e x dd f + (if kd = 2 then br k else 0) else Tles (Tval g k e x dd f + (if kd = 2 then br k else 0)) (Tpos l)) = Tuse g br k e x dd f l := by
  unfold Tuse Tmay
  have e1 : (g (28 + 6 * k) = 1) = (kd = 1) := by rw [hg]; exact ux_kd (j := 1) hkd (by decide)
  have e2 : (g (28 + 6 * k) = 2) = (kd = 2) := by rw [hg]; exact ux_kd (j := 2) hkd (by decide)
  simp only [e1, e2]
theorem ux2 {k kd : Nat} (hkd : kd < 3) (hg : g (28 + 6 * k) = nI kd) : (if kd = 0 then Tval g k e x dd f + (if kd = 2 then br k else 0) - Tuse g br k e x dd f (Trs g nb nc br e x dd f k) else 0) = Tun g nb nc br e x dd f k 0 := by
  unfold Tun
  have e1 : (g (28 + 6 * k) = nI 0) = (kd = 0) := by rw [hg]; exact ux_kd (j := 0) hkd (by decide)
  simp only [e1]
  by_cases h0 : kd = 0
  · subst h0
    simp only [if_true, if_neg (show ¬ (0 : Nat) = 2 by decide)]
  · simp only [if_neg h0]
theorem ux3 {k kd : Nat} (hkd : kd < 3) (hg : g (28 + 6 * k) = nI kd) : (if kd = 2 then Tval g k e x dd f + (if kd = 2 then br k else 0) - Tuse g br k e x dd f (Trs g nb nc br e x dd f k) else 0) = Tun g nb nc br e x dd f k 2 := by
  unfold Tun
  have e1 : (g (28 + 6 * k) = nI 2) = (kd = 2) := by rw [hg]; exact ux_kd (j := 2) hkd (by decide)
  simp only [e1]
  by_cases h0 : kd = 2
  · subst h0
    simp only [if_true]
  · simp only [if_neg h0]
theorem cm_loop (ha : AsS S N P as) (hc : AsC I as e x dd f) (hcs : Cs e x dd f) (hs : RuS S N P r π) (hdis : as + 10 ≤ r ∨ r + 25 ≤ as) (hb : Cb nb nc nk) {J0 : JM} (hr : Rul I J0 r π g h nb nc nk) (hg : Rb g nb nc nk) : ∀ (n k : Nat), k + n = nk → ∀ (J : JM) (x3 x4 : Option Value), J as 7 = Trs g nb nc br e x dd f k → (∀ j, j < nk → J (as + 1) j = br j) →
    (∀ J', (∀ a, a ≠ as → a < as + 4 ∨ as + 10 ≤ a → J' a = J a) → (∀ j, j ≠ 7 → J' as j = J as j) → J' as 7 = Trs g nb nc br e x dd f nk → (∀ i, i < k → J' (as + 4 + i) = J (as + 4 + i)) → (∀ i j, k ≤ i → i < nk → j < 5 → J' (as + 4 + i) j = Tct g nb nc br e x dd f i j) → Q none I J' P) →
    Wp S N (d + 2) MX0_compute 157 [some (.ref as), some (.ref r), some (.ref (r + 3)), x3, x4, some (.int (nI k))] [] I J P Q := by
  have hs' := hs.f
  have ha' := ha.f
  obtain ⟨⟨-, -, r7⟩, -, -, -, r8⟩ := hr
  have hnk := hb.2.2
  intro n
  induction n with
  | zero =>
    intro k hk J x3 x4 h7 hbr hq
    have hk : k = nk := by omega
    subst hk
    have g1 : nI k ≤ nI k := nI_le (Nat.le_refl k) (by omega)
    simp only [e_X0_compute_157, e_X0_compute_159, e_X0_compute_160, e_X0_compute_163, e_X0_compute_213, hs', r7, g1, true_and, and_true, rf_s, not_true_eq_false, not_false_eq_true, true_implies, false_implies, kl_i, kl_n, kl_l, kl_r, Option.toList, List.cons_append, List.nil_append, if_true, if_false, u2s, lt00, lt01, lt02, lt03, le10, le20, le30, ne10, ne20, ne30, eq00]
    exact hq J (fun _ _ _ => rfl) (fun _ _ => rfl) h7 (fun _ _ => rfl) (fun i j h1 h2 => by omega)
  | succ n ih =>
    intro k hk J x3 x4 h7 hbr hq
    have hk6 : k < 6 := by omega
    have g1 : ¬ nI nk ≤ nI k := nI_ge (by omega) (by omega)
    obtain ⟨b1, b2, b3⟩ := ha.2.2.2.2 k hk6
    obtain ⟨p1, p2⟩ := hs.2.2.2.2.1 k hk6
    have c1 := cr_row hs hk6
    obtain ⟨kd, hkd, ekd⟩ := (hg.2.2.2.2.2 k (by omega)).1
    have hn : ∀ j, j < 6 → I (r + 7 + 3 * π k + 1) j = g (28 + 6 * k + j) := fun j hj => by
      rw [show r + 7 + 3 * π k + 1 = r + 8 + 3 * π k by omega]
      exact (r8 k (by omega)).1 j hj
    have hn0 : I (r + 7 + 3 * π k + 1) 0 = nI kd := by rw [hn 0 (by decide)]; exact ekd
    have vo := fun (d : Nat) (J : JM) (Q : Option Value → IM → JM → PM → Prop) => k_valueOf (S := S) (N := N) (d := d) (J := J) (P := P) (Q := Q) ha hc hcs (q := r + 7 + 3 * π k + 1) c1.2.2.2.1 c1.2.2.2.2.2.1 (k := k) (by omega) hg hn
    rw [e_X0_compute_157]
    simp only [e_X0_compute_159, e_X0_compute_160, e_X0_compute_163, e_X0_compute_166, e_X0_compute_167, e_X0_compute_170, e_X0_compute_172, e_X0_compute_173, e_X0_compute_174, e_X0_compute_175, e_X0_compute_176, e_X0_compute_179, e_X0_compute_181, e_X0_compute_182, e_X0_compute_185, e_X0_compute_188, e_X0_compute_189, e_X0_compute_190, e_X0_compute_192, e_X0_compute_193, e_X0_compute_196, e_X0_compute_198, e_X0_compute_199, e_X0_compute_202, e_X0_compute_203, e_X0_compute_204, hs', ha', r7, g1, b1, b2, b3, c1, p2, hn0, vo, cl_0, vl5_0, vl6_0, nI_clamp (show k < 2 ^ 31 by omega), vpn hk6 (by decide), true_or, or_true, true_and, and_true, rf_s, not_true_eq_false, not_false_eq_true, true_implies, false_implies, kl_i, kl_n, kl_l, kl_r, Option.toList, List.cons_append, List.nil_append, if_true, if_false, u2s, lt00, lt01, lt02, lt03, le10, le20, le30, ne10, ne20, ne30, eq00]
    have n1 : as ≠ as + 4 + k := by omega
    have n2 : as + 1 ≠ as + 4 + k := by omega
    refine k_useCredit ha hk6 (by omega) (fun J1 a1 a2 a3 a4 a5 a6 a7 a8 => ?_)
    rw [u2s] at a3 a4 a5 a6 a7
    rw [u2_off _ _ _ n1] at a2 a3 a5 a6 a7
    rw [u2_off _ _ _ n2] at a3 a5 a6 a7
    rw [hbr k (by omega), h7] at a3 a5 a6 a7
    rw [ux1 (by omega) ekd] at a3 a5 a6 a7
    rw [ux2 (by omega) ekd] at a6
    rw [ux3 (by omega) ekd] at a7
    have a3' : J1 as 7 = Trs g nb nc br e x dd f (k + 1) := a3
    simp only [e_X0_compute_207, e_X0_compute_210, nI_1, true_and, and_true, rf_s, not_true_eq_false, not_false_eq_true, true_implies, false_implies, kl_i, kl_n, kl_l, kl_r, Option.toList, List.cons_append, List.nil_append, if_true, if_false, u2s, lt00, lt01, lt02, lt03, le10, le20, le30, ne10, ne20, ne30, eq00]
    refine ih (k + 1) (by omega) J1 _ _ a3' (fun j hj => ?_) (fun J' c1 c2 c3 c4 c5 => hq J' (fun a e1 e2 => ?_) (fun j hj => ?_) c3 (fun i hi => ?_) (fun i j e1 e2 e3 => ?_))
    · rw [a1 _ (by omega) (by omega), u2_off _ _ _ n2]; exact hbr j hj
    · rw [c1 a e1 e2, a1 a e1 (by omega), u2_off _ _ _ (by omega)]
    · rw [c2 j hj, a2 j hj]
    · rw [c4 i (by omega), a1 _ (by omega) (by omega), u2_off _ _ _ (by omega)]
    · by_cases hik : i = k
      · subst hik
        rw [c4 i (by omega)]
        unfold Tct
        rcases (show j = 0 ∨ j = 1 ∨ j = 2 ∨ j = 3 ∨ j = 4 by omega) with rfl | rfl | rfl | rfl | rfl
        · rw [if_pos rfl]; exact a4
        · rw [if_neg (by decide), if_pos rfl]; exact a5
        · rw [if_neg (by decide), if_neg (by decide), if_pos rfl]; exact a6
        · rw [if_neg (by decide), if_neg (by decide), if_neg (by decide), if_pos rfl]; exact a7
        · rw [if_neg (by decide), if_neg (by decide), if_neg (by decide), if_neg (by decide), a8]; exact a3'
      · exact c5 i j (by omega) e2 e3
theorem k_compute (ha : AsS S N P as) (hc : AsC I as e x dd f) (hcs : Cs e x dd f) (hs : RuS S N P r π) (hdis : as + 10 ≤ r ∨ r + 25 ≤ as) (hb : Cb nb nc nk) (hr : Rul I J r π g h nb nc nk) (hg : Rb g nb nc nk) (hbr : ∀ j, j < nk → J (as + 1) j = br j)
    (hq : ∀ J', (∀ a, a ≠ as → a ≠ as + 2 → a < as + 4 ∨ as + 10 ≤ a → J' a = J a) → J' as 7 = Trs g nb nc br e x dd f nk → (∀ j, j < 6 → J' (as + 2) j = TpF g nb nc x f j) → (∀ i j, i < nk → j < 5 → J' (as + 4 + i) j = Tct g nb nc br e x dd f i j) → Q none I J' P) :
    CWp S N (d + 2) MX0_compute [.ref as, .ref r] I J P Q := by
  rw [c_X0_compute]
  have hs' := hs.f
  have ha' := ha.f
  obtain ⟨-, cx, -, cf⟩ := id hc
  obtain ⟨-, -, r3, -, -⟩ := id hr
  obtain ⟨-, -, g5, ⟨g15, g17⟩, g8, -⟩ := id hg
  have s0 := r3 0 (by decide)
  have s1 := r3 1 (by decide)
  have s2 := r3 2 (by decide)
  have s3 := r3 3 (by decide)
  have s4 := r3 4 (by decide)
  have sh1 := fun (d : Nat) (J : JM) (Q : Option Value → IM → JM → PM → Prop) => k_share (S := S) (N := N) (d := d) (J := J) (P := P) (Q := Q) ha hc hcs (g5 1 (by decide)) g15
  have sh2 := fun (d : Nat) (J : JM) (Q : Option Value → IM → JM → PM → Prop) => k_share (S := S) (N := N) (d := d) (J := J) (P := P) (Q := Q) ha hc hcs (g5 3 (by decide)) g17
  have hu0 : ∃ u, u ≤ 39996000 ∧ Tp1 g x f = lN (1000 * u) := by
    obtain ⟨E, X, D, F, hE, hX, hD, hF, -, e2, -, e4⟩ := hcs
    rw [e2, e4]
    exact Tp1_eq hg hX hF
  obtain ⟨u, hu, eu⟩ := hu0
  have sc := fun (d : Nat) (J1 : JM) (Q : Option Value → IM → JM → PM → Prop) => k_scheduled (S := S) (N := N) (d := d) (J := J1) (P := P) (Q := Q) ha hc hcs hs hb hr hg hu eu
  have cd := fun (d : Nat) (J1 : JM) (Q : Option Value → IM → JM → PM → Prop) => k_charges (S := S) (N := N) (d := d) (J := J1) (P := P) (Q := Q) ha hc hs hb hr hg
  have m0 : (f * g 13).toInt64 * 1000000 = 1000000 * (f * g 13).toInt64 := Int64.mul_comm _ _
  have m1 : x.toInt64 * 1000000 = 1000000 * x.toInt64 := Int64.mul_comm _ _
  have t0 : Tpos (1000000 * (f * g 13).toInt64 - Tabv (g 15) x (f * g 14)) = Tp0 g x f := rfl
  have t1 : Tpos (1000000 * x.toInt64 - Tp0 g x f) = Tp1 g x f := rfl
  have t2 : Tsch g (Tp1 g x f) f 0 nb 0 = Tp2 g nb x f := rfl
  have t3 : Tabv (g 17) x (f * g 16) = Tp3 g x f := rfl
  have t4 : (if Tp3 g x f < Tp2 g nb x f then Tp2 g nb x f else Tp3 g x f) = Tp4 g nb x f := rfl
  have t5 : Tp4 g nb x f + (nI (ChS g x f 0 nc)).toInt64 * 1000000 = Tp5 g nb nc x f := by
    unfold Tp5
    refine congrArg (fun z => Tp4 g nb x f + z) ?_
    have h9 := Tchg_eq g x f nc 0 0 (fun j _ hj => (g8 j (by omega)).2)
    rw [Nat.mul_zero, lN0, Nat.zero_add] at h9
    have hle := ChS_le g x f nc 0 (fun j _ hj => (g8 j (by omega)).2)
    have := hb.2.1
    rw [h9, nI_l (by omega), ← lNM, lN_mul, Nat.mul_comm]
  have q23 : (2 : Nat) ≠ 3 := by decide
  simp only [show 13 + 1 = 14 from rfl, show 13 + 2 = 15 from rfl, show 13 + 3 = 16 from rfl, show 13 + 4 = 17 from rfl, Nat.add_zero] at s0 s1 s2 s3 s4 sh1 sh2
  simp only [e_X0_compute_0, e_X0_compute_1, e_X0_compute_4, e_X0_compute_5, e_X0_compute_6, e_X0_compute_9, e_X0_compute_10, e_X0_compute_11, e_X0_compute_12, e_X0_compute_13, e_X0_compute_14, e_X0_compute_17, e_X0_compute_18, e_X0_compute_19, e_X0_compute_20, e_X0_compute_21, e_X0_compute_22, e_X0_compute_23, e_X0_compute_24, e_X0_compute_25, e_X0_compute_28, e_X0_compute_29, e_X0_compute_30, e_X0_compute_31, e_X0_compute_34, e_X0_compute_35, e_X0_compute_36, e_X0_compute_37, e_X0_compute_40, e_X0_compute_41, e_X0_compute_42, e_X0_compute_45, e_X0_compute_46, e_X0_compute_47, e_X0_compute_48, e_X0_compute_51, e_X0_compute_52, e_X0_compute_55, e_X0_compute_56, e_X0_compute_57, e_X0_compute_60, e_X0_compute_61, e_X0_compute_62, e_X0_compute_63, e_X0_compute_66, e_X0_compute_67, e_X0_compute_68, e_X0_compute_71, e_X0_compute_72, e_X0_compute_73, e_X0_compute_74, e_X0_compute_75, e_X0_compute_78, e_X0_compute_79, e_X0_compute_80, e_X0_compute_83, e_X0_compute_84, e_X0_compute_85, e_X0_compute_88, e_X0_compute_89, e_X0_compute_90, e_X0_compute_91, e_X0_compute_92, e_X0_compute_93, e_X0_compute_94, e_X0_compute_95, e_X0_compute_96, e_X0_compute_99, e_X0_compute_100, e_X0_compute_101, e_X0_compute_104, e_X0_compute_105, e_X0_compute_106, e_X0_compute_109, e_X0_compute_110, e_X0_compute_111, e_X0_compute_112, e_X0_compute_115, e_X0_compute_116, e_X0_compute_117, e_X0_compute_120, e_X0_compute_121, e_X0_compute_122, e_X0_compute_125, e_X0_compute_126, e_X0_compute_127, e_X0_compute_130, e_X0_compute_131, e_X0_compute_132, e_X0_compute_133, e_X0_compute_134, e_X0_compute_137, e_X0_compute_138, e_X0_compute_141, e_X0_compute_142, e_X0_compute_143, e_X0_compute_144, e_X0_compute_145, e_X0_compute_146, e_X0_compute_149, e_X0_compute_150, e_X0_compute_151, e_X0_compute_154, e_X0_compute_155, hs', ha', cx, cf, s0, s1, s2, s3, s4, sh1, sh2, sc, cd, m0, m1, t0, t1, t2, t3, t4, t5, lmax0_eq, u2k _ _ _ q23, cl_0, cl_1, cl_2, cl_3, cl_4, cl_5, vl5_0, vl5_1, vl5_2, vl5_3, vl5_4, vl6_0, vl6_1, vl6_2, vl6_3, vl6_4, vl6_5, true_and, and_true, rf_s, not_true_eq_false, not_false_eq_true, true_implies, false_implies, kl_i, kl_n, kl_l, kl_r, Option.toList, List.cons_append, List.nil_append, if_true, if_false, u2s, lt00, lt01, lt02, lt03, le10, le20, le30, ne10, ne20, ne30, eq00]
  refine cm_loop (br := br) (d := d) ha hc hcs hs hdis hb hr hg nk 0 (by omega) _ _ _ (u2s _ _ _ _) (fun j hj => ?_) (fun J' c1 c2 c3 _ c5 => hq J' (fun a e1 e2 e3 => ?_) c3 (fun j hj => ?_) (fun i j hi hj => c5 i j (Nat.zero_le _) hi hj))
  · rw [u2_off _ _ _ (by omega)]
    simp only [u2_off _ _ _ (show as + 1 ≠ as + 2 by omega)]
    exact hbr j hj
  · rw [c1 a e1 e3, u2_off _ _ _ e1]
    simp only [u2_off _ _ _ e2]
  · rw [c1 (as + 2) (by omega) (by omega), u2_off _ _ _ (by omega)]
    unfold TpF
    rcases (show j = 0 ∨ j = 1 ∨ j = 2 ∨ j = 3 ∨ j = 4 ∨ j = 5 by omega) with rfl | rfl | rfl | rfl | rfl | rfl <;> simp only [u2_row, if_true, if_neg (show ¬ (0 : Nat) = 1 by decide), if_neg (show ¬ (0 : Nat) = 2 by decide), if_neg (show ¬ (0 : Nat) = 3 by decide), if_neg (show ¬ (0 : Nat) = 4 by decide), if_neg (show ¬ (0 : Nat) = 5 by decide), if_neg (show ¬ (1 : Nat) = 0 by decide), if_neg (show ¬ (1 : Nat) = 2 by decide), if_neg (show ¬ (1 : Nat) = 3 by decide), if_neg (show ¬ (1 : Nat) = 4 by decide), if_neg (show ¬ (1 : Nat) = 5 by decide), if_neg (show ¬ (2 : Nat) = 0 by decide), if_neg (show ¬ (2 : Nat) = 1 by decide), if_neg (show ¬ (2 : Nat) = 3 by decide), if_neg (show ¬ (2 : Nat) = 4 by decide), if_neg (show ¬ (2 : Nat) = 5 by decide), if_neg (show ¬ (3 : Nat) = 0 by decide), if_neg (show ¬ (3 : Nat) = 1 by decide), if_neg (show ¬ (3 : Nat) = 2 by decide), if_neg (show ¬ (3 : Nat) = 4 by decide), if_neg (show ¬ (3 : Nat) = 5 by decide), if_neg (show ¬ (4 : Nat) = 0 by decide), if_neg (show ¬ (4 : Nat) = 1 by decide), if_neg (show ¬ (4 : Nat) = 2 by decide), if_neg (show ¬ (4 : Nat) = 3 by decide), if_neg (show ¬ (4 : Nat) = 5 by decide), if_neg (show ¬ (5 : Nat) = 0 by decide), if_neg (show ¬ (5 : Nat) = 1 by decide), if_neg (show ¬ (5 : Nat) = 2 by decide), if_neg (show ¬ (5 : Nat) = 3 by decide), if_neg (show ¬ (5 : Nat) = 4 by decide)]
theorem k_earn (ha : AsS S N P as) (hc : AsC I as e x dd f) {v : Int32} : CWp S N d MX0_earn [.ref as, .int v] I J P Q ↔ Q none (u2 (u2 I as 1 (x + (v - e))) as 0 v) J P := by
  rw [c_X0_earn]
  have ha' := ha.f
  obtain ⟨c0, c1, -, -⟩ := hc
  have n0 : ∀ w : Int32, (u2 I as 1 w) as 0 = e := fun w => by rw [u2k _ _ _ (by decide)]; exact c0
  simp only [e_X0_earn_0, e_X0_earn_1, e_X0_earn_2, e_X0_earn_5, e_X0_earn_6, e_X0_earn_7, e_X0_earn_10, e_X0_earn_11, e_X0_earn_12, e_X0_earn_15, e_X0_earn_16, e_X0_earn_17, e_X0_earn_20, ha', c0, c1, n0, true_and, and_true, rf_s, not_true_eq_false, not_false_eq_true, true_implies, false_implies, kl_i, kl_n, kl_l, kl_r, Option.toList, List.cons_append, List.nil_append, if_true, if_false, u2s, lt00, lt01, lt02, lt03, le10, le20, le30, ne10, ne20, ne30, eq00]
theorem k_curvePart (ha : AsS S N P as) {j : Nat} (hj : j < 10) : CWp S N d MX0_curvePart [.ref as, .int (nI j)] I J P Q ↔ Q (some (.long (if j < 4 then J (as + 2) (2 + j) else J (as + 4 + (j - 4)) 4))) I J P := by
  rw [c_X0_curvePart]
  have ha' := ha.f
  by_cases h4 : j < 4
  · have g1 : ¬ (4 : Int32) ≤ nI j := nI_ge (b := 4) h4 (by decide)
    have q1 : (2 : Int32) + nI j = nI (2 + j) := by rw [show (2 : Int32) = nI 2 from rfl, nI_add]
    rw [if_pos h4]
    simp only [e_X0_curvePart_0, e_X0_curvePart_1, e_X0_curvePart_2, e_X0_curvePart_5, e_X0_curvePart_6, e_X0_curvePart_9, e_X0_curvePart_10, e_X0_curvePart_11, e_X0_curvePart_12, e_X0_curvePart_13, e_X0_curvePart_14, e_X0_curvePart_15, e_X0_curvePart_18, e_X0_curvePart_19, e_X0_curvePart_20, e_X0_curvePart_21, e_X0_curvePart_22, e_X0_curvePart_23, e_X0_curvePart_24, ha', g1, q1, nI_clamp (show 2 + j < 2 ^ 31 by omega), vpn (show 2 + j < 6 by omega) (by decide), true_and, and_true, rf_s, not_true_eq_false, not_false_eq_true, true_implies, false_implies, kl_i, kl_n, kl_l, kl_r, Option.toList, List.cons_append, List.nil_append, if_true, if_false, u2s, lt00, lt01, lt02, lt03, le10, le20, le30, ne10, ne20, ne30, eq00]
  · have g1 : (4 : Int32) ≤ nI j := nI_le (a := 4) (by omega) (by omega)
    have q1 : nI j - 4 = nI (j - 4) := by rw [show (4 : Int32) = nI 4 from rfl, pk_sub (by omega)]
    obtain ⟨b1, b2, b3⟩ := ha.2.2.2.2 (j - 4) (by omega)
    rw [if_neg h4]
    simp only [e_X0_curvePart_0, e_X0_curvePart_1, e_X0_curvePart_2, e_X0_curvePart_5, e_X0_curvePart_6, e_X0_curvePart_9, e_X0_curvePart_10, e_X0_curvePart_11, e_X0_curvePart_12, e_X0_curvePart_13, e_X0_curvePart_14, e_X0_curvePart_15, e_X0_curvePart_18, e_X0_curvePart_19, e_X0_curvePart_20, e_X0_curvePart_21, e_X0_curvePart_22, e_X0_curvePart_23, e_X0_curvePart_24, ha', g1, q1, b1, b2, b3, nI_clamp (show j - 4 < 2 ^ 31 by omega), vpn (show j - 4 < 6 by omega) (by decide), cl_4, vl5_4, true_or, or_true, true_and, and_true, rf_s, not_true_eq_false, not_false_eq_true, true_implies, false_implies, kl_i, kl_n, kl_l, kl_r, Option.toList, List.cons_append, List.nil_append, if_true, if_false, u2s, lt00, lt01, lt02, lt03, le10, le20, le30, ne10, ne20, ne30, eq00]
theorem tk_loop (ha : AsS S N P as) {l : Nat} (hl : LeS S N P l π) (hdis : as + 10 ≤ l ∨ l + 30 ≤ as) {p : Nat} (hp : p < 6) {x3 : Option Value} : ∀ (n k : Nat), k + n = 6 → ∀ (J : JM), (∀ J', (∀ a, a ≠ as + 1 → J' a = J a) → (∀ j, k ≤ j → j < 6 → J' (as + 1) j = J (l + 10 + 3 * π j) p) → (∀ j, j < k → J' (as + 1) j = J (as + 1) j) → Q none I J' P) →
    Wp S N d MX0_takeAlone 40 [some (.ref as), some (.ref l), some (.int (nI p)), some (.int dd), some (.int (nI k))] [] I J P Q := by
  have ha' := ha.f
  have hl' := hl
  unfold LeS at hl'
  have hs' := hl.r.f
  intro n
  induction n with
  | zero =>
    intro k hk J hq
    have hk : k = 6 := by omega
    subst hk
    have g1 : (6 : Int32) ≤ nI 6 := by decide
    simp only [e_X0_takeAlone_40, e_X0_takeAlone_42, e_X0_takeAlone_44, e_X0_takeAlone_75, g1, true_and, and_true, rf_s, not_true_eq_false, not_false_eq_true, true_implies, false_implies, kl_i, kl_n, kl_l, kl_r, Option.toList, List.cons_append, List.nil_append, if_true, if_false, u2s, lt00, lt01, lt02, lt03, le10, le20, le30, ne10, ne20, ne30, eq00]
    exact hq J (fun _ _ => rfl) (fun j h1 h2 => by omega) (fun _ _ => rfl)
  | succ n ih =>
    intro k hk J hq
    have hk6 : k < 6 := by omega
    have g1 : ¬ (6 : Int32) ≤ nI k := nI_ge (b := 6) hk6 (by decide)
    have c1 := cr_row hl.r hk6
    obtain ⟨p1, p2⟩ := hl.r.2.2.2.2.1 k hk6
    rw [e_X0_takeAlone_40]
    simp only [e_X0_takeAlone_42, e_X0_takeAlone_44, e_X0_takeAlone_47, e_X0_takeAlone_48, e_X0_takeAlone_51, e_X0_takeAlone_53, e_X0_takeAlone_54, e_X0_takeAlone_57, e_X0_takeAlone_60, e_X0_takeAlone_62, e_X0_takeAlone_63, e_X0_takeAlone_66, e_X0_takeAlone_67, e_X0_takeAlone_68, e_X0_takeAlone_69, e_X0_takeAlone_72, hl'.1, hl'.2.1, hs', ha', g1, c1, p2, nI_1, nI_clamp (show k < 2 ^ 31 by omega), vpn hk6 (by decide), nI_clamp (show p < 2 ^ 31 by omega), vpn hp (by decide), true_or, or_true, true_and, and_true, rf_s, not_true_eq_false, not_false_eq_true, true_implies, false_implies, kl_i, kl_n, kl_l, kl_r, Option.toList, List.cons_append, List.nil_append, if_true, if_false, u2s, lt00, lt01, lt02, lt03, le10, le20, le30, ne10, ne20, ne30, eq00]
    refine ih (k + 1) (by omega) _ (fun J' a1 a2 a3 => hq J' (fun a ha => (a1 a ha).trans (u2_off _ _ _ ha)) (fun j h1 h2 => ?_) (fun j hj => by rw [a3 j (by omega), u2k _ _ _ (by omega)]))
    have pj := (hl.r.2.2.2.2.1 j h2).1
    by_cases hj : j = k
    · subst hj
      rw [a3 j (by omega), u2s, show l + 1 + 7 + 3 * π j + 2 = l + 10 + 3 * π j by omega]
    · rw [a2 j (by omega) h2, u2_off _ _ _ (by omega)]
/-- what a case brings, from the ledger -/
theorem k_takeAlone (ha : AsS S N P as) {l : Nat} (hl : LeS S N P l π) (hdis : as + 10 ≤ l ∨ l + 30 ≤ as) (hb : Cb nb nc nk) (hr : Led I J l π g h nb nc nk) {p : Nat} (hp : p < 6)
    (hq : ∀ J', (∀ a, a ≠ as + 1 → J' a = J a) → (∀ j, j < nk → J' (as + 1) j = Br1 h p j) → (∀ j, j < 6 → J' (as + 1) j = J (l + 10 + 3 * π j) p) → Q none (u2 (u2 (u2 (u2 I as 0 (g (64 + 3 * p))) as 1 (g (64 + 3 * p) + g (65 + 3 * p))) as 2 dd) as 3 1) J' P) : CWp S N d MX0_takeAlone [.ref as, .ref l, .int (nI p), .int dd] I J P Q := by
  rw [c_X0_takeAlone]
  have ha' := ha.f
  have hl' := hl
  unfold LeS at hl'
  obtain ⟨e1, e2, e3, e4⟩ := hr.2.2 p hp
  have o1 : ∀ v : Int32, (u2 I as 0 v) (l + 26) p = g (64 + 3 * p) := fun v => by rw [u2_off _ _ _ (by omega)]; exact e1
  have o2 : ∀ v : Int32, (u2 I as 0 v) (l + 27) p = g (65 + 3 * p) := fun v => by rw [u2_off _ _ _ (by omega)]; exact e2
  simp only [e_X0_takeAlone_0, e_X0_takeAlone_1, e_X0_takeAlone_2, e_X0_takeAlone_5, e_X0_takeAlone_6, e_X0_takeAlone_7, e_X0_takeAlone_10, e_X0_takeAlone_11, e_X0_takeAlone_12, e_X0_takeAlone_15, e_X0_takeAlone_16, e_X0_takeAlone_17, e_X0_takeAlone_18, e_X0_takeAlone_21, e_X0_takeAlone_22, e_X0_takeAlone_23, e_X0_takeAlone_24, e_X0_takeAlone_27, e_X0_takeAlone_28, e_X0_takeAlone_29, e_X0_takeAlone_32, e_X0_takeAlone_33, e_X0_takeAlone_34, e_X0_takeAlone_37, e_X0_takeAlone_38, hl'.1, hl'.2.1, hl'.2.2.1, hl'.2.2.2.1, ha', e1, o1, o2, nI_clamp (show p < 2 ^ 31 by omega), vpn hp (by decide), true_or, or_true, true_and, and_true, rf_s, not_true_eq_false, not_false_eq_true, true_implies, false_implies, kl_i, kl_n, kl_l, kl_r, Option.toList, List.cons_append, List.nil_append, if_true, if_false, u2s, lt00, lt01, lt02, lt03, le10, le20, le30, ne10, ne20, ne30, eq00]
  refine tk_loop (dd := dd) ha hl hdis hp (x3 := none) 6 0 rfl J (fun J' a1 a2 _ => hq J' a1 (fun j hj => ?_) (fun j hj => a2 j (Nat.zero_le _) hj))
  rw [a2 j (Nat.zero_le _) (by have := hb.2.2; omega)]
  unfold Br1
  rw [Int64.add_zero, show l + 10 + 3 * π j = l + 1 + 9 + 3 * π j by omega]
  exact (hr.1.2.2.2.2 j hj).2 p hp
end KT6

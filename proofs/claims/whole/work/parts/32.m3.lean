/-! the model's reckoning, second part: a case's tax -/
theorem u2s {α : Type} (f : Nat → Nat → α) (a k : Nat) (v : α) : u2 f a k v a k = v := by simp [u2]
theorem u2a {α : Type} (f : Nat → Nat → α) {a b : Nat} (k j : Nat) (v : α) (h : b ≠ a) : u2 f a k v b j = f b j := by simp [u2, h]
theorem u2k {α : Type} (f : Nat → Nat → α) (a : Nat) {k j : Nat} (v : α) (h : j ≠ k) : u2 f a k v a j = f a j := by simp [u2, h]
/-- the credits from k on, n left, with l as the rest: what is left in the end, and the rows behind it -/
def Tcr (g : Nat → Int32) (m : Nat) (e x dd f : Int32) : Nat → Nat → Int64 → JM → Int64 × JM
  | _, 0, l, J => (l, J)
  | k, n + 1, l, J =>
    Tcr g m e x dd f (k + 1) n (l - (if g (28 + 6 * k) = 1 then Tval g k e x dd f + (if g (28 + 6 * k) = 2 then J (m + 10) k else 0) else Tles (Tval g k e x dd f + (if g (28 + 6 * k) = 2 then J (m + 10) k else 0)) (Tpos l)))
      (u2 (u2 (u2 J (m + 11) k (Tval g k e x dd f)) (m + 12) k (if g (28 + 6 * k) = 1 then Tval g k e x dd f + (if g (28 + 6 * k) = 2 then J (m + 10) k else 0) else Tles (Tval g k e x dd f + (if g (28 + 6 * k) = 2 then J (m + 10) k else 0)) (Tpos l))) (m + 13) k
        (l - (if g (28 + 6 * k) = 1 then Tval g k e x dd f + (if g (28 + 6 * k) = 2 then J (m + 10) k else 0) else Tles (Tval g k e x dd f + (if g (28 + 6 * k) = 2 then J (m + 10) k else 0)) (Tpos l))))
/-- the six parts of a case -/
def Tp0 (g : Nat → Int32) (x f : Int32) : Int64 := Tpos (1000000 * (f * g 13).toInt64 - Tabv (g 15) x (f * g 14))
def Tp1 (g : Nat → Int32) (x f : Int32) : Int64 := Tpos (1000000 * x.toInt64 - Tp0 g x f)
def Tp2 (g : Nat → Int32) (nb : Nat) (x f : Int32) : Int64 := Tsch g (Tp1 g x f) f 0 nb 0
def Tp3 (g : Nat → Int32) (x f : Int32) : Int64 := Tabv (g 17) x (f * g 16)
def Tp4 (g : Nat → Int32) (nb : Nat) (x f : Int32) : Int64 := if Tp3 g x f < Tp2 g nb x f then Tp2 g nb x f else Tp3 g x f
def Tp5 (g : Nat → Int32) (nb nc : Nat) (x f : Int32) : Int64 := Tp4 g nb x f + Tchg g x f 0 nc 0
/-- the longs with a case's parts in their row -/
def Tj (g : Nat → Int32) (m nb nc : Nat) (x f : Int32) (J : JM) : JM :=
  u2 (u2 (u2 (u2 (u2 (u2 J (m + 9) 0 (Tp0 g x f)) (m + 9) 1 (Tp1 g x f)) (m + 9) 2 (Tp2 g nb x f)) (m + 9) 3 (Tp3 g x f)) (m + 9) 4 (Tp4 g nb x f)) (m + 9) 5 (Tp5 g nb nc x f)
/-- the counts of a state of the model -/
def Cnt (g : Nat → Int32) (nb nc nk : Nat) : Prop := nb ≤ 6 ∧ nc ≤ 4 ∧ nk ≤ 6 ∧ g 0 = nI nb ∧ g 18 = nI nc ∧ g 27 = nI nk
section MT3
variable {S N : Nat → Nat} {d : Nat} {I : IM} {J : JM} {P : PM} {Q : Option Value → IM → JM → PM → Prop} {m : Nat}
theorem credit_loop (hm : MdS S N P m) {nk : Nat} (hnk : nk ≤ 6) (h0 : I (m + 1) 27 = nI nk) {e x dd f : Int32} : ∀ (n k : Nat), k + n = nk → ∀ (l : Int64) (J : JM) (x8 x9 : Option Value), Wp S N (d + 2) MX9_taxOf 181 [some (.ref m), some (.int e), some (.int x), some (.int dd), some (.int f), some (.long l), none, some (.int (nI k)), x8, x9] [] I J P Q ↔ Q (some (.long (Tcr (I (m + 1)) m e x dd f k n l J).1)) I (Tcr (I (m + 1)) m e x dd f k n l J).2 P := by
  have hm0 := hm
  unfold MdS at hm
  have i0 : vp_in (27 : Int32) 89 := vp_in_nI (n := 27) (by decide) (by decide)
  have e0 : (27 : Int32).toNatClampNeg = 27 := rfl
  intro n
  induction n with
  | zero =>
    intro k hk l J x8 x9
    have hk : k = nk := by omega
    subst hk
    simp only [e_X9_taxOf_181, e_X9_taxOf_183, e_X9_taxOf_184, e_X9_taxOf_187, e_X9_taxOf_189, e_X9_taxOf_190, e_X9_taxOf_193, e_X9_taxOf_194, e_X9_taxOf_197, e_X9_taxOf_199, e_X9_taxOf_200, e_X9_taxOf_202, e_X9_taxOf_203, e_X9_taxOf_204, e_X9_taxOf_205, e_X9_taxOf_207, e_X9_taxOf_210, e_X9_taxOf_211, e_X9_taxOf_212, e_X9_taxOf_215, e_X9_taxOf_217, e_X9_taxOf_218, e_X9_taxOf_219, e_X9_taxOf_221, e_X9_taxOf_222, e_X9_taxOf_225, e_X9_taxOf_226, e_X9_taxOf_229, e_X9_taxOf_230, e_X9_taxOf_233, e_X9_taxOf_235, e_X9_taxOf_236, e_X9_taxOf_239, e_X9_taxOf_240, e_X9_taxOf_241, e_X9_taxOf_243, e_X9_taxOf_244, e_X9_taxOf_247, e_X9_taxOf_249, e_X9_taxOf_250, e_X9_taxOf_252, e_X9_taxOf_253, e_X9_taxOf_256, e_X9_taxOf_257, e_X9_taxOf_260, e_X9_taxOf_262, e_X9_taxOf_265, e_X9_taxOf_267, e_X9_taxOf_269, e_X9_taxOf_272, e_X9_taxOf_275, e_X9_taxOf_276, e_X9_taxOf_278, e_X9_taxOf_279, e_X9_taxOf_282, e_X9_taxOf_284, e_X9_taxOf_285, e_X9_taxOf_286, e_X9_taxOf_288, e_X9_taxOf_289, e_X9_taxOf_292, e_X9_taxOf_294, e_X9_taxOf_296, e_X9_taxOf_297, e_X9_taxOf_300, e_X9_taxOf_303, e_X9_taxOf_305, hm, true_and, rf_s, i0, e0, h0, nI_le (Nat.le_refl k) (show k < 2 ^ 31 by omega), not_true_eq_false, true_implies, false_implies, and_true, Tcr]
  | succ n ih =>
    intro k hk l J x8 x9
    have hk6 : k < 6 := by omega
    have g1 : ¬ nI nk ≤ nI k := nI_ge (by omega) (by omega)
    have c0 := fun (d : Nat) (J : JM) (Q : Option Value → IM → JM → PM → Prop) => s_creditOf (S := S) (N := N) (d := d) (I := I) (J := J) (Q := Q) hm0 hk6 (show 0 < 6 by decide)
    simp only [show nI 0 = (0 : Int32) from rfl, Nat.add_zero] at c0
    have cv := fun (d : Nat) (J : JM) (Q : Option Value → IM → JM → PM → Prop) => s_valueOf (S := S) (N := N) (d := d) (I := I) (J := J) (Q := Q) hm0 hk6 (e := e) (x := x) (dd := dd) (f := f)
    rw [e_X9_taxOf_181]
    rw [Tcr]
    have n1 : m + 10 ≠ m + 11 := by omega
    have n21 : ¬ (2 : Int32) = 1 := by decide
    by_cases h2 : I (m + 1) (28 + 6 * k) = 2
    · have h2' : (I (m + 1) (28 + 6 * k) = 2) = True := eq_true h2
      have h1' : (I (m + 1) (28 + 6 * k) = 1) = False := eq_false (by rw [h2]; exact n21)
      simp only [e_X9_taxOf_183, e_X9_taxOf_184, e_X9_taxOf_187, e_X9_taxOf_189, e_X9_taxOf_190, e_X9_taxOf_193, e_X9_taxOf_194, e_X9_taxOf_197, e_X9_taxOf_199, e_X9_taxOf_200, e_X9_taxOf_202, e_X9_taxOf_203, e_X9_taxOf_204, e_X9_taxOf_205, e_X9_taxOf_207, e_X9_taxOf_210, e_X9_taxOf_211, e_X9_taxOf_212, e_X9_taxOf_215, e_X9_taxOf_217, e_X9_taxOf_218, e_X9_taxOf_219, e_X9_taxOf_221, e_X9_taxOf_222, e_X9_taxOf_225, e_X9_taxOf_226, e_X9_taxOf_229, e_X9_taxOf_230, e_X9_taxOf_233, e_X9_taxOf_235, e_X9_taxOf_236, e_X9_taxOf_239, e_X9_taxOf_240, e_X9_taxOf_241, e_X9_taxOf_243, e_X9_taxOf_244, e_X9_taxOf_247, e_X9_taxOf_249, e_X9_taxOf_250, e_X9_taxOf_252, e_X9_taxOf_253, e_X9_taxOf_256, e_X9_taxOf_257, e_X9_taxOf_260, e_X9_taxOf_262, e_X9_taxOf_265, e_X9_taxOf_267, e_X9_taxOf_269, e_X9_taxOf_272, e_X9_taxOf_275, e_X9_taxOf_276, e_X9_taxOf_278, e_X9_taxOf_279, e_X9_taxOf_282, e_X9_taxOf_284, e_X9_taxOf_285, e_X9_taxOf_286, e_X9_taxOf_288, e_X9_taxOf_289, e_X9_taxOf_292, e_X9_taxOf_294, e_X9_taxOf_296, e_X9_taxOf_297, e_X9_taxOf_300, e_X9_taxOf_303, e_X9_taxOf_305, hm, true_and, rf_s, i0, e0, h0, g1, c0, cv, h1', h2', nI_1, nI_clamp (show k < 2 ^ 31 by omega), vp_in_nI (show k < 6 by omega) (show 6 < 2 ^ 31 by decide), not_true_eq_false, not_false_eq_true, true_implies, false_implies, and_true, s_lesser, s_positive, Option.toList, List.cons_append, List.nil_append, kl_i, kl_n, kl_l, kl_r, if_true, if_false, u2s, u2a _ _ _ _ n1]
      exact ih (k + 1) (by omega) _ _ _ _
    · have h2' : (I (m + 1) (28 + 6 * k) = 2) = False := eq_false h2
      by_cases h1 : I (m + 1) (28 + 6 * k) = 1
      · have h1' : (I (m + 1) (28 + 6 * k) = 1) = True := eq_true h1
        simp only [e_X9_taxOf_183, e_X9_taxOf_184, e_X9_taxOf_187, e_X9_taxOf_189, e_X9_taxOf_190, e_X9_taxOf_193, e_X9_taxOf_194, e_X9_taxOf_197, e_X9_taxOf_199, e_X9_taxOf_200, e_X9_taxOf_202, e_X9_taxOf_203, e_X9_taxOf_204, e_X9_taxOf_205, e_X9_taxOf_207, e_X9_taxOf_210, e_X9_taxOf_211, e_X9_taxOf_212, e_X9_taxOf_215, e_X9_taxOf_217, e_X9_taxOf_218, e_X9_taxOf_219, e_X9_taxOf_221, e_X9_taxOf_222, e_X9_taxOf_225, e_X9_taxOf_226, e_X9_taxOf_229, e_X9_taxOf_230, e_X9_taxOf_233, e_X9_taxOf_235, e_X9_taxOf_236, e_X9_taxOf_239, e_X9_taxOf_240, e_X9_taxOf_241, e_X9_taxOf_243, e_X9_taxOf_244, e_X9_taxOf_247, e_X9_taxOf_249, e_X9_taxOf_250, e_X9_taxOf_252, e_X9_taxOf_253, e_X9_taxOf_256, e_X9_taxOf_257, e_X9_taxOf_260, e_X9_taxOf_262, e_X9_taxOf_265, e_X9_taxOf_267, e_X9_taxOf_269, e_X9_taxOf_272, e_X9_taxOf_275, e_X9_taxOf_276, e_X9_taxOf_278, e_X9_taxOf_279, e_X9_taxOf_282, e_X9_taxOf_284, e_X9_taxOf_285, e_X9_taxOf_286, e_X9_taxOf_288, e_X9_taxOf_289, e_X9_taxOf_292, e_X9_taxOf_294, e_X9_taxOf_296, e_X9_taxOf_297, e_X9_taxOf_300, e_X9_taxOf_303, e_X9_taxOf_305, hm, true_and, rf_s, i0, e0, h0, g1, c0, cv, h1', h2', nI_1, nI_clamp (show k < 2 ^ 31 by omega), vp_in_nI (show k < 6 by omega) (show 6 < 2 ^ 31 by decide), not_true_eq_false, not_false_eq_true, true_implies, false_implies, and_true, s_lesser, s_positive, Option.toList, List.cons_append, List.nil_append, kl_i, kl_n, kl_l, kl_r, if_true, if_false, u2s, u2a _ _ _ _ n1]
        exact ih (k + 1) (by omega) _ _ _ _
      · have h1' : (I (m + 1) (28 + 6 * k) = 1) = False := eq_false h1
        simp only [e_X9_taxOf_183, e_X9_taxOf_184, e_X9_taxOf_187, e_X9_taxOf_189, e_X9_taxOf_190, e_X9_taxOf_193, e_X9_taxOf_194, e_X9_taxOf_197, e_X9_taxOf_199, e_X9_taxOf_200, e_X9_taxOf_202, e_X9_taxOf_203, e_X9_taxOf_204, e_X9_taxOf_205, e_X9_taxOf_207, e_X9_taxOf_210, e_X9_taxOf_211, e_X9_taxOf_212, e_X9_taxOf_215, e_X9_taxOf_217, e_X9_taxOf_218, e_X9_taxOf_219, e_X9_taxOf_221, e_X9_taxOf_222, e_X9_taxOf_225, e_X9_taxOf_226, e_X9_taxOf_229, e_X9_taxOf_230, e_X9_taxOf_233, e_X9_taxOf_235, e_X9_taxOf_236, e_X9_taxOf_239, e_X9_taxOf_240, e_X9_taxOf_241, e_X9_taxOf_243, e_X9_taxOf_244, e_X9_taxOf_247, e_X9_taxOf_249, e_X9_taxOf_250, e_X9_taxOf_252, e_X9_taxOf_253, e_X9_taxOf_256, e_X9_taxOf_257, e_X9_taxOf_260, e_X9_taxOf_262, e_X9_taxOf_265, e_X9_taxOf_267, e_X9_taxOf_269, e_X9_taxOf_272, e_X9_taxOf_275, e_X9_taxOf_276, e_X9_taxOf_278, e_X9_taxOf_279, e_X9_taxOf_282, e_X9_taxOf_284, e_X9_taxOf_285, e_X9_taxOf_286, e_X9_taxOf_288, e_X9_taxOf_289, e_X9_taxOf_292, e_X9_taxOf_294, e_X9_taxOf_296, e_X9_taxOf_297, e_X9_taxOf_300, e_X9_taxOf_303, e_X9_taxOf_305, hm, true_and, rf_s, i0, e0, h0, g1, c0, cv, h1', h2', nI_1, nI_clamp (show k < 2 ^ 31 by omega), vp_in_nI (show k < 6 by omega) (show 6 < 2 ^ 31 by decide), not_true_eq_false, not_false_eq_true, true_implies, false_implies, and_true, s_lesser, s_positive, Option.toList, List.cons_append, List.nil_append, kl_i, kl_n, kl_l, kl_r, if_true, if_false, u2s, u2a _ _ _ _ n1]
        exact ih (k + 1) (by omega) _ _ _ _
theorem s_taxOf (hm : MdS S N P m) {nb nc nk : Nat} (hc : Cnt (I (m + 1)) nb nc nk) {e x dd f : Int32} : CWp S N (d + 2) MX9_taxOf [.ref m, .int e, .int x, .int dd, .int f] I J P Q ↔ Q (some (.long (Tcr (I (m + 1)) m e x dd f 0 nk (Tp5 (I (m + 1)) nb nc x f) (Tj (I (m + 1)) m nb nc x f J)).1)) I (Tcr (I (m + 1)) m e x dd f 0 nk (Tp5 (I (m + 1)) nb nc x f) (Tj (I (m + 1)) m nb nc x f J)).2 P := by
  rw [c_X9_taxOf]
  obtain ⟨q1, q2, q3, q4, q5, q6⟩ := hc
  have hm0 := hm
  unfold MdS at hm
  have cs := fun (d : Nat) (J : JM) (Q : Option Value → IM → JM → PM → Prop) (t : Int64) => s_scheduled (S := S) (N := N) (d := d) (I := I) (J := J) (Q := Q) hm0 q1 q4 (t := t) (f := f)
  have cc := fun (d : Nat) (J : JM) (Q : Option Value → IM → JM → PM → Prop) => s_charges (S := S) (N := N) (d := d) (I := I) (J := J) (Q := Q) hm0 q2 q5 (x := x) (f := f)
  have i13 : vp_in (13 : Int32) 89 := vp_in_nI (n := 13) (by decide) (by decide)
  have i14 : vp_in (14 : Int32) 89 := vp_in_nI (n := 14) (by decide) (by decide)
  have i15 : vp_in (15 : Int32) 89 := vp_in_nI (n := 15) (by decide) (by decide)
  have i16 : vp_in (16 : Int32) 89 := vp_in_nI (n := 16) (by decide) (by decide)
  have i17 : vp_in (17 : Int32) 89 := vp_in_nI (n := 17) (by decide) (by decide)
  have j0 : vp_in (0 : Int32) 6 := vp_in_nI (n := 0) (by decide) (by decide)
  have j1 : vp_in (1 : Int32) 6 := vp_in_nI (n := 1) (by decide) (by decide)
  have j2 : vp_in (2 : Int32) 6 := vp_in_nI (n := 2) (by decide) (by decide)
  have j3 : vp_in (3 : Int32) 6 := vp_in_nI (n := 3) (by decide) (by decide)
  have j4 : vp_in (4 : Int32) 6 := vp_in_nI (n := 4) (by decide) (by decide)
  have j5 : vp_in (5 : Int32) 6 := vp_in_nI (n := 5) (by decide) (by decide)
  have e13 : (13 : Int32).toNatClampNeg = 13 := rfl
  have e14 : (14 : Int32).toNatClampNeg = 14 := rfl
  have e15 : (15 : Int32).toNatClampNeg = 15 := rfl
  have e16 : (16 : Int32).toNatClampNeg = 16 := rfl
  have e17 : (17 : Int32).toNatClampNeg = 17 := rfl
  have f0 : (0 : Int32).toNatClampNeg = 0 := rfl
  have f1 : (1 : Int32).toNatClampNeg = 1 := rfl
  have f2 : (2 : Int32).toNatClampNeg = 2 := rfl
  have f3 : (3 : Int32).toNatClampNeg = 3 := rfl
  have f4 : (4 : Int32).toNatClampNeg = 4 := rfl
  have f5 : (5 : Int32).toNatClampNeg = 5 := rfl
  have g23 : (2 : Nat) ≠ 3 := by decide
  by_cases h4 : Tp3 (I (m + 1)) x f < Tp2 (I (m + 1)) nb x f
  · have h4' := h4
    unfold Tp3 Tp2 Tp1 Tp0 at h4'
    simp only [e_X9_taxOf_0, e_X9_taxOf_1, e_X9_taxOf_4, e_X9_taxOf_5, e_X9_taxOf_8, e_X9_taxOf_10, e_X9_taxOf_11, e_X9_taxOf_14, e_X9_taxOf_16, e_X9_taxOf_17, e_X9_taxOf_18, e_X9_taxOf_19, e_X9_taxOf_20, e_X9_taxOf_21, e_X9_taxOf_24, e_X9_taxOf_26, e_X9_taxOf_27, e_X9_taxOf_28, e_X9_taxOf_30, e_X9_taxOf_31, e_X9_taxOf_34, e_X9_taxOf_36, e_X9_taxOf_37, e_X9_taxOf_38, e_X9_taxOf_41, e_X9_taxOf_42, e_X9_taxOf_45, e_X9_taxOf_46, e_X9_taxOf_47, e_X9_taxOf_50, e_X9_taxOf_51, e_X9_taxOf_54, e_X9_taxOf_55, e_X9_taxOf_56, e_X9_taxOf_57, e_X9_taxOf_58, e_X9_taxOf_61, e_X9_taxOf_62, e_X9_taxOf_63, e_X9_taxOf_64, e_X9_taxOf_67, e_X9_taxOf_68, e_X9_taxOf_69, e_X9_taxOf_72, e_X9_taxOf_73, e_X9_taxOf_74, e_X9_taxOf_75, e_X9_taxOf_78, e_X9_taxOf_79, e_X9_taxOf_80, e_X9_taxOf_82, e_X9_taxOf_85, e_X9_taxOf_86, e_X9_taxOf_87, e_X9_taxOf_90, e_X9_taxOf_91, e_X9_taxOf_92, e_X9_taxOf_95, e_X9_taxOf_97, e_X9_taxOf_98, e_X9_taxOf_99, e_X9_taxOf_101, e_X9_taxOf_102, e_X9_taxOf_105, e_X9_taxOf_107, e_X9_taxOf_108, e_X9_taxOf_109, e_X9_taxOf_112, e_X9_taxOf_113, e_X9_taxOf_114, e_X9_taxOf_117, e_X9_taxOf_118, e_X9_taxOf_119, e_X9_taxOf_122, e_X9_taxOf_123, e_X9_taxOf_124, e_X9_taxOf_125, e_X9_taxOf_128, e_X9_taxOf_129, e_X9_taxOf_130, e_X9_taxOf_131, e_X9_taxOf_134, e_X9_taxOf_135, e_X9_taxOf_138, e_X9_taxOf_139, e_X9_taxOf_140, e_X9_taxOf_143, e_X9_taxOf_144, e_X9_taxOf_147, e_X9_taxOf_148, e_X9_taxOf_149, e_X9_taxOf_150, e_X9_taxOf_151, e_X9_taxOf_154, e_X9_taxOf_155, e_X9_taxOf_156, e_X9_taxOf_159, e_X9_taxOf_160, e_X9_taxOf_161, e_X9_taxOf_162, e_X9_taxOf_163, e_X9_taxOf_165, e_X9_taxOf_168, e_X9_taxOf_169, e_X9_taxOf_170, e_X9_taxOf_171, e_X9_taxOf_174, e_X9_taxOf_175, e_X9_taxOf_176, e_X9_taxOf_178, e_X9_taxOf_179, hm, true_and, rf_s, i13, i14, i15, i16, i17, j0, j1, j2, j3, j4, j5, e13, e14, e15, e16, e17, f0, f1, f2, f3, f4, f5, cs, cc, s_above, s_positive, Option.toList, List.cons_append, List.nil_append, kl_i, kl_n, kl_l, kl_r, u2s, u2k _ _ _ g23, lc_le, h4', not_true_eq_false, not_false_eq_true, true_implies, false_implies, and_true]
    have := credit_loop (d := d) (Q := Q) hm0 q3 q6 (e := e) (x := x) (dd := dd) (f := f) nk 0 (by omega) (Tp5 (I (m + 1)) nb nc x f) (Tj (I (m + 1)) m nb nc x f J) none none
    unfold Tj Tp5 Tp4 at this ⊢
    simp only [if_pos h4] at this ⊢
    unfold Tp3 Tp2 Tp1 Tp0 at this ⊢
    exact this
  · have h4' := h4
    unfold Tp3 Tp2 Tp1 Tp0 at h4'
    simp only [e_X9_taxOf_0, e_X9_taxOf_1, e_X9_taxOf_4, e_X9_taxOf_5, e_X9_taxOf_8, e_X9_taxOf_10, e_X9_taxOf_11, e_X9_taxOf_14, e_X9_taxOf_16, e_X9_taxOf_17, e_X9_taxOf_18, e_X9_taxOf_19, e_X9_taxOf_20, e_X9_taxOf_21, e_X9_taxOf_24, e_X9_taxOf_26, e_X9_taxOf_27, e_X9_taxOf_28, e_X9_taxOf_30, e_X9_taxOf_31, e_X9_taxOf_34, e_X9_taxOf_36, e_X9_taxOf_37, e_X9_taxOf_38, e_X9_taxOf_41, e_X9_taxOf_42, e_X9_taxOf_45, e_X9_taxOf_46, e_X9_taxOf_47, e_X9_taxOf_50, e_X9_taxOf_51, e_X9_taxOf_54, e_X9_taxOf_55, e_X9_taxOf_56, e_X9_taxOf_57, e_X9_taxOf_58, e_X9_taxOf_61, e_X9_taxOf_62, e_X9_taxOf_63, e_X9_taxOf_64, e_X9_taxOf_67, e_X9_taxOf_68, e_X9_taxOf_69, e_X9_taxOf_72, e_X9_taxOf_73, e_X9_taxOf_74, e_X9_taxOf_75, e_X9_taxOf_78, e_X9_taxOf_79, e_X9_taxOf_80, e_X9_taxOf_82, e_X9_taxOf_85, e_X9_taxOf_86, e_X9_taxOf_87, e_X9_taxOf_90, e_X9_taxOf_91, e_X9_taxOf_92, e_X9_taxOf_95, e_X9_taxOf_97, e_X9_taxOf_98, e_X9_taxOf_99, e_X9_taxOf_101, e_X9_taxOf_102, e_X9_taxOf_105, e_X9_taxOf_107, e_X9_taxOf_108, e_X9_taxOf_109, e_X9_taxOf_112, e_X9_taxOf_113, e_X9_taxOf_114, e_X9_taxOf_117, e_X9_taxOf_118, e_X9_taxOf_119, e_X9_taxOf_122, e_X9_taxOf_123, e_X9_taxOf_124, e_X9_taxOf_125, e_X9_taxOf_128, e_X9_taxOf_129, e_X9_taxOf_130, e_X9_taxOf_131, e_X9_taxOf_134, e_X9_taxOf_135, e_X9_taxOf_138, e_X9_taxOf_139, e_X9_taxOf_140, e_X9_taxOf_143, e_X9_taxOf_144, e_X9_taxOf_147, e_X9_taxOf_148, e_X9_taxOf_149, e_X9_taxOf_150, e_X9_taxOf_151, e_X9_taxOf_154, e_X9_taxOf_155, e_X9_taxOf_156, e_X9_taxOf_159, e_X9_taxOf_160, e_X9_taxOf_161, e_X9_taxOf_162, e_X9_taxOf_163, e_X9_taxOf_165, e_X9_taxOf_168, e_X9_taxOf_169, e_X9_taxOf_170, e_X9_taxOf_171, e_X9_taxOf_174, e_X9_taxOf_175, e_X9_taxOf_176, e_X9_taxOf_178, e_X9_taxOf_179, hm, true_and, rf_s, i13, i14, i15, i16, i17, j0, j1, j2, j3, j4, j5, e13, e14, e15, e16, e17, f0, f1, f2, f3, f4, f5, cs, cc, s_above, s_positive, Option.toList, List.cons_append, List.nil_append, kl_i, kl_n, kl_l, kl_r, u2s, u2k _ _ _ g23, lc_le, h4', not_true_eq_false, not_false_eq_true, true_implies, false_implies, and_true]
    have := credit_loop (d := d) (Q := Q) hm0 q3 q6 (e := e) (x := x) (dd := dd) (f := f) nk 0 (by omega) (Tp5 (I (m + 1)) nb nc x f) (Tj (I (m + 1)) m nb nc x f J) none none
    unfold Tj Tp5 Tp4 at this ⊢
    simp only [if_neg h4] at this ⊢
    unfold Tp3 Tp2 Tp1 Tp0 at this ⊢
    exact this
end MT3

/-! arithmetic: the class's forms and the model's -/
theorem lN0 : lN 0 = 0 := rfl
theorem lN1000 : lN 1000 = 1000 := rfl
theorem lNM : lN 1000000 = 1000000 := rfl
theorem lN_pos {n : Nat} (h : n < 2 ^ 63) : (0 : Int64) < lN n ↔ 0 < n := pk_lLT (a := 0) (by decide) h
theorem lN_nn {n : Nat} (h : n < 2 ^ 63) : ¬ lN n < 0 := fun z => by
  have := (pk_lLT (b := 0) h (by decide)).mp z
  omega
theorem lmin_eq {x y : Int64} : (if y < x then y else x) = Tles x y := by
  unfold Tles
  by_cases h1 : y < x
  · rw [if_pos h1, if_neg (fun z => absurd (Int64.lt_trans h1 z) Int64.lt_irrefl)]
  · rw [if_neg h1]
    by_cases h2 : x < y
    · rw [if_pos h2]
    · rw [if_neg h2]
      apply Int64.toInt_inj.mp
      rw [Int64.lt_iff_toInt_lt] at h1 h2
      omega
theorem lmax0_eq {y : Int64} : (if y < 0 then 0 else y) = Tpos y := by
  unfold Tpos
  by_cases h1 : y < 0
  · rw [if_pos h1, if_neg (fun z => absurd (Int64.lt_trans h1 z) Int64.lt_irrefl)]
  · rw [if_neg h1]
    by_cases h2 : 0 < y
    · rw [if_pos h2]
    · rw [if_neg h2]
      apply Int64.toInt_inj.mp
      rw [Int64.lt_iff_toInt_lt] at h1 h2
      have : (0 : Int64).toInt = 0 := rfl
      omega
theorem lmax_eq {x y : Int64} : (if y < x then x else y) = if y < x then x else y := rfl
theorem Tpos_sub {a b : Nat} (ha : a < 2 ^ 62) (hb : b < 2 ^ 62) : Tpos (lN a - lN b) = lN (a - b) := by
  unfold Tpos
  by_cases h : b ≤ a
  · rw [lN_sub h]
    by_cases h0 : 0 < a - b
    · rw [if_pos ((lN_pos (by omega)).mpr h0)]
    · rw [if_neg (fun z => h0 ((lN_pos (by omega)).mp z)), show a - b = 0 by omega]; rfl
  · rw [show a - b = 0 by omega]
    have hlt : ¬ (0 : Int64) < lN a - lN b := fun z => by
      have e : lN a - lN b = -(lN (b - a)) := by
        rw [← lN_sub (show a ≤ b by omega)]
        rw [Int64.neg_sub]
      rw [e, Int64.lt_iff_toInt_lt, Int64.toInt_neg, pk_lT (by omega)] at z
      have h0 : (0 : Int64).toInt = 0 := rfl
      rw [h0] at z
      rw [Int.bmod_def] at z
      omega
    rw [if_neg hlt]; rfl
theorem Tles_N {a b : Nat} (ha : a < 2 ^ 63) (hb : b < 2 ^ 63) : Tles (lN a) (lN b) = lN (min a b) := by
  unfold Tles
  by_cases h : a < b
  · rw [if_pos ((pk_lLT ha hb).mpr h), Nat.min_eq_left (by omega)]
  · rw [if_neg (fun z => h ((pk_lLT ha hb).mp z)), Nat.min_eq_right (by omega)]
/-- the share above a start: what the class reckons is the model's -/
theorem abv_eq {X F A R : Nat} (hX : X ≤ 39996) (hF : F ≤ 2) (hA : A ≤ 9999) (hR : R ≤ 999) :
    Tabv (nI R) (nI X) (nI F * nI A) = lN (1000 * (R * (X - F * A))) ∧ (0 < nI X - nI F * nI A ↔ F * A < X) ∧ (F * A < X → ((nI X - nI F * nI A) * nI R).toInt64 * 1000 = lN (1000 * (R * (X - F * A)))) := by
  have hFA : F * A ≤ 2 * 9999 := Nat.mul_le_mul hF hA
  rw [pk_mul]
  refine ⟨?_, ?_, fun h => ?_⟩
  · unfold Tabv
    by_cases h : F * A < X
    · rw [if_pos (nI_lt h (by omega)), pk_sub (by omega), nI_l (by omega), nI_l (by omega), ← lN1000, lN_mul, lN_mul, Nat.mul_assoc]
    · rw [if_neg (nI_nlt (by omega) (by omega)), show X - F * A = 0 by omega]; rfl
  · by_cases h : F * A < X
    · rw [pk_sub (by omega)]
      refine ⟨fun _ => h, fun _ => ?_⟩
      exact nI_lt (a := 0) (by omega) (by omega)
    · refine ⟨fun z => ?_, fun z => absurd z h⟩
      exfalso
      by_cases he : F * A = X
      · rw [he, Int32.sub_self] at z
        exact absurd z (by decide)
      · have := pk_sneg (a := X) (b := F * A) (by omega) (by omega)
        exact absurd (Int32.lt_trans z this) (by decide)
  · have hb : R * (X - F * A) ≤ 999 * 39996 := Nat.mul_le_mul hR (by omega)
    rw [pk_sub (by omega), pk_mul, nI_l (by rw [Nat.mul_comm]; omega), ← lN1000, lN_mul, Nat.mul_comm (X - F * A) R, Nat.mul_comm _ 1000]
/-- a bracket's part -/
theorem part_eq {w v R : Nat} (hw : w ≤ 40000000) (hv : v ≤ 40000000) (hR : R ≤ 999) {s : Int64} :
    (0 < lN (1000 * w) - lN (1000 * v) → s + (lN (1000 * w) - lN (1000 * v)) * (nI R).toInt64 / 1000 = s + Tpos (lN (1000 * w) - lN (1000 * v)) / 1000 * (nI R).toInt64)
    ∧ (¬ 0 < lN (1000 * w) - lN (1000 * v) → s = s + Tpos (lN (1000 * w) - lN (1000 * v)) / 1000 * (nI R).toInt64) := by
  constructor
  · intro h
    have h2 : Tpos (lN (1000 * w) - lN (1000 * v)) = lN (1000 * w) - lN (1000 * v) := if_pos h
    have h3 : Tpos (lN (1000 * w) - lN (1000 * v)) = lN (1000 * w - 1000 * v) := Tpos_sub (by omega) (by omega)
    rw [h2] at h3
    have h4 : v < w := Classical.byContradiction fun z => by
      rw [h3, show 1000 * w - 1000 * v = 0 by omega] at h
      exact absurd h (by decide)
    rw [h2, h3, nI_l (by omega), show 1000 * w - 1000 * v = 1000 * (w - v) by omega]
    have hb : (w - v) * R ≤ 40000000 * 999 := Nat.mul_le_mul (by omega) hR
    rw [lN_mul, ← lN1000, pk_lDiv (by rw [Nat.mul_assoc]; omega) (by decide) (by decide), pk_lDiv (by omega) (by decide) (by decide), lN_mul, Nat.mul_assoc, Nat.mul_div_cancel_left _ (by decide), Nat.mul_div_cancel_left _ (by decide)]
  · intro h
    have h2 : Tpos (lN (1000 * w) - lN (1000 * v)) = 0 := if_neg h
    rw [h2]
    have h3 : (0 : Int64) / 1000 = 0 := by decide
    rw [h3, Int64.zero_mul, Int64.add_zero]
/-- the sum of the charges from k on -/
def ChS (g : Nat → Int32) (x f : Int32) : Nat → Nat → Nat
  | _, 0 => 0
  | k, n + 1 => (if f * g (19 + 2 * k) ≤ x then (g (20 + 2 * k)).toNatClampNeg else 0) + ChS g x f (k + 1) n
theorem ChS_le (g : Nat → Int32) (x f : Int32) : ∀ (n k : Nat), (∀ j, k ≤ j → j < k + n → Bd (g (20 + 2 * j)) 9999) → ChS g x f k n ≤ n * 9999
  | 0, k, h => by simp [ChS]
  | n + 1, k, h => by
    rw [ChS]
    have ih := ChS_le g x f n (k + 1) (fun j h1 h2 => h j (by omega) (by omega))
    obtain ⟨a, ha, e⟩ := h k (Nat.le_refl k) (by omega)
    have : (g (20 + 2 * k)).toNatClampNeg = a := by rw [e]; exact nI_clamp (by omega)
    rw [this]
    split <;> omega
theorem Tchg_eq (g : Nat → Int32) (x f : Int32) : ∀ (n k s : Nat), (∀ j, k ≤ j → j < k + n → Bd (g (20 + 2 * j)) 9999) → Tchg g x f k n (lN (1000000 * s)) = lN (1000000 * (s + ChS g x f k n))
  | 0, k, s, h => by simp [Tchg, ChS]
  | n + 1, k, s, h => by
    rw [Tchg, ChS]
    obtain ⟨a, ha, e⟩ := h k (Nat.le_refl k) (by omega)
    have h1 : (g (20 + 2 * k)).toNatClampNeg = a := by rw [e]; exact nI_clamp (by omega)
    have h2 : (g (20 + 2 * k)).toInt64 = lN a := by rw [e]; exact nI_l (by omega)
    have ih := Tchg_eq g x f n (k + 1) (s + if f * g (19 + 2 * k) ≤ x then a else 0) (fun j h3 h4 => h j (by omega) (by omega))
    rw [h1, h2, ← Nat.add_assoc, ← ih]
    congr 1
    split
    · rw [← lNM, lN_mul, lN_add, Nat.mul_add]
    · rw [Nat.add_zero, Int64.add_zero]
/-- a case's numbers in their ranges -/
def Cs (e x dd f : Int32) : Prop := ∃ E X D F, E ≤ 19998 ∧ X ≤ 39996 ∧ D ≤ 18 ∧ F ≤ 2 ∧ e = nI E ∧ x = nI X ∧ dd = nI D ∧ f = nI F
/-- the rules' numbers in their ranges -/
def Rb (g : Nat → Int32) (nb nc nk : Nat) : Prop :=
  Cnt g nb nc nk ∧ (∀ k, k < nb → Bd (g (1 + 2 * k)) 9999 ∧ Bd (g (2 + 2 * k)) 999) ∧ (∀ j, j < 5 → Bd (g (13 + j)) 9999) ∧ (Bd (g 15) 999 ∧ Bd (g 17) 999) ∧ (∀ k, k < nc → Bd (g (19 + 2 * k)) 9999 ∧ Bd (g (20 + 2 * k)) 9999)
  ∧ (∀ k, k < nk → Bd (g (28 + 6 * k)) 2 ∧ Bd (g (29 + 6 * k)) 9999 ∧ Bd (g (30 + 6 * k)) 999 ∧ Bd (g (31 + 6 * k)) 9999 ∧ Bd (g (32 + 6 * k)) 999 ∧ Bd (g (33 + 6 * k)) 1)
theorem Gd.rb {g : Nat → Int32} {nb nc nk : Nat} (h : Gd g nb nc nk) : Rb g nb nc nk := ⟨h.1, h.2.2.2.1, h.2.2.2.2.1, h.2.2.2.2.2.1, h.2.2.2.2.2.2.1, h.2.2.2.2.2.2.2.1⟩
/-- the allowance left and the taxable income are whole thousands -/
theorem Tp0_eq {g : Nat → Int32} {nb nc nk X F : Nat} (hg : Rb g nb nc nk) (hX : X ≤ 39996) (hF : F ≤ 2) : ∃ u, u ≤ 19998000 ∧ Tp0 g (nI X) (nI F) = lN (1000 * u) := by
  obtain ⟨-, -, h5, ⟨h15, -⟩, -⟩ := hg
  obtain ⟨a, ha, ea⟩ := h5 0 (by decide)
  obtain ⟨b, hb, eb⟩ := h5 1 (by decide)
  obtain ⟨c, hc, ec⟩ := h15
  have hFa : F * a ≤ 2 * 9999 := Nat.mul_le_mul hF ha
  have hbd : c * (X - F * b) ≤ 999 * 39996 := Nat.mul_le_mul hc (by omega)
  refine ⟨1000 * (F * a) - c * (X - F * b), by omega, ?_⟩
  unfold Tp0
  rw [ea, ec, eb, (abv_eq hX hF hb hc).1, pk_mul, nI_l (by omega), ← lNM, lN_mul, Tpos_sub (by omega) (by omega)]
  congr 1
  omega
theorem Tp1_eq {g : Nat → Int32} {nb nc nk X F : Nat} (hg : Rb g nb nc nk) (hX : X ≤ 39996) (hF : F ≤ 2) : ∃ u, u ≤ 39996000 ∧ Tp1 g (nI X) (nI F) = lN (1000 * u) := by
  obtain ⟨u, hu, e⟩ := Tp0_eq hg hX hF
  refine ⟨1000 * X - u, by omega, ?_⟩
  unfold Tp1
  rw [e, nI_l (by omega), ← lNM, lN_mul, Tpos_sub (by omega) (by omega)]
  congr 1
  omega

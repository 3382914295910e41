/-! the model's small methods -/
def MdS (S N : Nat → Nat) (P : PM) (m : Nat) : Prop :=
  S m = 9 ∧ (P m 0 = some (m + 1) ∧ P m 1 = some (m + 2) ∧ P m 2 = some (m + 3) ∧ P m 3 = some (m + 4) ∧ P m 5 = some (m + 5) ∧ P m 6 = some (m + 6) ∧ P m 9 = some (m + 7) ∧ P m 15 = some (m + 8) ∧ P m 16 = some (m + 9) ∧ P m 17 = some (m + 10) ∧ P m 18 = some (m + 11) ∧ P m 19 = some (m + 12) ∧ P m 20 = some (m + 13) ∧ P m 22 = some (m + 14))
  ∧ (S (m + 1) = 10 ∧ S (m + 2) = 11 ∧ S (m + 3) = 10 ∧ S (m + 4) = 11 ∧ S (m + 5) = 10 ∧ S (m + 6) = 11 ∧ S (m + 7) = 10 ∧ S (m + 8) = 10 ∧ S (m + 9) = 11 ∧ S (m + 10) = 11 ∧ S (m + 11) = 11 ∧ S (m + 12) = 11 ∧ S (m + 13) = 11 ∧ S (m + 14) = 11)
  ∧ (N (m + 1) = 89 ∧ N (m + 2) = 36 ∧ N (m + 3) = 89 ∧ N (m + 4) = 36 ∧ N (m + 5) = 534 ∧ N (m + 6) = 216 ∧ N (m + 7) = 80 ∧ N (m + 8) = 89 ∧ N (m + 9) = 6 ∧ N (m + 10) = 6 ∧ N (m + 11) = 6 ∧ N (m + 12) = 6 ∧ N (m + 13) = 6 ∧ N (m + 14) = 36)
theorem br_iff {c : Prop} [Decidable c] {α : Sort _} {F : α → Prop} {a b : α} : ((c → F a) ∧ (¬ c → F b)) ↔ F (if c then a else b) := by
  by_cases h : c
  · simp [h]
  · simp [h]
theorem nbr_iff {c : Prop} [Decidable c] {α : Sort _} {F : α → Prop} {a b : α} : ((¬ c → F a) ∧ (c → F b)) ↔ F (if c then b else a) := by
  by_cases h : c
  · simp [h]
  · simp [h]
section MT1
variable {S N : Nat → Nat} {d : Nat} {I : IM} {J : JM} {P : PM} {Q : Option Value → IM → JM → PM → Prop} {m : Nat}
theorem s_in {v lo hi : Int32} : CWp S N d MX9_in [.int v, .int lo, .int hi] I J P Q ↔ Q (some (.int (if lo ≤ v ∧ v ≤ hi then 1 else 0))) I J P := by
  rw [c_X9_in]
  simp only [e_X9_in_0, e_X9_in_1, e_X9_in_2, e_X9_in_5, e_X9_in_6, e_X9_in_7, e_X9_in_10, e_X9_in_11, e_X9_in_14, e_X9_in_15 isB0, e_X9_in_15 isB1, e_X9_in_15 isB_ite]
  by_cases h1 : v < lo
  · have h2 : ¬ lo ≤ v := Int32.not_le.mpr h1
    simp [h1, h2]
  · have h2 : lo ≤ v := Int32.not_lt.mp h1
    by_cases h3 : hi < v
    · have h4 : ¬ v ≤ hi := Int32.not_le.mpr h3
      simp [h1, h2, h3, h4]
    · have h4 : v ≤ hi := Int32.not_lt.mp h3
      simp [h1, h2, h3, h4]
theorem s_isPerson {v : Int32} : CWp S N (d + 1) MX9_isPerson [.int v] I J P Q ↔ Q (some (.int (if 0 ≤ v ∧ v ≤ 5 then 1 else 0))) I J P := by
  rw [c_X9_isPerson]
  simp only [e_X9_isPerson_0, e_X9_isPerson_1, e_X9_isPerson_2, e_X9_isPerson_3, e_X9_isPerson_6 isB0, e_X9_isPerson_6 isB1, e_X9_isPerson_6 isB_ite, s_in, Option.toList, List.singleton_append, List.cons_append, List.nil_append]
theorem s_fails (hm : MdS S N P m) {v : Int32} : CWp S N d MX9_fails [.ref m, .int v] I J P Q ↔ Q (some (.int 0)) (u2 I m 8 v) J P := by
  unfold MdS at hm
  rw [c_X9_fails]
  simp only [e_X9_fails_0, e_X9_fails_1, e_X9_fails_2, e_X9_fails_5, e_X9_fails_6, hm, true_and]
theorem s_thrown (hm : MdS S N P m) : CWp S N d MX9_thrown [.ref m] I J P Q ↔ Q (some (.int (I m 8))) I J P := by
  unfold MdS at hm
  rw [c_X9_thrown]
  simp only [e_X9_thrown_0, e_X9_thrown_1, e_X9_thrown_4, hm, true_and]
theorem s_here (hm : MdS S N P m) (h : ¬ I m 11 < 0) (h2 : I m 10 ≤ 80) : CWp S N d MX9_here [.ref m] I J P Q ↔ Q (some (.int (if I m 11 < I m 10 then I (m + 7) (I m 11).toNatClampNeg else -1))) I J P := by
  unfold MdS at hm
  rw [c_X9_here]
  simp only [e_X9_here_0, e_X9_here_1, e_X9_here_4, e_X9_here_5, e_X9_here_8, e_X9_here_11, e_X9_here_12, e_X9_here_15, e_X9_here_16, e_X9_here_19, e_X9_here_20, e_X9_here_23, e_X9_here_24, hm, true_and, rf_s]
  by_cases h1 : I m 11 < I m 10
  · have h3 : ¬ I m 10 ≤ I m 11 := Int32.not_le.mpr h1
    have h4 : vp_in (I m 11) 80 := by
      rw [vp_in_iff]
      rw [Int32.lt_iff_toInt_lt] at h h1
      rw [Int32.le_iff_toInt_le] at h2
      have e1 : (0 : Int32).toInt = 0 := rfl
      have e2 : (80 : Int32).toInt = 80 := rfl
      omega
    simp [h1, h3, h4]
  · have h3 : I m 10 ≤ I m 11 := Int32.not_lt.mp h1
    simp [h1, h3]
theorem s_creditOf (hm : MdS S N P m) {k j : Nat} (hk : k < 6) (hj : j < 6) : CWp S N d MX9_creditOf [.ref m, .int (nI k), .int (nI j)] I J P Q ↔ Q (some (.int (I (m + 1) (28 + 6 * k + j)))) I J P := by
  unfold MdS at hm
  rw [c_X9_creditOf]
  have e : (28 : Int32) + 6 * nI k + nI j = nI (28 + 6 * k + j) := by
    rw [show (28 : Int32) = nI 28 from rfl, show (6 : Int32) = nI 6 from rfl, pk_mul, nI_add, nI_add]
  simp only [e_X9_creditOf_0, e_X9_creditOf_1, e_X9_creditOf_4, e_X9_creditOf_6, e_X9_creditOf_8, e_X9_creditOf_9, e_X9_creditOf_10, e_X9_creditOf_11, e_X9_creditOf_12, e_X9_creditOf_13, e_X9_creditOf_14, hm, true_and, rf_s, e, nI_clamp (show 28 + 6 * k + j < 2 ^ 31 by omega), vp_in_nI (show 28 + 6 * k + j < 89 by omega) (by decide)]
end MT1

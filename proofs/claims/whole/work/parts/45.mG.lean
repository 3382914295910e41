/-! the model's reader of texts -/
def bI (b : Bool) : Int32 := if b then 1 else 0
/-- digits from s on, at most f of them: their number, the place behind them -/
def Dg (c : Nat → Int32) (n : Nat) : Nat → Nat → Nat → Nat × Nat
  | 0, s, a => (a, s)
  | f + 1, s, a => if s < n ∧ 48 ≤ c s ∧ c s ≤ 57 then Dg c n f (s + 1) (10 * a + (c s).toNatClampNeg - 48) else (a, s)
def NumF (c : Nat → Int32) (n s : Nat) : Option Nat × Nat := if (Dg c n 4 s 0).2 = s then (none, s) else (some (Dg c n 4 s 0).1, (Dg c n 4 s 0).2)
/-- r numbers more, the next is the k-th -/
def LsF (c : Nat → Int32) (n : Nat) : Nat → Nat → Nat → Option (List Nat) × Nat
  | _, 0, s => (some [], s)
  | k, r + 1, s => if 0 < k ∧ ¬ (s < n ∧ c s = 44) then (none, s) else match NumF c n (if 0 < k then s + 1 else s) with
    | (none, s1) => (none, s1)
    | (some v, s1) => match LsF c n (k + 1) r s1 with
      | (none, s2) => (none, s2)
      | (some l, s2) => (some (v :: l), s2)
def PrF (c : Nat → Int32) (n : Nat) : Nat → Nat → Option (List Nat) × Nat
  | 0, s => (none, s)
  | f + 1, s => match NumF c n s with
    | (none, s1) => (none, s1)
    | (some a, s1) => if s1 < n ∧ c s1 = 58 then (match NumF c n (s1 + 1) with
        | (none, s2) => (none, s2)
        | (some b, s2) => if s2 < n ∧ c s2 = 44 then (match PrF c n f (s2 + 1) with
            | (none, s3) => (none, s3)
            | (some l, s3) => (some (a :: b :: l), s3)) else (some [a, b], s2)) else (none, s1)
theorem Dg_le (c : Nat → Int32) (n : Nat) : ∀ (f s a : Nat), s ≤ n → s ≤ (Dg c n f s a).2 ∧ (Dg c n f s a).2 ≤ n
  | 0, s, a, h => ⟨Nat.le_refl _, h⟩
  | f + 1, s, a, h => by
    rw [Dg]
    split
    · next hc =>
      have := Dg_le c n f (s + 1) (10 * a + (c s).toNatClampNeg - 48) (by omega)
      omega
    · exact ⟨Nat.le_refl _, h⟩
theorem dig_of {x : Int32} (h : 48 ≤ x ∧ x ≤ 57) : ∃ q, 48 ≤ q ∧ q ≤ 57 ∧ x = nI q := by
  have h1 := Int32.le_iff_toInt_le.mp h.1
  have h2 := Int32.le_iff_toInt_le.mp h.2
  have e1 : (48 : Int32).toInt = 48 := rfl
  have e2 : (57 : Int32).toInt = 57 := rfl
  refine ⟨x.toInt.toNat, by omega, by omega, ?_⟩
  apply Int32.toInt_inj.mp
  rw [nI_toInt (by omega)]
  omega
theorem Dg_v (c : Nat → Int32) (n : Nat) : ∀ (f s a i : Nat), a < 10 ^ i → (Dg c n f s a).1 < 10 ^ (i + f)
  | 0, s, a, i, h => h
  | f + 1, s, a, i, h => by
    rw [Dg]
    split
    · next hc =>
      obtain ⟨q, h1, h2, h3⟩ := dig_of hc.2
      have h9 : 10 * a + (c s).toNatClampNeg - 48 < 10 ^ (i + 1) := by
        rw [h3, nI_clamp (by omega), Nat.pow_succ]
        omega
      have := Dg_v c n f (s + 1) _ (i + 1) h9
      rw [show i + 1 + f = i + (f + 1) by omega] at this
      exact this
    · exact Nat.lt_of_lt_of_le h (Nat.pow_le_pow_right (by decide) (by omega))
theorem NumF_le {c : Nat → Int32} {n s : Nat} (h : s ≤ n) : s ≤ (NumF c n s).2 ∧ (NumF c n s).2 ≤ n := by
  unfold NumF
  split
  · exact ⟨Nat.le_refl _, h⟩
  · exact Dg_le c n 4 s 0 h
theorem NumF_lt {c : Nat → Int32} {n s v s1 : Nat} (h : s ≤ n) (e : NumF c n s = (some v, s1)) : s < s1 ∧ s1 ≤ n ∧ v < 10000 := by
  unfold NumF at e
  split at e
  · cases e
  · next hne =>
    cases e
    have h1 := Dg_le c n 4 s 0 h
    have h2 := Dg_v c n 4 s 0 0 (by decide)
    exact ⟨by omega, h1.2, h2⟩
/-- the reader's state -/
def TS (m : Nat) (I : IM) (c : Nat → Int32) (n s : Nat) (o : Bool) (t : Nat → Int32) : Prop := I (m + 7) = c ∧ I m 10 = nI n ∧ I m 11 = nI s ∧ I m 14 = bI o ∧ I (m + 8) = t ∧ s ≤ n ∧ n ≤ 80
def Pf (m : Nat) (I I' : IM) : Prop := (∀ a, a ≠ m → a ≠ m + 8 → I' a = I a) ∧ ∀ k, k ≠ 11 → k ≠ 12 → k ≠ 14 → I' m k = I m k
theorem Pf.rf {m : Nat} {I : IM} : Pf m I I := ⟨fun _ _ _ => rfl, fun _ _ _ _ => rfl⟩
theorem Pf.tr {m : Nat} {I I' I'' : IM} (h : Pf m I I') (h2 : Pf m I' I'') : Pf m I I'' := ⟨fun a h3 h4 => (h2.1 a h3 h4).trans (h.1 a h3 h4), fun k h3 h4 h5 => (h2.2 k h3 h4 h5).trans (h.2 k h3 h4 h5)⟩
theorem Pf.u {m : Nat} {I : IM} {k : Nat} (v : Int32) (h : k = 11 ∨ k = 12 ∨ k = 14) : Pf m I (u2 I m k v) := ⟨fun a h1 _ => u2_off _ _ _ h1, fun j h1 h2 h3 => u2k _ _ _ (by omega)⟩
theorem Pf.w {m : Nat} {I : IM} (k : Nat) (v : Int32) : Pf m I (u2 I (m + 8) k v) := ⟨fun a _ h2 => u2_off _ _ _ h2, fun j _ _ _ => by rw [u2_off _ _ _ (by omega)]⟩
theorem TS.s {m : Nat} {I : IM} {c : Nat → Int32} {n s s' : Nat} {o : Bool} {t : Nat → Int32} (h : TS m I c n s o t) (hs : s' ≤ n) : TS m (u2 I m 11 (nI s')) c n s' o t := by
  obtain ⟨h1, h2, h3, h4, h5, h6, h7⟩ := h
  exact ⟨by rw [u2_off _ _ _ (by omega)]; exact h1, by rw [u2k _ _ _ (by decide)]; exact h2, u2s _ _ _ _, by rw [u2k _ _ _ (by decide)]; exact h4, by rw [u2_off _ _ _ (by omega)]; exact h5, hs, h7⟩
theorem TS.v {m : Nat} {I : IM} {c : Nat → Int32} {n s : Nat} {o : Bool} {t : Nat → Int32} (h : TS m I c n s o t) (v : Int32) : TS m (u2 I m 12 v) c n s o t := by
  obtain ⟨h1, h2, h3, h4, h5, h6, h7⟩ := h
  exact ⟨by rw [u2_off _ _ _ (by omega)]; exact h1, by rw [u2k _ _ _ (by decide)]; exact h2, by rw [u2k _ _ _ (by decide)]; exact h3, by rw [u2k _ _ _ (by decide)]; exact h4, by rw [u2_off _ _ _ (by omega)]; exact h5, h6, h7⟩
theorem TS.o {m : Nat} {I : IM} {c : Nat → Int32} {n s : Nat} {o : Bool} {t : Nat → Int32} (h : TS m I c n s o t) (o' : Bool) : TS m (u2 I m 14 (bI o')) c n s o' t := by
  obtain ⟨h1, h2, h3, h4, h5, h6, h7⟩ := h
  exact ⟨by rw [u2_off _ _ _ (by omega)]; exact h1, by rw [u2k _ _ _ (by decide)]; exact h2, by rw [u2k _ _ _ (by decide)]; exact h3, u2s _ _ _ _, by rw [u2_off _ _ _ (by omega)]; exact h5, h6, h7⟩
theorem TS.w {m : Nat} {I : IM} {c : Nat → Int32} {n s : Nat} {o : Bool} {t : Nat → Int32} (h : TS m I c n s o t) (k : Nat) (v : Int32) : TS m (u2 I (m + 8) k v) c n s o (fun y => if y = k then v else t y) := by
  obtain ⟨h1, h2, h3, h4, h5, h6, h7⟩ := h
  exact ⟨by rw [u2_off _ _ _ (by omega)]; exact h1, by rw [u2_off _ _ _ (by omega)]; exact h2, by rw [u2_off _ _ _ (by omega)]; exact h3, by rw [u2_off _ _ _ (by omega)]; exact h4, by rw [u2_row, h5], h6, h7⟩
/-- which of the numbers are rates above 999 -/
def OdL (rates : Int32) : Nat → List Nat → Bool
  | _, [] => false
  | k, v :: l => (decide (rates >>> (nI k &&& 31) &&& 1 = 1) && decide (999 < v)) || OdL rates (k + 1) l
def PutL : Nat → List Nat → (Nat → Int32) → (Nat → Int32)
  | _, [], t => t
  | x, v :: l, t => PutL (x + 1) l (fun y => if y = x then nI v else t y)
section MTG
variable {S N : Nat → Nat} {d : Nat} {I : IM} {J : JM} {P : PM} {Q : Option Value → IM → JM → PM → Prop} {m : Nat} {c : Nat → Int32} {n s : Nat} {o : Bool} {t : Nat → Int32}
theorem s_hereT (hm : MdS S N P m) (ht : TS m I c n s o t) : CWp S N d MX9_here [.ref m] I J P Q ↔ Q (some (.int (if s < n then c s else -1))) I J P := by
  obtain ⟨h1, h2, h3, h4, h5, h6, h7⟩ := ht
  rw [s_here hm (by rw [h3]; exact nI_pos (by omega)) (by rw [h2]; exact nI_le (b := 80) h7 (by decide)), h1, h2, h3, nI_clamp (by omega)]
  by_cases hs : s < n
  · rw [if_pos hs, if_pos (nI_lt hs (by omega))]
  · rw [if_neg hs, if_neg (nI_nlt (by omega) (by omega))]
theorem s_skipY (hm : MdS S N P m) (ht : TS m I c n s o t) {x : Int32} (hy : s < n ∧ c s = x) (hq : ∀ I', TS m I' c n (s + 1) o t → Pf m I I' → Q (some (.int 1)) I' J P) : CWp S N (d + 1) MX9_skips [.ref m, .int x] I J P Q := by
  rw [c_X9_skips]
  have hm0 := hm
  unfold MdS at hm
  have q := hq _ (ht.s (s' := s + 1) (by have := hy.1; omega)) (Pf.u _ (Or.inl rfl))
  have h3 := ht.2.2.1
  have hx := hy.2
  subst hx
  simp only [e_X9_skips_0, e_X9_skips_1, e_X9_skips_4, e_X9_skips_5, e_X9_skips_8, e_X9_skips_9 isB0, e_X9_skips_9 isB1, e_X9_skips_9 isB_ite, e_X9_skips_10, e_X9_skips_11, e_X9_skips_12, e_X9_skips_15, e_X9_skips_16, e_X9_skips_17, e_X9_skips_20, e_X9_skips_21 isB0, e_X9_skips_21 isB1, e_X9_skips_21 isB_ite, s_hereT hm0 ht, hm, if_pos hy.1, h3, nI_1, true_and, and_true, rf_s, not_true_eq_false, not_false_eq_true, true_implies, false_implies, kl_i, kl_n, kl_l, kl_r, Option.toList, List.cons_append, List.nil_append, if_true, if_false, u2s, lt00, lt01, lt02, lt03, le10, le20, le30, ne10, ne20, ne30, eq00]
  exact q
theorem s_skipN (hm : MdS S N P m) (ht : TS m I c n s o t) {x : Int32} (h0 : 0 ≤ x) (hy : ¬ (s < n ∧ c s = x)) : CWp S N (d + 1) MX9_skips [.ref m, .int x] I J P Q ↔ Q (some (.int 0)) I J P := by
  rw [c_X9_skips]
  have hm0 := hm
  unfold MdS at hm
  have hne : ((if s < n then c s else -1) = x) = False := eq_false (fun z => by
    by_cases hs : s < n
    · rw [if_pos hs] at z
      exact hy ⟨hs, z⟩
    · rw [if_neg hs] at z
      rw [← z] at h0
      exact absurd h0 (by decide))
  simp only [e_X9_skips_0, e_X9_skips_1, e_X9_skips_4, e_X9_skips_5, e_X9_skips_8, e_X9_skips_9 isB0, e_X9_skips_9 isB1, e_X9_skips_9 isB_ite, s_hereT hm0 ht, hm, hne, true_and, and_true, rf_s, not_true_eq_false, not_false_eq_true, true_implies, false_implies, kl_i, kl_n, kl_l, kl_r, Option.toList, List.cons_append, List.nil_append, if_true, if_false, u2s, lt00, lt01, lt02, lt03, le10, le20, le30, ne10, ne20, ne30, eq00]
theorem num_loop (hm : MdS S N P m) : ∀ (f k : Nat), k + f = 4 → ∀ (I : IM) (s a : Nat), TS m I c n s o t → I m 12 = nI a → (∀ I', TS m I' c n (Dg c n f s a).2 o t → Pf m I I' → I' m 12 = nI (Dg c n f s a).1 → ∀ k', k + ((Dg c n f s a).2 - s) = k' → k' ≤ 4 → Wp S N (d + 1) MX9_number 61 [some (.ref m), some (.int (nI k'))] [] I' J P Q) →
    Wp S N (d + 1) MX9_number 7 [some (.ref m), some (.int (nI k))] [] I J P Q := by
  have hm0 := hm
  unfold MdS at hm
  intro f
  induction f with
  | zero =>
    intro k hk I s a ht ha hq
    have hk : k = 4 := by omega
    subst hk
    have g1 : (4 : Int32) ≤ nI 4 := by decide
    simp only [e_X9_number_7, e_X9_number_8, e_X9_number_9, g1, true_and, and_true, rf_s, not_true_eq_false, not_false_eq_true, true_implies, false_implies, kl_i, kl_n, kl_l, kl_r, Option.toList, List.cons_append, List.nil_append, if_true, if_false, u2s, lt00, lt01, lt02, lt03, le10, le20, le30, ne10, ne20, ne30, eq00]
    exact hq I ht Pf.rf ha 4 (by rw [Dg]; omega) (by decide)
  | succ f ih =>
    intro k hk I s a ht ha hq
    have g1 : ¬ (4 : Int32) ≤ nI k := nI_ge (b := 4) (by omega) (by decide)
    rw [Dg] at hq
    by_cases hs : s < n
    · by_cases hd : 48 ≤ c s ∧ c s ≤ 57
      · rw [if_pos ⟨hs, hd⟩] at hq
        obtain ⟨q, q1, q2, q3⟩ := dig_of hd
        have hd' := eq_true hd
        have ha2 : (10 : Int32) * nI a + c s - 48 = nI (10 * a + (c s).toNatClampNeg - 48) := by
          rw [q3, nI_clamp (by omega), show (10 : Int32) = nI 10 from rfl, pk_mul, nI_add, show (48 : Int32) = nI 48 from rfl, pk_sub (by omega)]
        have h3 := ht.2.2.1
        have h3' : ∀ v : Int32, (u2 I m 12 v) m 11 = nI s := fun v => by rw [u2k _ _ _ (by decide)]; exact h3
        rw [e_X9_number_7]
        simp only [e_X9_number_8, e_X9_number_9, e_X9_number_12, e_X9_number_13, e_X9_number_16, e_X9_number_18, e_X9_number_20, e_X9_number_23, e_X9_number_26, e_X9_number_27, e_X9_number_29, e_X9_number_30, e_X9_number_33, e_X9_number_34, e_X9_number_35, e_X9_number_38, e_X9_number_39, e_X9_number_41, e_X9_number_42, e_X9_number_45, e_X9_number_46, e_X9_number_47, e_X9_number_50, e_X9_number_51, e_X9_number_52, e_X9_number_55, e_X9_number_58, s_hereT hm0 ht, s_in, hm, g1, if_pos hs, hd', ha, ha2, h3', nI_1, true_and, and_true, rf_s, not_true_eq_false, not_false_eq_true, true_implies, false_implies, kl_i, kl_n, kl_l, kl_r, Option.toList, List.cons_append, List.nil_append, if_true, if_false, u2s, lt00, lt01, lt02, lt03, le10, le20, le30, ne10, ne20, ne30, eq00]
        refine ih (k + 1) (by omega) _ (s + 1) (10 * a + (c s).toNatClampNeg - 48) ((ht.v _).s (by omega)) (by rw [u2k _ _ _ (by decide), u2s]) (fun I' a1 a2 a3 k' a4 a5 => hq I' a1 (((Pf.u _ (Or.inr (Or.inl rfl))).tr (Pf.u _ (Or.inl rfl))).tr a2) a3 k' ?_ a5)
        have := (Dg_le c n f (s + 1) (10 * a + (c s).toNatClampNeg - 48) (by omega)).1
        omega
      · rw [if_neg (fun z => hd z.2)] at hq
        have hd' := eq_false hd
        rw [e_X9_number_7]
        simp only [e_X9_number_8, e_X9_number_9, e_X9_number_12, e_X9_number_13, e_X9_number_16, e_X9_number_18, e_X9_number_20, e_X9_number_23, e_X9_number_26, e_X9_number_27, e_X9_number_29, e_X9_number_30, e_X9_number_33, e_X9_number_34, e_X9_number_35, e_X9_number_38, e_X9_number_39, e_X9_number_41, e_X9_number_42, e_X9_number_45, e_X9_number_46, e_X9_number_47, e_X9_number_50, e_X9_number_51, e_X9_number_52, e_X9_number_55, e_X9_number_58, s_hereT hm0 ht, s_in, hm, g1, if_pos hs, hd', true_and, and_true, rf_s, not_true_eq_false, not_false_eq_true, true_implies, false_implies, kl_i, kl_n, kl_l, kl_r, Option.toList, List.cons_append, List.nil_append, if_true, if_false, u2s, lt00, lt01, lt02, lt03, le10, le20, le30, ne10, ne20, ne30, eq00]
        exact hq I ht Pf.rf ha k (by omega) (by omega)
    · rw [if_neg (fun z => hs z.1)] at hq
      have hd' : ((48 : Int32) ≤ -1 ∧ (-1 : Int32) ≤ 57) = False := by decide
      rw [e_X9_number_7]
      simp only [e_X9_number_8, e_X9_number_9, e_X9_number_12, e_X9_number_13, e_X9_number_16, e_X9_number_18, e_X9_number_20, e_X9_number_23, e_X9_number_26, e_X9_number_27, e_X9_number_29, e_X9_number_30, e_X9_number_33, e_X9_number_34, e_X9_number_35, e_X9_number_38, e_X9_number_39, e_X9_number_41, e_X9_number_42, e_X9_number_45, e_X9_number_46, e_X9_number_47, e_X9_number_50, e_X9_number_51, e_X9_number_52, e_X9_number_55, e_X9_number_58, s_hereT hm0 ht, s_in, hm, g1, if_neg hs, hd', true_and, and_true, rf_s, not_true_eq_false, not_false_eq_true, true_implies, false_implies, kl_i, kl_n, kl_l, kl_r, Option.toList, List.cons_append, List.nil_append, if_true, if_false, u2s, lt00, lt01, lt02, lt03, le10, le20, le30, ne10, ne20, ne30, eq00]
      exact hq I ht Pf.rf ha k (by omega) (by omega)
theorem s_number (hm : MdS S N P m) (ht : TS m I c n s o t) (hq : ∀ I', TS m I' c n (NumF c n s).2 o t → Pf m I I' → (∀ v, (NumF c n s).1 = some v → I' m 12 = nI v) → Q (some (.int (bI (NumF c n s).1.isSome))) I' J P) : CWp S N (d + 1) MX9_number [.ref m] I J P Q := by
  rw [c_X9_number]
  have hm0 := hm
  unfold MdS at hm
  simp only [e_X9_number_0, e_X9_number_1, e_X9_number_2, e_X9_number_5, e_X9_number_6, hm, true_and, and_true, rf_s, not_true_eq_false, not_false_eq_true, true_implies, false_implies, kl_i, kl_n, kl_l, kl_r, Option.toList, List.cons_append, List.nil_append, if_true, if_false, u2s, lt00, lt01, lt02, lt03, le10, le20, le30, ne10, ne20, ne30, eq00]
  refine num_loop hm0 4 0 rfl _ s 0 (ht.v 0) (u2s _ _ _ _) (fun I1 a1 a2 a3 k' a4 a5 => ?_)
  have hle := (Dg_le c n 4 s 0 ht.2.2.2.2.2.1).1
  unfold NumF at hq
  by_cases he : (Dg c n 4 s 0).2 = s
  · simp only [if_pos he] at hq
    have hk : k' = 0 := by omega
    subst hk
    rw [he] at a1
    have g1 : nI 0 ≤ (0 : Int32) := by decide
    simp only [e_X9_number_61, e_X9_number_62, e_X9_number_65, e_X9_number_66, e_X9_number_69, e_X9_number_70 isB0, e_X9_number_70 isB1, e_X9_number_70 isB_ite, g1, true_and, and_true, rf_s, not_true_eq_false, not_false_eq_true, true_implies, false_implies, kl_i, kl_n, kl_l, kl_r, Option.toList, List.cons_append, List.nil_append, if_true, if_false, u2s, lt00, lt01, lt02, lt03, le10, le20, le30, ne10, ne20, ne30, eq00]
    exact hq I1 a1 ((Pf.u _ (Or.inr (Or.inl rfl))).tr a2) (fun v hv => by cases hv)
  · simp only [if_neg he] at hq
    have g1 : ¬ nI k' ≤ (0 : Int32) := nI_nle (by omega) (by omega)
    simp only [e_X9_number_61, e_X9_number_62, e_X9_number_65, e_X9_number_66, e_X9_number_69, e_X9_number_70 isB0, e_X9_number_70 isB1, e_X9_number_70 isB_ite, g1, true_and, and_true, rf_s, not_true_eq_false, not_false_eq_true, true_implies, false_implies, kl_i, kl_n, kl_l, kl_r, Option.toList, List.cons_append, List.nil_append, if_true, if_false, u2s, lt00, lt01, lt02, lt03, le10, le20, le30, ne10, ne20, ne30, eq00]
    exact hq I1 a1 ((Pf.u _ (Or.inr (Or.inl rfl))).tr a2) (fun v hv => by cases hv; exact a3)
theorem s_rate (hm : MdS S N P m) (ht : TS m I c n s o t) {v : Nat} (hv : v < 10000) (h12 : I m 12 = nI v) (hq : ∀ I', TS m I' c n s (o || decide (999 < v)) t → Pf m I I' → I' m 12 = nI v → Q none I' J P) : CWp S N d MX9_rate [.ref m] I J P Q := by
  rw [c_X9_rate]
  have hm0 := hm
  unfold MdS at hm
  have q := hq _ (ht.o (o || decide (999 < v))) (Pf.u _ (Or.inr (Or.inr rfl))) (by rw [u2k _ _ _ (by decide)]; exact h12)
  have h4 := ht.2.2.2.1
  cases o with
  | true =>
    have e : bI (true || decide (999 < v)) = 1 := by rw [Bool.true_or]; rfl
    rw [e] at q
    have h4' : I m 14 = 1 := h4
    simp only [e_X9_rate_0, e_X9_rate_1, e_X9_rate_2, e_X9_rate_5, e_X9_rate_8, e_X9_rate_9, e_X9_rate_12, e_X9_rate_15, e_X9_rate_18, e_X9_rate_19, e_X9_rate_22, e_X9_rate_23 isB0, e_X9_rate_23 isB1, e_X9_rate_23 isB_ite, e_X9_rate_26, hm, h4', true_and, and_true, rf_s, not_true_eq_false, not_false_eq_true, true_implies, false_implies, kl_i, kl_n, kl_l, kl_r, Option.toList, List.cons_append, List.nil_append, if_true, if_false, u2s, lt00, lt01, lt02, lt03, le10, le20, le30, ne10, ne20, ne30, eq00]
    exact q
  | false =>
    have h4' : I m 14 = 0 := h4
    by_cases hlt : 999 < v
    · have e : bI (false || decide (999 < v)) = 1 := by rw [Bool.false_or, decide_eq_true hlt]; rfl
      rw [e] at q
      have g1 : ¬ nI v ≤ (999 : Int32) := nI_ge (a := 999) hlt (by omega)
      simp only [e_X9_rate_0, e_X9_rate_1, e_X9_rate_2, e_X9_rate_5, e_X9_rate_8, e_X9_rate_9, e_X9_rate_12, e_X9_rate_15, e_X9_rate_18, e_X9_rate_19, e_X9_rate_22, e_X9_rate_23 isB0, e_X9_rate_23 isB1, e_X9_rate_23 isB_ite, e_X9_rate_26, hm, h4', h12, g1, true_and, and_true, rf_s, not_true_eq_false, not_false_eq_true, true_implies, false_implies, kl_i, kl_n, kl_l, kl_r, Option.toList, List.cons_append, List.nil_append, if_true, if_false, u2s, lt00, lt01, lt02, lt03, le10, le20, le30, ne10, ne20, ne30, eq00]
      exact q
    · have e : bI (false || decide (999 < v)) = 0 := by rw [Bool.false_or, decide_eq_false hlt]; rfl
      rw [e] at q
      have g1 : nI v ≤ (999 : Int32) := nI_le (b := 999) (by omega) (by decide)
      simp only [e_X9_rate_0, e_X9_rate_1, e_X9_rate_2, e_X9_rate_5, e_X9_rate_8, e_X9_rate_9, e_X9_rate_12, e_X9_rate_15, e_X9_rate_18, e_X9_rate_19, e_X9_rate_22, e_X9_rate_23 isB0, e_X9_rate_23 isB1, e_X9_rate_23 isB_ite, e_X9_rate_26, hm, h4', h12, g1, true_and, and_true, rf_s, not_true_eq_false, not_false_eq_true, true_implies, false_implies, kl_i, kl_n, kl_l, kl_r, Option.toList, List.cons_append, List.nil_append, if_true, if_false, u2s, lt00, lt01, lt02, lt03, le10, le20, le30, ne10, ne20, ne30, eq00]
      exact q
end MTG

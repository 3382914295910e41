/-! the class: its reader -/
def RtS (S N : Nat → Nat) (P : PM) (x : Nat) : Prop := S x = 6 ∧ P x 0 = some (x + 1) ∧ P x 6 = some (x + 2) ∧ S (x + 1) = 10 ∧ S (x + 2) = 10 ∧ N (x + 1) = 80 ∧ N (x + 2) = 80
def RT (I : IM) (x : Nat) (c : Nat → Int32) (n s : Nat) : Prop := I (x + 1) = c ∧ I x 1 = nI n ∧ I x 5 = nI s ∧ s ≤ n ∧ n ≤ 80
/-- the numbers that an item has so far -/
def NL (I : IM) (x : Nat) (l : List Nat) : Prop := I x 7 = nI l.length ∧ ∀ j, j < l.length → I (x + 2) j = nI (l.getD j 0)
def Tf (x : Nat) (I I' : IM) : Prop := (∀ a, a ≠ x → a ≠ x + 2 → I' a = I a) ∧ ∀ k, k ≠ 5 → k ≠ 7 → I' x k = I x k
theorem Tf.rf {x : Nat} {I : IM} : Tf x I I := ⟨fun _ _ _ => rfl, fun _ _ _ => rfl⟩
theorem Tf.tr {x : Nat} {I I' I'' : IM} (h : Tf x I I') (h2 : Tf x I' I'') : Tf x I I'' := ⟨fun a h3 h4 => (h2.1 a h3 h4).trans (h.1 a h3 h4), fun k h3 h4 => (h2.2 k h3 h4).trans (h.2 k h3 h4)⟩
theorem RT.s {I : IM} {x n s s' : Nat} {c : Nat → Int32} (h : RT I x c n s) (hs : s' ≤ n) : RT (u2 I x 5 (nI s')) x c n s' := by
  obtain ⟨h1, h2, h3, h4, h5⟩ := h
  exact ⟨by rw [u2_off _ _ _ (by omega)]; exact h1, by rw [u2k _ _ _ (by decide)]; exact h2, u2s _ _ _ _, hs, h5⟩
theorem NL.s {I : IM} {x : Nat} {l : List Nat} (h : NL I x l) (v : Int32) : NL (u2 I x 5 v) x l := ⟨by rw [u2k _ _ _ (by decide)]; exact h.1, fun j hj => by rw [u2_off _ _ _ (by omega)]; exact h.2 j hj⟩
theorem Tf.s {I : IM} {x : Nat} (v : Int32) : Tf x I (u2 I x 5 v) := ⟨fun a h1 _ => u2_off _ _ _ h1, fun k h1 _ => u2k _ _ _ h1⟩
section KTC
variable {S N : Nat → Nat} {d : Nat} {I : IM} {J : JM} {P : PM} {Q : Option Value → IM → JM → PM → Prop} {x n s : Nat} {c : Nat → Int32} {l : List Nat}
theorem k_peek (hx : RtS S N P x) (ht : RT I x c n s) : CWp S N d MX6_peek [.ref x] I J P Q ↔ Q (some (.int (if s < n then c s else 0))) I J P := by
  rw [c_X6_peek]
  unfold RtS at hx
  obtain ⟨h1, h2, h3, h4, h5⟩ := ht
  by_cases hs : s < n
  · have g1 : ¬ nI n ≤ nI s := nI_ge hs (by omega)
    rw [if_pos hs]
    simp only [e_X6_peek_0, e_X6_peek_1, e_X6_peek_4, e_X6_peek_5, e_X6_peek_8, e_X6_peek_11, e_X6_peek_12, e_X6_peek_15, e_X6_peek_16, e_X6_peek_19, e_X6_peek_20, e_X6_peek_23, e_X6_peek_24, hx, h1, h2, h3, g1, nI_clamp (show s < 2 ^ 31 by omega), vpn (show s < 80 by omega) (by decide), true_and, and_true, rf_s, not_true_eq_false, not_false_eq_true, true_implies, false_implies, kl_i, kl_n, kl_l, kl_r, Option.toList, List.cons_append, List.nil_append, if_true, if_false, u2s, lt00, lt01, lt02, lt03, le10, le20, le30, ne10, ne20, ne30, eq00]
  · have g1 : nI n ≤ nI s := nI_le (by omega) (by omega)
    rw [if_neg hs]
    simp only [e_X6_peek_0, e_X6_peek_1, e_X6_peek_4, e_X6_peek_5, e_X6_peek_8, e_X6_peek_11, e_X6_peek_12, e_X6_peek_15, e_X6_peek_16, e_X6_peek_19, e_X6_peek_20, e_X6_peek_23, e_X6_peek_24, hx, h1, h2, h3, g1, true_and, and_true, rf_s, not_true_eq_false, not_false_eq_true, true_implies, false_implies, kl_i, kl_n, kl_l, kl_r, Option.toList, List.cons_append, List.nil_append, if_true, if_false, u2s, lt00, lt01, lt02, lt03, le10, le20, le30, ne10, ne20, ne30, eq00]
theorem k_skipY (hx : RtS S N P x) (ht : RT I x c n s) {w : Int32} (hy : s < n ∧ c s = w) : CWp S N (d + 1) MX6_skip [.ref x, .int w] I J P Q ↔ Q (some (.int 1)) (u2 I x 5 (nI (s + 1))) J P := by
  rw [c_X6_skip]
  have hx0 := hx
  unfold RtS at hx
  have h3 := ht.2.2.1
  have hw := hy.2
  subst hw
  simp only [e_X6_skip_0, e_X6_skip_1, e_X6_skip_4, e_X6_skip_5, e_X6_skip_8, e_X6_skip_9 isB0, e_X6_skip_9 isB1, e_X6_skip_9 isB_ite, e_X6_skip_10, e_X6_skip_11, e_X6_skip_12, e_X6_skip_15, e_X6_skip_16, e_X6_skip_17, e_X6_skip_20, e_X6_skip_21 isB0, e_X6_skip_21 isB1, e_X6_skip_21 isB_ite, k_peek hx0 ht, hx, if_pos hy.1, h3, nI_1, true_and, and_true, rf_s, not_true_eq_false, not_false_eq_true, true_implies, false_implies, kl_i, kl_n, kl_l, kl_r, Option.toList, List.cons_append, List.nil_append, if_true, if_false, u2s, lt00, lt01, lt02, lt03, le10, le20, le30, ne10, ne20, ne30, eq00]
theorem k_skipN (hx : RtS S N P x) (ht : RT I x c n s) {w : Int32} (h0 : 0 < w) (hy : ¬ (s < n ∧ c s = w)) : CWp S N (d + 1) MX6_skip [.ref x, .int w] I J P Q ↔ Q (some (.int 0)) I J P := by
  rw [c_X6_skip]
  have hx0 := hx
  unfold RtS at hx
  have hne : ((if s < n then c s else 0) = w) = False := eq_false (fun z => by
    by_cases hs : s < n
    · rw [if_pos hs] at z
      exact hy ⟨hs, z⟩
    · rw [if_neg hs] at z
      rw [← z] at h0
      exact absurd h0 (by decide))
  simp only [e_X6_skip_0, e_X6_skip_1, e_X6_skip_4, e_X6_skip_5, e_X6_skip_8, e_X6_skip_9 isB0, e_X6_skip_9 isB1, e_X6_skip_9 isB_ite, k_peek hx0 ht, hx, hne, true_and, and_true, rf_s, not_true_eq_false, not_false_eq_true, true_implies, false_implies, kl_i, kl_n, kl_l, kl_r, Option.toList, List.cons_append, List.nil_append, if_true, if_false, u2s, lt00, lt01, lt02, lt03, le10, le20, le30, ne10, ne20, ne30, eq00]
theorem kn_loop (hx : RtS S N P x) : ∀ (f k : Nat), k + f = 4 → ∀ (I : IM) (s a : Nat), RT I x c n s → (∀ I', RT I' x c n (Dg c n f s a).2 → (∀ b, b ≠ x → I' b = I b) → (∀ j, j ≠ 5 → I' x j = I x j) → ∀ k', k + ((Dg c n f s a).2 - s) = k' → k' ≤ 4 → Wp S N (d + 1) MX6_readNumber 56 [some (.ref x), some (.int (nI (Dg c n f s a).1)), some (.int (nI k'))] [] I' J P Q) →
    Wp S N (d + 1) MX6_readNumber 4 [some (.ref x), some (.int (nI a)), some (.int (nI k))] [] I J P Q := by
  have hx0 := hx
  unfold RtS at hx
  intro f
  induction f with
  | zero =>
    intro k hk I s a ht hq
    have hk : k = 4 := by omega
    subst hk
    have g1 : (4 : Int32) ≤ nI 4 := by decide
    simp only [e_X6_readNumber_4, e_X6_readNumber_5, e_X6_readNumber_6, g1, true_and, and_true, rf_s, not_true_eq_false, not_false_eq_true, true_implies, false_implies, kl_i, kl_n, kl_l, kl_r, Option.toList, List.cons_append, List.nil_append, if_true, if_false, u2s, lt00, lt01, lt02, lt03, le10, le20, le30, ne10, ne20, ne30, eq00]
    exact hq I ht (fun _ _ => rfl) (fun _ _ => rfl) 4 (by rw [Dg]; omega) (by decide)
  | succ f ih =>
    intro k hk I s a ht hq
    have g1 : ¬ (4 : Int32) ≤ nI k := nI_ge (b := 4) (by omega) (by decide)
    rw [Dg] at hq
    by_cases hs : s < n
    · by_cases hd : 48 ≤ c s ∧ c s ≤ 57
      · rw [if_pos ⟨hs, hd⟩] at hq
        obtain ⟨q, q1, q2, q3⟩ := dig_of hd
        have hd1 : ¬ c s < 48 := Int32.not_lt.mpr hd.1
        have hd2 : ¬ 57 < c s := Int32.not_lt.mpr hd.2
        have ha2 : (10 : Int32) * nI a + c s - 48 = nI (10 * a + (c s).toNatClampNeg - 48) := by
          rw [q3, nI_clamp (by omega), show (10 : Int32) = nI 10 from rfl, pk_mul, nI_add, show (48 : Int32) = nI 48 from rfl, pk_sub (by omega)]
        have h3 := ht.2.2.1
        rw [e_X6_readNumber_4]
        simp only [e_X6_readNumber_5, e_X6_readNumber_6, e_X6_readNumber_9, e_X6_readNumber_10, e_X6_readNumber_13, e_X6_readNumber_15, e_X6_readNumber_18, e_X6_readNumber_19, e_X6_readNumber_22, e_X6_readNumber_24, e_X6_readNumber_27, e_X6_readNumber_29, e_X6_readNumber_30, e_X6_readNumber_31, e_X6_readNumber_32, e_X6_readNumber_35, e_X6_readNumber_36, e_X6_readNumber_38, e_X6_readNumber_39, e_X6_readNumber_40, e_X6_readNumber_41, e_X6_readNumber_42, e_X6_readNumber_45, e_X6_readNumber_46, e_X6_readNumber_47, e_X6_readNumber_50, e_X6_readNumber_53, k_peek hx0 ht, hx, g1, if_pos hs, hd1, hd2, ha2, h3, nI_1, true_and, and_true, rf_s, not_true_eq_false, not_false_eq_true, true_implies, false_implies, kl_i, kl_n, kl_l, kl_r, Option.toList, List.cons_append, List.nil_append, if_true, if_false, u2s, lt00, lt01, lt02, lt03, le10, le20, le30, ne10, ne20, ne30, eq00]
        refine ih (k + 1) (by omega) _ (s + 1) (10 * a + (c s).toNatClampNeg - 48) (ht.s (by omega)) (fun I' a1 a2 a3 k' a4 a5 => hq I' a1 (fun b hb => (a2 b hb).trans (u2_off _ _ _ hb)) (fun j hj => (a3 j hj).trans (u2k _ _ _ hj)) k' ?_ a5)
        have := (Dg_le c n f (s + 1) (10 * a + (c s).toNatClampNeg - 48) (by omega)).1
        omega
      · rw [if_neg (fun z => hd z.2)] at hq
        have fin := hq I ht (fun _ _ => rfl) (fun _ _ => rfl) k (by omega) (by omega)
        rw [e_X6_readNumber_4]
        by_cases h48 : c s < 48
        · have h48' := eq_true h48
          simp only [e_X6_readNumber_5, e_X6_readNumber_6, e_X6_readNumber_9, e_X6_readNumber_10, e_X6_readNumber_13, e_X6_readNumber_15, k_peek hx0 ht, hx, g1, if_pos hs, h48', true_and, and_true, rf_s, not_true_eq_false, not_false_eq_true, true_implies, false_implies, kl_i, kl_n, kl_l, kl_r, Option.toList, List.cons_append, List.nil_append, if_true, if_false, u2s, lt00, lt01, lt02, lt03, le10, le20, le30, ne10, ne20, ne30, eq00]
          exact fin
        · have h48' := eq_false h48
          have h57 : 57 < c s := Int32.not_le.mp (fun z => hd ⟨Int32.not_lt.mp h48, z⟩)
          have h57' := eq_true h57
          simp only [e_X6_readNumber_5, e_X6_readNumber_6, e_X6_readNumber_9, e_X6_readNumber_10, e_X6_readNumber_13, e_X6_readNumber_15, e_X6_readNumber_18, e_X6_readNumber_19, e_X6_readNumber_22, e_X6_readNumber_24, k_peek hx0 ht, hx, g1, if_pos hs, h48', h57', true_and, and_true, rf_s, not_true_eq_false, not_false_eq_true, true_implies, false_implies, kl_i, kl_n, kl_l, kl_r, Option.toList, List.cons_append, List.nil_append, if_true, if_false, u2s, lt00, lt01, lt02, lt03, le10, le20, le30, ne10, ne20, ne30, eq00]
          exact fin
    · rw [if_neg (fun z => hs z.1)] at hq
      have h48' : ((0 : Int32) < 48) = True := by decide
      rw [e_X6_readNumber_4]
      simp only [e_X6_readNumber_5, e_X6_readNumber_6, e_X6_readNumber_9, e_X6_readNumber_10, e_X6_readNumber_13, e_X6_readNumber_15, k_peek hx0 ht, hx, g1, if_neg hs, h48', true_and, and_true, rf_s, not_true_eq_false, not_false_eq_true, true_implies, false_implies, kl_i, kl_n, kl_l, kl_r, Option.toList, List.cons_append, List.nil_append, if_true, if_false, u2s, lt00, lt01, lt02, lt03, le10, le20, le30, ne10, ne20, ne30, eq00]
      exact hq I ht (fun _ _ => rfl) (fun _ _ => rfl) k (by omega) (by omega)
theorem getD_app (l : List Nat) (v j : Nat) : (l ++ [v]).getD j 0 = if j = l.length then v else l.getD j 0 := by
  by_cases h : j = l.length
  · subst h
    rw [if_pos rfl]
    simp [List.getD]
  · rw [if_neg h]
    simp only [List.getD]
    by_cases h2 : j < l.length
    · rw [List.getElem?_append_left h2]
    · rw [List.getElem?_append_right (by omega), List.getElem?_eq_none (by simp; omega), List.getElem?_eq_none (by omega)]
theorem k_number (hx : RtS S N P x) (ht : RT I x c n s) (hl : NL I x l) (hls : l.length ≤ s)
    (hN : ∀ s', NumF c n s = (none, s') → ∀ I', RT I' x c n s' → Tf x I I' → Q (some (.int 0)) I' J P)
    (hS : ∀ v s', NumF c n s = (some v, s') → ∀ I', RT I' x c n s' → Tf x I I' → NL I' x (l ++ [v]) → Q (some (.int 1)) I' J P) : CWp S N (d + 1) MX6_readNumber [.ref x] I J P Q := by
  rw [c_X6_readNumber]
  have hx0 := hx
  unfold RtS at hx
  simp only [e_X6_readNumber_0, e_X6_readNumber_1, e_X6_readNumber_2, e_X6_readNumber_3, true_and, and_true, rf_s, not_true_eq_false, not_false_eq_true, true_implies, false_implies, kl_i, kl_n, kl_l, kl_r, Option.toList, List.cons_append, List.nil_append, if_true, if_false, u2s, lt00, lt01, lt02, lt03, le10, le20, le30, ne10, ne20, ne30, eq00]
  refine kn_loop hx0 4 0 rfl I s 0 ht (fun I1 a1 a2 a3 k' a4 a5 => ?_)
  have hle := Dg_le c n 4 s 0 ht.2.2.2.1
  have f1 : Tf x I I1 := ⟨fun a h1 _ => a2 a h1, fun k h1 _ => a3 k h1⟩
  have c7 : I1 x 7 = nI l.length := by rw [a3 7 (by decide)]; exact hl.1
  unfold NumF at hN hS
  by_cases he : (Dg c n 4 s 0).2 = s
  · simp only [if_pos he] at hN
    have hk : k' = 0 := by omega
    subst hk
    rw [he] at a1
    have g1 : (nI 0 = (0 : Int32)) = True := by decide
    simp only [e_X6_readNumber_56, e_X6_readNumber_57, e_X6_readNumber_69, e_X6_readNumber_70 isB0, e_X6_readNumber_70 isB1, e_X6_readNumber_70 isB_ite, g1, true_and, and_true, rf_s, not_true_eq_false, not_false_eq_true, true_implies, false_implies, kl_i, kl_n, kl_l, kl_r, Option.toList, List.cons_append, List.nil_append, if_true, if_false, u2s, lt00, lt01, lt02, lt03, le10, le20, le30, ne10, ne20, ne30, eq00]
    exact hN s rfl I1 a1 f1
  · simp only [if_neg he] at hS
    have hk : (nI k' = (0 : Int32)) = False := eq_false (nI_ne0 (by omega) (by omega))
    have hn := ht.2.2.2.2
    have g2 : nI l.length < (80 : Int32) := nI_lt (b := 80) (by omega) (by decide)
    simp only [e_X6_readNumber_56, e_X6_readNumber_57, e_X6_readNumber_60, e_X6_readNumber_61, e_X6_readNumber_64, e_X6_readNumber_66, e_X6_readNumber_71, e_X6_readNumber_72, e_X6_readNumber_75, e_X6_readNumber_76, e_X6_readNumber_79, e_X6_readNumber_80, e_X6_readNumber_81, e_X6_readNumber_82, e_X6_readNumber_83, e_X6_readNumber_86, e_X6_readNumber_87, e_X6_readNumber_88, e_X6_readNumber_91, e_X6_readNumber_92 isB0, e_X6_readNumber_92 isB1, e_X6_readNumber_92 isB_ite, hx, hk, c7, g2, nI_1, nI_clamp (show l.length < 2 ^ 31 by omega), vpn (show l.length < 80 by omega) (by decide), true_and, and_true, rf_s, not_true_eq_false, not_false_eq_true, true_implies, false_implies, kl_i, kl_n, kl_l, kl_r, Option.toList, List.cons_append, List.nil_append, if_true, if_false, u2s, lt00, lt01, lt02, lt03, le10, le20, le30, ne10, ne20, ne30, eq00]
    have c7' : ∀ v : Int32, (u2 I1 (x + 2) l.length v) x 7 = nI l.length := fun v => by rw [u2_off _ _ _ (by omega)]; exact c7
    simp only [c7', nI_1]
    obtain ⟨b1, b2, b3, b4, b5⟩ := a1
    refine hS _ _ rfl _ ⟨?_, ?_, ?_, b4, b5⟩ ⟨fun a h1 h2 => ?_, fun k h1 h2 => ?_⟩ ⟨?_, fun j hj => ?_⟩
    · rw [u2_off _ _ _ (by omega), u2_off _ _ _ (by omega)]; exact b1
    · rw [u2k _ _ _ (by decide), u2_off _ _ _ (by omega)]; exact b2
    · rw [u2k _ _ _ (by decide), u2_off _ _ _ (by omega)]; exact b3
    · rw [u2_off _ _ _ h1, u2_off _ _ _ h2]; exact a2 a h1
    · rw [u2k _ _ _ h2, u2_off _ _ _ (by omega)]; exact a3 k h1
    · rw [u2s, List.length_append]; rfl
    · rw [u2_off _ _ _ (by omega), getD_app]
      by_cases hj2 : j = l.length
      · subst hj2
        rw [u2s, if_pos rfl]
      · rw [u2k _ _ _ hj2, if_neg hj2, a2 _ (by omega)]
        exact hl.2 j (by simp at hj; omega)
theorem rl_loop (hx : RtS S N P x) {want : Nat} (hw : want ≤ 4) : ∀ (r k : Nat), k + r = want → 0 < k → ∀ (I : IM) (s : Nat) (l : List Nat), RT I x c n s → NL I x l → l.length ≤ s →
    (∀ s', LsF c n k r s = (none, s') → ∀ I', RT I' x c n s' → Tf x I I' → Q (some (.int 0)) I' J P) →
    (∀ l' s', LsF c n k r s = (some l', s') → ∀ I', RT I' x c n s' → Tf x I I' → NL I' x (l ++ l') → Q (some (.int 1)) I' J P) →
    Wp S N (d + 2) MX6_readList 7 [some (.ref x), some (.int (nI want)), some (.int 1), some (.int (nI k))] [] I J P Q := by
  have hx0 := hx
  unfold RtS at hx
  intro r
  induction r with
  | zero =>
    intro k hk hk0 I s l ht hl hls hN hS
    have hk : k = want := by omega
    subst hk
    have g1 : nI k ≤ nI k := nI_le (Nat.le_refl k) (by omega)
    simp only [e_X6_readList_7, e_X6_readList_8, e_X6_readList_9, e_X6_readList_44, e_X6_readList_45 isB0, e_X6_readList_45 isB1, e_X6_readList_45 isB_ite, g1, true_and, and_true, rf_s, not_true_eq_false, not_false_eq_true, true_implies, false_implies, kl_i, kl_n, kl_l, kl_r, Option.toList, List.cons_append, List.nil_append, if_true, if_false, u2s, lt00, lt01, lt02, lt03, le10, le20, le30, ne10, ne20, ne30, eq00]
    have h9 := hS [] s rfl I ht Tf.rf
    rw [List.append_nil] at h9
    exact h9 hl
  | succ r ih =>
    intro k hk hk0 I s l ht hl hls hN hS
    have g1 : ¬ nI want ≤ nI k := nI_ge (by omega) (by omega)
    have stop : ∀ I' s', LsF c n k (r + 1) s = (none, s') → RT I' x c n s' → Tf x I I' → Wp S N (d + 2) MX6_readList 36 [some (.ref x), some (.int (nI want)), some (.int 1), some (.int (nI k))] [] I' J P Q := fun I' s' e h1 h2 => by
      have fin := hN s' e I' h1 h2
      by_cases hlast : want ≤ k + 1
      · have g2 : nI want ≤ nI (k + 1) := nI_le hlast (by omega)
        simp only [e_X6_readList_36, e_X6_readList_37, e_X6_readList_38, e_X6_readList_41, e_X6_readList_7, e_X6_readList_8, e_X6_readList_9, e_X6_readList_44, e_X6_readList_45 isB0, e_X6_readList_45 isB1, e_X6_readList_45 isB_ite, g2, nI_1, true_and, and_true, rf_s, not_true_eq_false, not_false_eq_true, true_implies, false_implies, kl_i, kl_n, kl_l, kl_r, Option.toList, List.cons_append, List.nil_append, if_true, if_false, u2s, lt00, lt01, lt02, lt03, le10, le20, le30, ne10, ne20, ne30, eq00]
        exact fin
      · have g2 : ¬ nI want ≤ nI (k + 1) := nI_ge (by omega) (by omega)
        simp only [e_X6_readList_36, e_X6_readList_37, e_X6_readList_38, e_X6_readList_41, e_X6_readList_7, e_X6_readList_8, e_X6_readList_9, e_X6_readList_12, e_X6_readList_13, e_X6_readList_44, e_X6_readList_45 isB0, e_X6_readList_45 isB1, e_X6_readList_45 isB_ite, g2, nI_1, true_and, and_true, rf_s, not_true_eq_false, not_false_eq_true, true_implies, false_implies, kl_i, kl_n, kl_l, kl_r, Option.toList, List.cons_append, List.nil_append, if_true, if_false, u2s, lt00, lt01, lt02, lt03, le10, le20, le30, ne10, ne20, ne30, eq00]
        exact fin
    rw [e_X6_readList_7]
    simp only [e_X6_readList_8, e_X6_readList_9, e_X6_readList_12, e_X6_readList_13, e_X6_readList_16, e_X6_readList_17, e_X6_readList_19, hx, g1, ne10, true_and, and_true, rf_s, not_true_eq_false, not_false_eq_true, true_implies, false_implies, kl_i, kl_n, kl_l, kl_r, Option.toList, List.cons_append, List.nil_append, if_true, if_false, u2s, lt00, lt01, lt02, lt03, le10, le20, le30, ne10, ne20, ne30, eq00]
    by_cases hy : s < n ∧ c s = 44
    · rw [k_skipY hx0 ht hy]
      simp only [e_X6_readList_22, e_X6_readList_25, e_X6_readList_26, hx, ne10, true_and, and_true, rf_s, not_true_eq_false, not_false_eq_true, true_implies, false_implies, kl_i, kl_n, kl_l, kl_r, Option.toList, List.cons_append, List.nil_append, if_true, if_false, u2s, lt00, lt01, lt02, lt03, le10, le20, le30, ne10, ne20, ne30, eq00]
      have e1 : LsF c n k (r + 1) s = (match NumF c n (s + 1) with
        | (none, s1) => (none, s1)
        | (some v, s1) => match LsF c n (k + 1) r s1 with
          | (none, s2) => (none, s2)
          | (some l, s2) => (some (v :: l), s2)) := by
        rw [LsF, if_neg (fun z => z.2 hy), if_pos hk0]
        rfl
      have hs1 : s + 1 ≤ n := by omega
      refine k_number hx0 (ht.s hs1) (hl.s _) (by omega) (fun s' e I1 b1 b2 => ?_) (fun v s1 e I1 b1 b2 b3 => ?_)
      · rw [e] at e1
        simp only [e_X6_readList_29, true_and, and_true, rf_s, not_true_eq_false, not_false_eq_true, true_implies, false_implies, kl_i, kl_n, kl_l, kl_r, Option.toList, List.cons_append, List.nil_append, if_true, if_false, u2s, lt00, lt01, lt02, lt03, le10, le20, le30, ne10, ne20, ne30, eq00]
        exact stop I1 s' e1 b1 ((Tf.s _).tr b2)
      · rw [e] at e1
        have hlt := NumF_lt hs1 e
        dsimp only at e1
        simp only [e_X6_readList_29, e_X6_readList_32, e_X6_readList_33, e_X6_readList_36, e_X6_readList_37, e_X6_readList_38, e_X6_readList_41, ne10, nI_1, true_and, and_true, rf_s, not_true_eq_false, not_false_eq_true, true_implies, false_implies, kl_i, kl_n, kl_l, kl_r, Option.toList, List.cons_append, List.nil_append, if_true, if_false, u2s, lt00, lt01, lt02, lt03, le10, le20, le30, ne10, ne20, ne30, eq00]
        refine ih (k + 1) (by omega) (by omega) I1 s1 (l ++ [v]) b1 b3 (by rw [List.length_append]; simp; omega) (fun s' e2 I' d1 d2 => ?_) (fun l' s' e2 I' d1 d2 d3 => ?_)
        · rw [e2] at e1
          exact hN s' e1 I' d1 (((Tf.s _).tr b2).tr d2)
        · rw [e2] at e1
          rw [List.append_assoc] at d3
          exact hS (v :: l') s' e1 I' d1 (((Tf.s _).tr b2).tr d2) d3
    · rw [k_skipN hx0 ht (by decide) hy]
      simp only [e_X6_readList_22, true_and, and_true, rf_s, not_true_eq_false, not_false_eq_true, true_implies, false_implies, kl_i, kl_n, kl_l, kl_r, Option.toList, List.cons_append, List.nil_append, if_true, if_false, u2s, lt00, lt01, lt02, lt03, le10, le20, le30, ne10, ne20, ne30, eq00]
      exact stop I s (by rw [LsF, if_pos ⟨hk0, hy⟩]) ht Tf.rf
theorem k_readList (hx : RtS S N P x) {want : Nat} (hw : want ≤ 4) (hw0 : 0 < want) (ht : RT I x c n s) (hl : NL I x [])
    (hN : ∀ s', LsF c n 0 want s = (none, s') → ∀ I', RT I' x c n s' → Tf x I I' → Q (some (.int 0)) I' J P)
    (hS : ∀ l' s', LsF c n 0 want s = (some l', s') → ∀ I', RT I' x c n s' → Tf x I I' → NL I' x l' → Q (some (.int 1)) I' J P) :
    CWp S N (d + 2) MX6_readList [.ref x, .int (nI want)] I J P Q := by
  rw [c_X6_readList]
  have hx0 := hx
  unfold RtS at hx
  obtain ⟨r, rfl⟩ : ∃ r, want = r + 1 := ⟨want - 1, by omega⟩
  have e1 : LsF c n 0 (r + 1) s = (match NumF c n s with
      | (none, s1) => (none, s1)
      | (some v, s1) => match LsF c n (0 + 1) r s1 with
        | (none, s2) => (none, s2)
        | (some l, s2) => (some (v :: l), s2)) := by
    rw [LsF, if_neg (fun z => absurd z.1 (by decide)), if_neg (by decide)]
    rfl
  simp only [e_X6_readList_0, e_X6_readList_1, hx, true_and, and_true, rf_s, not_true_eq_false, not_false_eq_true, true_implies, false_implies, kl_i, kl_n, kl_l, kl_r, Option.toList, List.cons_append, List.nil_append, if_true, if_false, u2s, lt00, lt01, lt02, lt03, le10, le20, le30, ne10, ne20, ne30, eq00]
  refine k_number hx0 ht hl (Nat.zero_le _) (fun s' e I1 b1 b2 => ?_) (fun v s1 e I1 b1 b2 b3 => ?_)
  · rw [e] at e1
    have fin := hN s' e1 I1 b1 b2
    by_cases hlast : r + 1 ≤ 1
    · have g2 : nI (r + 1) ≤ (1 : Int32) := nI_le (b := 1) hlast (by decide)
      simp only [e_X6_readList_4, e_X6_readList_5, e_X6_readList_6, e_X6_readList_7, e_X6_readList_8, e_X6_readList_9, e_X6_readList_44, e_X6_readList_45 isB0, e_X6_readList_45 isB1, e_X6_readList_45 isB_ite, g2, true_and, and_true, rf_s, not_true_eq_false, not_false_eq_true, true_implies, false_implies, kl_i, kl_n, kl_l, kl_r, Option.toList, List.cons_append, List.nil_append, if_true, if_false, u2s, lt00, lt01, lt02, lt03, le10, le20, le30, ne10, ne20, ne30, eq00]
      exact fin
    · have g2 : ¬ nI (r + 1) ≤ (1 : Int32) := nI_ge (a := 1) (by omega) (by omega)
      simp only [e_X6_readList_4, e_X6_readList_5, e_X6_readList_6, e_X6_readList_7, e_X6_readList_8, e_X6_readList_9, e_X6_readList_12, e_X6_readList_13, e_X6_readList_44, e_X6_readList_45 isB0, e_X6_readList_45 isB1, e_X6_readList_45 isB_ite, g2, true_and, and_true, rf_s, not_true_eq_false, not_false_eq_true, true_implies, false_implies, kl_i, kl_n, kl_l, kl_r, Option.toList, List.cons_append, List.nil_append, if_true, if_false, u2s, lt00, lt01, lt02, lt03, le10, le20, le30, ne10, ne20, ne30, eq00]
      exact fin
  · rw [e] at e1
    have hlt := NumF_lt ht.2.2.2.1 e
    dsimp only at e1
    simp only [e_X6_readList_4, e_X6_readList_5, e_X6_readList_6, true_and, and_true, rf_s, not_true_eq_false, not_false_eq_true, true_implies, false_implies, kl_i, kl_n, kl_l, kl_r, Option.toList, List.cons_append, List.nil_append, if_true, if_false, u2s, lt00, lt01, lt02, lt03, le10, le20, le30, ne10, ne20, ne30, eq00]
    refine rl_loop hx0 (want := r + 1) hw r 1 (by omega) (by decide) I1 s1 [v] b1 b3 (by simp; omega) (fun s' e2 I' d1 d2 => ?_) (fun l' s' e2 I' d1 d2 d3 => ?_)
    · rw [Nat.zero_add, e2] at e1
      exact hN s' e1 I' d1 (b2.tr d2)
    · rw [Nat.zero_add, e2] at e1
      exact hS (v :: l') s' e1 I' d1 (b2.tr d2) d3
/-- a pair -/
theorem k_readPair (hx : RtS S N P x) (ht : RT I x c n s) (hl : NL I x l) (hls : l.length ≤ s)
    (hN : ∀ s', (NumF c n s = (none, s') ∨ (∃ a, NumF c n s = (some a, s') ∧ ¬ (s' < n ∧ c s' = 58)) ∨ (∃ a s1, NumF c n s = (some a, s1) ∧ (s1 < n ∧ c s1 = 58) ∧ NumF c n (s1 + 1) = (none, s'))) → ∀ I', RT I' x c n s' → Tf x I I' → Q (some (.int 0)) I' J P)
    (hS : ∀ a b s1 s', NumF c n s = (some a, s1) → (s1 < n ∧ c s1 = 58) → NumF c n (s1 + 1) = (some b, s') → ∀ I', RT I' x c n s' → Tf x I I' → NL I' x (l ++ [a, b]) → Q (some (.int 1)) I' J P) :
    CWp S N (d + 2) MX6_readPair [.ref x] I J P Q := by
  rw [c_X6_readPair]
  have hx0 := hx
  unfold RtS at hx
  simp only [e_X6_readPair_0, e_X6_readPair_1, hx, true_and, and_true, rf_s, not_true_eq_false, not_false_eq_true, true_implies, false_implies, kl_i, kl_n, kl_l, kl_r, Option.toList, List.cons_append, List.nil_append, if_true, if_false, u2s, lt00, lt01, lt02, lt03, le10, le20, le30, ne10, ne20, ne30, eq00]
  refine k_number hx0 ht hl hls (fun s' e I1 b1 b2 => ?_) (fun a s1 e I1 b1 b2 b3 => ?_)
  · simp only [e_X6_readPair_4, e_X6_readPair_27, e_X6_readPair_28 isB0, e_X6_readPair_28 isB1, e_X6_readPair_28 isB_ite, true_and, and_true, rf_s, not_true_eq_false, not_false_eq_true, true_implies, false_implies, kl_i, kl_n, kl_l, kl_r, Option.toList, List.cons_append, List.nil_append, if_true, if_false, u2s, lt00, lt01, lt02, lt03, le10, le20, le30, ne10, ne20, ne30, eq00]
    exact hN s' (Or.inl e) I1 b1 b2
  · obtain ⟨q1, q2, q3⟩ := NumF_lt ht.2.2.2.1 e
    simp only [e_X6_readPair_4, e_X6_readPair_7, e_X6_readPair_8, e_X6_readPair_10, hx, ne10, true_and, and_true, rf_s, not_true_eq_false, not_false_eq_true, true_implies, false_implies, kl_i, kl_n, kl_l, kl_r, Option.toList, List.cons_append, List.nil_append, if_true, if_false, u2s, lt00, lt01, lt02, lt03, le10, le20, le30, ne10, ne20, ne30, eq00]
    by_cases hy : s1 < n ∧ c s1 = 58
    · rw [k_skipY hx0 b1 hy]
      simp only [e_X6_readPair_13, e_X6_readPair_16, e_X6_readPair_17, hx, ne10, true_and, and_true, rf_s, not_true_eq_false, not_false_eq_true, true_implies, false_implies, kl_i, kl_n, kl_l, kl_r, Option.toList, List.cons_append, List.nil_append, if_true, if_false, u2s, lt00, lt01, lt02, lt03, le10, le20, le30, ne10, ne20, ne30, eq00]
      refine k_number hx0 (b1.s (s' := s1 + 1) (by omega)) (b3.s _) (by rw [List.length_append]; simp; omega) (fun s' e2 I2 d1 d2 => ?_) (fun b s' e2 I2 d1 d2 d3 => ?_)
      · simp only [e_X6_readPair_20, e_X6_readPair_23, e_X6_readPair_24, e_X6_readPair_27, e_X6_readPair_28 isB0, e_X6_readPair_28 isB1, e_X6_readPair_28 isB_ite, true_and, and_true, rf_s, not_true_eq_false, not_false_eq_true, true_implies, false_implies, kl_i, kl_n, kl_l, kl_r, Option.toList, List.cons_append, List.nil_append, if_true, if_false, u2s, lt00, lt01, lt02, lt03, le10, le20, le30, ne10, ne20, ne30, eq00]
        exact hN s' (Or.inr (Or.inr ⟨a, s1, e, hy, e2⟩)) I2 d1 ((b2.tr (Tf.s _)).tr d2)
      · simp only [e_X6_readPair_20, e_X6_readPair_23, e_X6_readPair_24, e_X6_readPair_27, e_X6_readPair_28 isB0, e_X6_readPair_28 isB1, e_X6_readPair_28 isB_ite, ne10, true_and, and_true, rf_s, not_true_eq_false, not_false_eq_true, true_implies, false_implies, kl_i, kl_n, kl_l, kl_r, Option.toList, List.cons_append, List.nil_append, if_true, if_false, u2s, lt00, lt01, lt02, lt03, le10, le20, le30, ne10, ne20, ne30, eq00]
        rw [List.append_assoc] at d3
        exact hS a b s1 s' e hy e2 I2 d1 ((b2.tr (Tf.s _)).tr d2) d3
    · rw [k_skipN hx0 b1 (by decide) hy]
      simp only [e_X6_readPair_13, e_X6_readPair_27, e_X6_readPair_28 isB0, e_X6_readPair_28 isB1, e_X6_readPair_28 isB_ite, true_and, and_true, rf_s, not_true_eq_false, not_false_eq_true, true_implies, false_implies, kl_i, kl_n, kl_l, kl_r, Option.toList, List.cons_append, List.nil_append, if_true, if_false, u2s, lt00, lt01, lt02, lt03, le10, le20, le30, ne10, ne20, ne30, eq00]
      exact hN s1 (Or.inr (Or.inl ⟨a, e, hy⟩)) I1 b1 b2
theorem PrF_none {f s' : Nat} (h : NumF c n s = (none, s') ∨ (∃ a, NumF c n s = (some a, s') ∧ ¬ (s' < n ∧ c s' = 58)) ∨ (∃ a s1, NumF c n s = (some a, s1) ∧ (s1 < n ∧ c s1 = 58) ∧ NumF c n (s1 + 1) = (none, s'))) : PrF c n (f + 1) s = (none, s') := by
  rw [PrF]
  rcases h with h | ⟨a, h, h2⟩ | ⟨a, s1, h, h2, h3⟩
  · rw [h]
  · rw [h]
    dsimp only
    rw [if_neg h2]
  · rw [h]
    dsimp only
    rw [if_pos h2, h3]
theorem PrF_some {f a b s1 s2 : Nat} (h : NumF c n s = (some a, s1)) (h2 : s1 < n ∧ c s1 = 58) (h3 : NumF c n (s1 + 1) = (some b, s2)) : PrF c n (f + 1) s = if s2 < n ∧ c s2 = 44 then (match PrF c n f (s2 + 1) with | (none, s3) => (none, s3) | (some l, s3) => (some (a :: b :: l), s3)) else (some [a, b], s2) := by
  rw [PrF, h]
  dsimp only
  rw [if_pos h2, h3]
  rfl
theorem rp_loop (hx : RtS S N P x) : ∀ (f i : Nat) (I : IM) (s : Nat) (l : List Nat), RT I x c n s → NL I x l → l.length ≤ s → i < s → n < s + f + 1 →
    (∀ s', (s < n ∧ c s = 44) → PrF c n f (s + 1) = (none, s') → ∀ I', RT I' x c n s' → Tf x I I' → Q (some (.int 0)) I' J P) →
    (∀ l' s', (s < n ∧ c s = 44) → PrF c n f (s + 1) = (some l', s') → ∀ I', RT I' x c n s' → Tf x I I' → NL I' x (l ++ l') → Q (some (.int 1)) I' J P) →
    (¬ (s < n ∧ c s = 44) → Q (some (.int 1)) I J P) →
    Wp S N (d + 3) MX6_readPairs 7 [some (.ref x), some (.int 1), some (.int (nI i))] [] I J P Q := by
  have hx0 := hx
  unfold RtS at hx
  intro f
  induction f with
  | zero =>
    intro i I s l ht hl hls hi hf hN hS hE
    have hn := ht.2.2.2.2
    have hsn := ht.2.2.2.1
    have g3 : ((0 : Int32) = 44) = False := by decide
    have hs : s = n := by omega
    by_cases h80 : 80 ≤ i
    · omega
    · have g1 : ¬ (80 : Int32) ≤ nI i := nI_ge (b := 80) (by omega) (by decide)
      simp only [e_X6_readPairs_7, e_X6_readPairs_8, e_X6_readPairs_10, e_X6_readPairs_13, e_X6_readPairs_14, e_X6_readPairs_17, e_X6_readPairs_18, e_X6_readPairs_21, e_X6_readPairs_23, e_X6_readPairs_47, e_X6_readPairs_48 isB0, e_X6_readPairs_48 isB1, e_X6_readPairs_48 isB_ite, hx, k_peek hx0 ht, if_neg (show ¬ s < n by omega), g1, g3, ne10, true_and, and_true, rf_s, not_true_eq_false, not_false_eq_true, true_implies, false_implies, kl_i, kl_n, kl_l, kl_r, Option.toList, List.cons_append, List.nil_append, if_true, if_false, u2s, lt00, lt01, lt02, lt03, le10, le20, le30, ne10, ne20, ne30, eq00]
      exact hE (by omega)
  | succ f ih =>
    intro i I s l ht hl hls hi hf hN hS hE
    have hn := ht.2.2.2.2
    have hsn := ht.2.2.2.1
    have g1 : ¬ (80 : Int32) ≤ nI i := nI_ge (b := 80) (by omega) (by decide)
    rw [e_X6_readPairs_7]
    by_cases hy : s < n ∧ c s = 44
    · have h3 := ht.2.2.1
      have h44 := eq_true hy.2
      simp only [e_X6_readPairs_8, e_X6_readPairs_10, e_X6_readPairs_13, e_X6_readPairs_14, e_X6_readPairs_17, e_X6_readPairs_18, e_X6_readPairs_21, e_X6_readPairs_23, e_X6_readPairs_26, e_X6_readPairs_27, e_X6_readPairs_28, e_X6_readPairs_31, e_X6_readPairs_32, e_X6_readPairs_33, e_X6_readPairs_36, e_X6_readPairs_37, hx, k_peek hx0 ht, if_pos hy.1, g1, h44, h3, ne10, nI_1, true_and, and_true, rf_s, not_true_eq_false, not_false_eq_true, true_implies, false_implies, kl_i, kl_n, kl_l, kl_r, Option.toList, List.cons_append, List.nil_append, if_true, if_false, u2s, lt00, lt01, lt02, lt03, le10, le20, le30, ne10, ne20, ne30, eq00]
      refine k_readPair hx0 (ht.s (s' := s + 1) (by omega)) (hl.s _) (by omega) (fun s' e I1 b1 b2 => ?_) (fun a b s1 s2 e1 e2 e3 I1 b1 b2 b3 => ?_)
      · have h9 := hN s' hy (PrF_none e) I1 b1 ((Tf.s _).tr b2)
        have g5 : ∀ w : Int32, w = nI (i + 1) → ¬ (80 : Int32) ≤ w ∨ (80 : Int32) ≤ w := fun w _ => (Classical.em _).symm
        by_cases h80 : (80 : Int32) ≤ nI (i + 1)
        · simp only [e_X6_readPairs_40, e_X6_readPairs_41, e_X6_readPairs_44, e_X6_readPairs_7, e_X6_readPairs_8, e_X6_readPairs_10, e_X6_readPairs_47, e_X6_readPairs_48 isB0, e_X6_readPairs_48 isB1, e_X6_readPairs_48 isB_ite, h80, nI_1, true_and, and_true, rf_s, not_true_eq_false, not_false_eq_true, true_implies, false_implies, kl_i, kl_n, kl_l, kl_r, Option.toList, List.cons_append, List.nil_append, if_true, if_false, u2s, lt00, lt01, lt02, lt03, le10, le20, le30, ne10, ne20, ne30, eq00]
          exact h9
        · simp only [e_X6_readPairs_40, e_X6_readPairs_41, e_X6_readPairs_44, e_X6_readPairs_7, e_X6_readPairs_8, e_X6_readPairs_10, e_X6_readPairs_13, e_X6_readPairs_14, e_X6_readPairs_47, e_X6_readPairs_48 isB0, e_X6_readPairs_48 isB1, e_X6_readPairs_48 isB_ite, h80, nI_1, true_and, and_true, rf_s, not_true_eq_false, not_false_eq_true, true_implies, false_implies, kl_i, kl_n, kl_l, kl_r, Option.toList, List.cons_append, List.nil_append, if_true, if_false, u2s, lt00, lt01, lt02, lt03, le10, le20, le30, ne10, ne20, ne30, eq00]
          exact h9
      · have hp := PrF_some (f := f) e1 e2 e3
        obtain ⟨q1, q2, -⟩ := NumF_lt (show s + 1 ≤ n by omega) e1
        obtain ⟨q3, q4, -⟩ := NumF_lt (show s1 + 1 ≤ n by omega) e3
        simp only [e_X6_readPairs_40, e_X6_readPairs_41, e_X6_readPairs_44, nI_1, true_and, and_true, rf_s, not_true_eq_false, not_false_eq_true, true_implies, false_implies, kl_i, kl_n, kl_l, kl_r, Option.toList, List.cons_append, List.nil_append, if_true, if_false, u2s, lt00, lt01, lt02, lt03, le10, le20, le30, ne10, ne20, ne30, eq00]
        refine ih (i + 1) I1 s2 (l ++ [a, b]) b1 b3 (by rw [List.length_append]; simp; omega) (by omega) (by omega) (fun s' hz e4 I' d1 d2 => ?_) (fun l' s' hz e4 I' d1 d2 d3 => ?_) (fun hz => ?_)
        · rw [if_pos hz, e4] at hp
          exact hN s' hy hp I' d1 (((Tf.s _).tr b2).tr d2)
        · rw [if_pos hz, e4] at hp
          rw [List.append_assoc] at d3
          exact hS (a :: b :: l') s' hy hp I' d1 (((Tf.s _).tr b2).tr d2) d3
        · rw [if_neg hz] at hp
          exact hS [a, b] s2 hy hp I1 b1 ((Tf.s _).tr b2) b3
    · have h44 : ((if s < n then c s else 0) = (44 : Int32)) = False := eq_false (fun z => by
        by_cases hs : s < n
        · rw [if_pos hs] at z
          exact hy ⟨hs, z⟩
        · rw [if_neg hs] at z
          exact absurd z (by decide))
      simp only [e_X6_readPairs_8, e_X6_readPairs_10, e_X6_readPairs_13, e_X6_readPairs_14, e_X6_readPairs_17, e_X6_readPairs_18, e_X6_readPairs_21, e_X6_readPairs_23, e_X6_readPairs_47, e_X6_readPairs_48 isB0, e_X6_readPairs_48 isB1, e_X6_readPairs_48 isB_ite, hx, k_peek hx0 ht, g1, h44, ne10, true_and, and_true, rf_s, not_true_eq_false, not_false_eq_true, true_implies, false_implies, kl_i, kl_n, kl_l, kl_r, Option.toList, List.cons_append, List.nil_append, if_true, if_false, u2s, lt00, lt01, lt02, lt03, le10, le20, le30, ne10, ne20, ne30, eq00]
      exact hE hy
theorem k_readPairs (hx : RtS S N P x) (ht : RT I x c n s) (hl : NL I x [])
    (hN : ∀ s', PrF c n 81 s = (none, s') → ∀ I', RT I' x c n s' → Tf x I I' → Q (some (.int 0)) I' J P)
    (hS : ∀ l' s', PrF c n 81 s = (some l', s') → ∀ I', RT I' x c n s' → Tf x I I' → NL I' x l' → Q (some (.int 1)) I' J P) :
    CWp S N (d + 3) MX6_readPairs [.ref x] I J P Q := by
  rw [c_X6_readPairs]
  have hx0 := hx
  unfold RtS at hx
  have hn := ht.2.2.2.2
  have hsn := ht.2.2.2.1
  simp only [e_X6_readPairs_0, e_X6_readPairs_1, hx, true_and, and_true, rf_s, not_true_eq_false, not_false_eq_true, true_implies, false_implies, kl_i, kl_n, kl_l, kl_r, Option.toList, List.cons_append, List.nil_append, if_true, if_false, u2s, lt00, lt01, lt02, lt03, le10, le20, le30, ne10, ne20, ne30, eq00]
  refine k_readPair hx0 ht hl (Nat.zero_le _) (fun s' e I1 b1 b2 => ?_) (fun a b s1 s2 e1 e2 e3 I1 b1 b2 b3 => ?_)
  · have h9 := hN s' (PrF_none e) I1 b1 b2
    have g1 : ¬ (80 : Int32) ≤ 0 := by decide
    simp only [e_X6_readPairs_4, e_X6_readPairs_5, e_X6_readPairs_6, e_X6_readPairs_7, e_X6_readPairs_8, e_X6_readPairs_10, e_X6_readPairs_13, e_X6_readPairs_14, e_X6_readPairs_47, e_X6_readPairs_48 isB0, e_X6_readPairs_48 isB1, e_X6_readPairs_48 isB_ite, g1, true_and, and_true, rf_s, not_true_eq_false, not_false_eq_true, true_implies, false_implies, kl_i, kl_n, kl_l, kl_r, Option.toList, List.cons_append, List.nil_append, if_true, if_false, u2s, lt00, lt01, lt02, lt03, le10, le20, le30, ne10, ne20, ne30, eq00]
    exact h9
  · have hp := PrF_some (f := 80) e1 e2 e3
    obtain ⟨q1, q2, -⟩ := NumF_lt hsn e1
    obtain ⟨q3, q4, -⟩ := NumF_lt (show s1 + 1 ≤ n by omega) e3
    simp only [e_X6_readPairs_4, e_X6_readPairs_5, e_X6_readPairs_6, true_and, and_true, rf_s, not_true_eq_false, not_false_eq_true, true_implies, false_implies, kl_i, kl_n, kl_l, kl_r, Option.toList, List.cons_append, List.nil_append, if_true, if_false, u2s, lt00, lt01, lt02, lt03, le10, le20, le30, ne10, ne20, ne30, eq00]
    refine rp_loop hx0 80 0 I1 s2 [a, b] b1 b3 (by simp; omega) (by omega) (by omega) (fun s' hz e4 I' d1 d2 => ?_) (fun l' s' hz e4 I' d1 d2 d3 => ?_) (fun hz => ?_)
    · rw [if_pos hz, e4] at hp
      exact hN s' hp I' d1 (b2.tr d2)
    · rw [if_pos hz, e4] at hp
      exact hS (a :: b :: l') s' hp I' d1 (b2.tr d2) d3
    · rw [if_neg hz] at hp
      exact hS [a, b] s2 hp I1 b1 b2 b3
end KTC

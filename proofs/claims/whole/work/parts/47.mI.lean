/-! the model's items -/
abbrev ItT : Type := Nat × List Nat × Bool
def KdF (x : Int32) : Nat := if x = 110 then 0 else if x = 114 then 1 else 2
def ItF (c : Nat → Int32) (n s : Nat) : Option ItT × Nat :=
  if s < n then
    (if c s = 98 then (match PrF c n 81 (s + 1) with | (none, s1) => (none, s1) | (some l, s1) => (some (0, l, false), s1))
    else if c s = 97 then (match LsF c n 0 3 (s + 1) with | (none, s1) => (none, s1) | (some l, s1) => (some (1, l, false), s1))
    else if c s = 109 then (match LsF c n 0 2 (s + 1) with | (none, s1) => (none, s1) | (some l, s1) => (some (2, l, false), s1))
    else if c s = 99 then (match LsF c n 0 2 (s + 1) with | (none, s1) => (none, s1) | (some l, s1) => (some (3, l, false), s1))
    else if c s = 110 ∨ c s = 114 ∨ c s = 107 then (match LsF c n 0 4 (s + 1) with | (none, s1) => (none, s1) | (some l, s1) => if s1 < n ∧ c s1 = 42 then (some (4 + KdF (c s), l, true), s1 + 1) else (some (4 + KdF (c s), l, false), s1))
    else (none, s))
  else (none, s)
def ItsF (c : Nat → Int32) (n : Nat) : Nat → Nat → Option (List ItT) × Nat
  | 0, s => (none, s)
  | f + 1, s => match ItF c n s with
    | (none, s1) => (none, s1)
    | (some i, s1) => if s1 < n ∧ c s1 = 59 then (match ItsF c n f (s1 + 1) with | (none, s2) => (none, s2) | (some l, s2) => (some (i :: l), s2)) else if s1 < n then (none, s1) else (some [i], s1)
/-- what an item makes of the rules, and whether it is odd -/
def ItG (a : Nat) (l : List Nat) (e : Bool) (t : Nat → Int32) : Nat → Int32 :=
  if a = 0 then (fun y => if y = 0 then nI (KpP 0 l) else PutP 0 l t y)
  else if a = 1 then PutL 13 l t
  else if a = 2 then PutL 16 l t
  else if a = 3 then (if (t 18).toNatClampNeg < 4 then (fun y => if y = 18 then nI ((t 18).toNatClampNeg + 1) else PutL (19 + 2 * (t 18).toNatClampNeg) l t y) else t)
  else if (t 27).toNatClampNeg < 6 then (fun y => if y = 27 then nI ((t 27).toNatClampNeg + 1) else if y = 33 + 6 * (t 27).toNatClampNeg then bI e else if y = 28 + 6 * (t 27).toNatClampNeg then nI (a - 4) else PutL (29 + 6 * (t 27).toNatClampNeg) l t y) else t
def ItO (a : Nat) (l : List Nat) (t : Nat → Int32) : Bool :=
  if a = 0 then OdP 0 0 l else if a = 1 then OdL 4 0 l else if a = 2 then OdL 2 0 l
  else if a = 3 then OdL 0 0 l || !decide ((t 18).toNatClampNeg < 4) else OdL 10 0 l || !decide ((t 27).toNatClampNeg < 6)
def ItsG : List ItT → (Nat → Int32) → (Nat → Int32)
  | [], t => t
  | i :: l, t => ItsG l (ItG i.1 i.2.1 i.2.2 t)
def ItsO : List ItT → (Nat → Int32) → Bool
  | [], _ => false
  | i :: l, t => ItO i.1 i.2.1 t || ItsO l (ItG i.1 i.2.1 i.2.2 t)
theorem PutL_off : ∀ (l : List Nat) (x : Nat) (t : Nat → Int32) (y : Nat), y < x ∨ x + l.length ≤ y → PutL x l t y = t y
  | [], _, _, _, _ => rfl
  | v :: l, x, t, y, h => by
    rw [PutL, PutL_off l (x + 1) _ y (by simp at h; omega)]
    exact if_neg (by simp at h; omega)
theorem PutP_off : ∀ (l : List Nat) (k : Nat) (t : Nat → Int32) (y : Nat), y = 0 ∨ 13 ≤ y → PutP k l t y = t y
  | [], _, _, _, _ => by simp [PutP]
  | [_], _, _, _, _ => by simp [PutP]
  | a :: b :: l, k, t, y, h => by
    rw [PutP, PutP_off l _ _ y h]
    split
    · next hk =>
      show (if y = 2 + 2 * k then nI b else if y = 1 + 2 * k then nI a else t y) = t y
      rw [if_neg (by omega), if_neg (by omega)]
    · rfl
/-- the counts of charges and credits stay within their rows -/
def Cn2 (t : Nat → Int32) : Prop := (∃ nc, nc ≤ 4 ∧ t 18 = nI nc) ∧ ∃ nk, nk ≤ 6 ∧ t 27 = nI nk
def ItW (i : ItT) : Prop := (i.1 = 0 ∨ (i.1 = 1 ∧ i.2.1.length = 3) ∨ (i.1 = 2 ∧ i.2.1.length = 2) ∨ (i.1 = 3 ∧ i.2.1.length = 2) ∨ (4 ≤ i.1 ∧ i.1 < 7 ∧ i.2.1.length = 4)) ∧ ∀ v ∈ i.2.1, v < 10000
theorem Cn2.it {t : Nat → Int32} (h : Cn2 t) {i : ItT} (hi : ItW i) : Cn2 (ItG i.1 i.2.1 i.2.2 t) := by
  obtain ⟨⟨nc, h1, h2⟩, nk, h3, h4⟩ := h
  obtain ⟨a, l, e⟩ := i
  obtain ⟨hi, -⟩ := hi
  dsimp only at hi ⊢
  have c2 : (t 18).toNatClampNeg = nc := by rw [h2]; exact nI_clamp (by omega)
  have c4 : (t 27).toNatClampNeg = nk := by rw [h4]; exact nI_clamp (by omega)
  rcases hi with rfl | ⟨rfl, hl⟩ | ⟨rfl, hl⟩ | ⟨rfl, hl⟩ | ⟨ha, -, hl⟩
  · have e0 : ∀ y, ItG 0 l e t y = if y = 0 then nI (KpP 0 l) else PutP 0 l t y := fun y => rfl
    refine ⟨⟨nc, h1, ?_⟩, nk, h3, ?_⟩
    · rw [e0, if_neg (by decide), PutP_off _ _ _ _ (by omega)]; exact h2
    · rw [e0, if_neg (by decide), PutP_off _ _ _ _ (by omega)]; exact h4
  · refine ⟨⟨nc, h1, ?_⟩, nk, h3, ?_⟩
    · show PutL 13 l t 18 = _
      rw [PutL_off _ _ _ _ (by omega)]; exact h2
    · show PutL 13 l t 27 = _
      rw [PutL_off _ _ _ _ (by omega)]; exact h4
  · refine ⟨⟨nc, h1, ?_⟩, nk, h3, ?_⟩
    · show PutL 16 l t 18 = _
      rw [PutL_off _ _ _ _ (by omega)]; exact h2
    · show PutL 16 l t 27 = _
      rw [PutL_off _ _ _ _ (by omega)]; exact h4
  · unfold ItG
    rw [if_neg (by decide), if_neg (by decide), if_neg (by decide), if_pos rfl, c2]
    by_cases hc : nc < 4
    · rw [if_pos hc]
      refine ⟨⟨nc + 1, by omega, if_pos rfl⟩, nk, h3, ?_⟩
      show (if (27 : Nat) = 18 then _ else PutL (19 + 2 * nc) l t 27) = _
      rw [if_neg (by decide), PutL_off _ _ _ _ (by omega)]; exact h4
    · rw [if_neg hc]
      exact ⟨⟨nc, h1, h2⟩, nk, h3, h4⟩
  · unfold ItG
    rw [if_neg (by omega), if_neg (by omega), if_neg (by omega), if_neg (by omega), c4]
    by_cases hc : nk < 6
    · rw [if_pos hc]
      refine ⟨⟨nc, h1, ?_⟩, nk + 1, by omega, if_pos rfl⟩
      show (if (18 : Nat) = 27 then _ else if 18 = 33 + 6 * nk then _ else if 18 = 28 + 6 * nk then _ else PutL (29 + 6 * nk) l t 18) = _
      rw [if_neg (by decide), if_neg (by omega), if_neg (by omega), PutL_off _ _ _ _ (by omega)]; exact h2
    · rw [if_neg hc]
      exact ⟨⟨nc, h1, h2⟩, nk, h3, h4⟩
theorem PrF_ok {c : Nat → Int32} {n : Nat} : ∀ (f s : Nat) (l : List Nat) (s' : Nat), s ≤ n → PrF c n f s = (some l, s') → (∀ v ∈ l, v < 10000) ∧ s < s' ∧ s' ≤ n ∧ (∃ j, l.length = 2 * j ∧ 0 < j)
  | 0, s, l, s', h, e => by rw [PrF] at e; cases e
  | f + 1, s, l, s', h, e => by
    rw [PrF] at e
    split at e
    · cases e
    · next a s1 e1 =>
      obtain ⟨h1, h2, h3⟩ := NumF_lt h e1
      split at e
      · next hy =>
        split at e
        · cases e
        · next b s2 e2 =>
          obtain ⟨k1, k2, k3⟩ := NumF_lt (by omega) e2
          split at e
          · next hz =>
            split at e
            · cases e
            · next l2 s3 e3 =>
              cases e
              obtain ⟨q1, q2, q3, j, q4, q5⟩ := PrF_ok f (s2 + 1) l2 s' (by omega) e3
              refine ⟨fun v hv => ?_, by omega, q3, j + 1, by simp [q4]; omega, by omega⟩
              rcases List.mem_cons.mp hv with rfl | hv
              · exact h3
              · rcases List.mem_cons.mp hv with rfl | hv
                · exact k3
                · exact q1 v hv
          · cases e
            refine ⟨fun v hv => ?_, by omega, k2, 1, rfl, by decide⟩
            rcases List.mem_cons.mp hv with rfl | hv
            · exact h3
            · rcases List.mem_cons.mp hv with rfl | hv
              · exact k3
              · cases hv
      · cases e
theorem KdF_lt (x : Int32) : KdF x < 3 := by
  unfold KdF
  split
  · decide
  · split <;> decide
theorem ItF_ok {c : Nat → Int32} {n s : Nat} {i : ItT} {s' : Nat} (e : ItF c n s = (some i, s')) : ItW i ∧ s < s' ∧ s' ≤ n := by
  unfold ItF at e
  split at e
  · next hs =>
    split at e
    · split at e
      · cases e
      · next l s1 e1 =>
        cases e
        obtain ⟨q1, q2, q3, -⟩ := PrF_ok 81 (s + 1) l s' (by omega) e1
        exact ⟨⟨Or.inl rfl, q1⟩, by omega, q3⟩
    · split at e
      · split at e
        · cases e
        · next l s1 e1 =>
          cases e
          obtain ⟨q1, q2, q3, q4⟩ := LsF_ok 3 0 (s + 1) l s' (by omega) e1
          exact ⟨⟨Or.inr (Or.inl ⟨rfl, q1⟩), q2⟩, by omega, q4⟩
      · split at e
        · split at e
          · cases e
          · next l s1 e1 =>
            cases e
            obtain ⟨q1, q2, q3, q4⟩ := LsF_ok 2 0 (s + 1) l s' (by omega) e1
            exact ⟨⟨Or.inr (Or.inr (Or.inl ⟨rfl, q1⟩)), q2⟩, by omega, q4⟩
        · split at e
          · split at e
            · cases e
            · next l s1 e1 =>
              cases e
              obtain ⟨q1, q2, q3, q4⟩ := LsF_ok 2 0 (s + 1) l s' (by omega) e1
              exact ⟨⟨Or.inr (Or.inr (Or.inr (Or.inl ⟨rfl, q1⟩))), q2⟩, by omega, q4⟩
          · split at e
            · have hk := KdF_lt (c s)
              split at e
              · cases e
              · next l s1 e1 =>
                obtain ⟨q1, q2, q3, q4⟩ := LsF_ok 4 0 (s + 1) l s1 (by omega) e1
                split at e
                · next hz =>
                  cases e
                  exact ⟨⟨Or.inr (Or.inr (Or.inr (Or.inr ⟨by simp, by simp; omega, q1⟩))), q2⟩, by omega, by omega⟩
                · cases e
                  exact ⟨⟨Or.inr (Or.inr (Or.inr (Or.inr ⟨by simp, by simp; omega, q1⟩))), q2⟩, by omega, q4⟩
            · cases e
  · cases e
section MTI
variable {S N : Nat → Nat} {d : Nat} {I : IM} {J : JM} {P : PM} {Q : Option Value → IM → JM → PM → Prop} {m : Nat} {c : Nat → Int32} {n s : Nat} {o : Bool} {t : Nat → Int32}
theorem s_charge (hm : MdS S N P m) (ht : TS m I c n s o t) {nc : Nat} (hnc : nc ≤ 4) (h18 : t 18 = nI nc)
    (hN : ∀ s', LsF c n 0 2 s = (none, s') → ∀ I' o' t', TS m I' c n s' o' t' → Pf m I I' → Q (some (.int 0)) I' J P)
    (hS : ∀ l s', LsF c n 0 2 s = (some l, s') → ∀ I', TS m I' c n s' (o || (OdL 0 0 l || !decide (nc < 4))) (if nc < 4 then (fun y => if y = 18 then nI (nc + 1) else PutL (19 + 2 * nc) l t y) else t) → Pf m I I' → Q (some (.int 1)) I' J P) :
    CWp S N (d + 3) MX9_chargeComes [.ref m] I J P Q := by
  rw [c_X9_chargeComes]
  have hm0 := hm
  unfold MdS at hm
  have h8 := ht.2.2.2.2.1
  have q1 : (19 : Int32) + 2 * nI nc = nI (19 + 2 * nc) := nIx (a := 19) (b := 2) nc
  by_cases hc : nc < 4
  · have g1 : ¬ (4 : Int32) ≤ nI nc := nI_ge (b := 4) hc (by decide)
    simp only [e_X9_chargeComes_0, e_X9_chargeComes_1, e_X9_chargeComes_4, e_X9_chargeComes_6, e_X9_chargeComes_7, e_X9_chargeComes_8, e_X9_chargeComes_11, e_X9_chargeComes_12, e_X9_chargeComes_15, e_X9_chargeComes_16, e_X9_chargeComes_17, e_X9_chargeComes_18, e_X9_chargeComes_19, e_X9_chargeComes_22, e_X9_chargeComes_24, e_X9_chargeComes_25, e_X9_chargeComes_26, e_X9_chargeComes_29, e_X9_chargeComes_31, e_X9_chargeComes_32, e_X9_chargeComes_33, e_X9_chargeComes_34, e_X9_chargeComes_37, e_X9_chargeComes_38, e_X9_chargeComes_39, e_X9_chargeComes_40, hm, h8, h18, g1, q1, ne10, cl_18, vl89_18, true_and, and_true, rf_s, not_true_eq_false, not_false_eq_true, true_implies, false_implies, kl_i, kl_n, kl_l, kl_r, Option.toList, List.cons_append, List.nil_append, if_true, if_false, u2s, lt00, lt01, lt02, lt03, le10, le20, le30, ne10, ne20, ne30, eq00]
    refine s_numbers (w := true) (a := 19 + 2 * nc) (many := 2) hm0 rfl (fun _ => by omega) (by decide) ht (fun s' e I' o' t' a1 a2 => ?_) (fun l s' e I' a1 a2 => ?_)
    · simp only [e_X9_chargeComes_43, e_X9_chargeComes_46, e_X9_chargeComes_47 isB0, e_X9_chargeComes_47 isB1, e_X9_chargeComes_47 isB_ite, true_and, and_true, rf_s, not_true_eq_false, not_false_eq_true, true_implies, false_implies, kl_i, kl_n, kl_l, kl_r, Option.toList, List.cons_append, List.nil_append, if_true, if_false, u2s, lt00, lt01, lt02, lt03, le10, le20, le30, ne10, ne20, ne30, eq00]
      exact hN s' e I' o' t' a1 a2
    · obtain ⟨l1, l2, -, -⟩ := LsF_ok 2 0 s l s' ht.2.2.2.2.2.1 e
      have hS2 := hS l s' e
      rw [decide_eq_true hc, Bool.not_true, Bool.or_false, if_pos hc] at hS2
      have b18 : PutL (19 + 2 * nc) l t 18 = nI nc := by rw [PutL_off _ _ _ _ (by omega)]; exact h18
      have fin : ∀ I2, TS m I2 c n s' (o || OdL 0 0 l) (PutL (19 + 2 * nc) l t) → Pf m I I2 → Wp S N (d + 3) MX9_chargeComes 68 [some (.ref m), some (.int 1)] [] I2 J P Q := by
        intro I2 b1 b2
        have h82 := b1.2.2.2.2.1
        simp only [e_X9_chargeComes_68, e_X9_chargeComes_69, e_X9_chargeComes_72, e_X9_chargeComes_74, e_X9_chargeComes_75, e_X9_chargeComes_76, e_X9_chargeComes_77, e_X9_chargeComes_80, e_X9_chargeComes_81, e_X9_chargeComes_84, e_X9_chargeComes_85, e_X9_chargeComes_86, e_X9_chargeComes_87, e_X9_chargeComes_88 isB0, e_X9_chargeComes_88 isB1, e_X9_chargeComes_88 isB_ite, hm, h82, b18, nI_1, ne10, cl_18, vl89_18, true_and, and_true, rf_s, not_true_eq_false, not_false_eq_true, true_implies, false_implies, kl_i, kl_n, kl_l, kl_r, Option.toList, List.cons_append, List.nil_append, if_true, if_false, u2s, lt00, lt01, lt02, lt03, le10, le20, le30, ne10, ne20, ne30, eq00]
        exact hS2 _ (b1.w 18 _) (b2.tr (Pf.w _ _))
      have h14 := a1.2.2.2.1
      cases ho : (o || OdL 0 0 l) with
      | true =>
        rw [ho] at h14 a1 fin
        have h14' : I' m 14 = 1 := h14
        simp only [e_X9_chargeComes_43, e_X9_chargeComes_48, e_X9_chargeComes_49, e_X9_chargeComes_50, e_X9_chargeComes_53, e_X9_chargeComes_56, e_X9_chargeComes_57, e_X9_chargeComes_60, e_X9_chargeComes_61, e_X9_chargeComes_64, e_X9_chargeComes_65 isB0, e_X9_chargeComes_65 isB1, e_X9_chargeComes_65 isB_ite, hm, h14', ne10, true_and, and_true, rf_s, not_true_eq_false, not_false_eq_true, true_implies, false_implies, kl_i, kl_n, kl_l, kl_r, Option.toList, List.cons_append, List.nil_append, if_true, if_false, u2s, lt00, lt01, lt02, lt03, le10, le20, le30, ne10, ne20, ne30, eq00]
        exact fin _ (a1.o true) (a2.tr (Pf.u _ (Or.inr (Or.inr rfl))))
      | false =>
        rw [ho] at h14 a1 fin
        have h14' : I' m 14 = 0 := h14
        simp only [e_X9_chargeComes_43, e_X9_chargeComes_48, e_X9_chargeComes_49, e_X9_chargeComes_50, e_X9_chargeComes_53, e_X9_chargeComes_56, e_X9_chargeComes_57, e_X9_chargeComes_60, e_X9_chargeComes_61, e_X9_chargeComes_64, e_X9_chargeComes_65 isB0, e_X9_chargeComes_65 isB1, e_X9_chargeComes_65 isB_ite, hm, h14', ne10, true_and, and_true, rf_s, not_true_eq_false, not_false_eq_true, true_implies, false_implies, kl_i, kl_n, kl_l, kl_r, Option.toList, List.cons_append, List.nil_append, if_true, if_false, u2s, lt00, lt01, lt02, lt03, le10, le20, le30, ne10, ne20, ne30, eq00]
        exact fin _ (a1.o false) (a2.tr (Pf.u _ (Or.inr (Or.inr rfl))))
  · have g1 : (4 : Int32) ≤ nI nc := nI_le (a := 4) (by omega) (by omega)
    simp only [e_X9_chargeComes_0, e_X9_chargeComes_1, e_X9_chargeComes_4, e_X9_chargeComes_6, e_X9_chargeComes_7, e_X9_chargeComes_8, e_X9_chargeComes_11, e_X9_chargeComes_12, e_X9_chargeComes_15, e_X9_chargeComes_16, e_X9_chargeComes_17, e_X9_chargeComes_18, e_X9_chargeComes_19, e_X9_chargeComes_22, e_X9_chargeComes_24, e_X9_chargeComes_25, e_X9_chargeComes_26, e_X9_chargeComes_29, e_X9_chargeComes_31, e_X9_chargeComes_32, e_X9_chargeComes_33, e_X9_chargeComes_34, e_X9_chargeComes_37, e_X9_chargeComes_38, e_X9_chargeComes_39, e_X9_chargeComes_40, hm, h8, h18, g1, q1, ne10, cl_18, vl89_18, true_and, and_true, rf_s, not_true_eq_false, not_false_eq_true, true_implies, false_implies, kl_i, kl_n, kl_l, kl_r, Option.toList, List.cons_append, List.nil_append, if_true, if_false, u2s, lt00, lt01, lt02, lt03, le10, le20, le30, ne10, ne20, ne30, eq00]
    refine s_numbers (w := false) (a := 0) (many := 2) hm0 rfl (fun z => by cases z) (by decide) ht (fun s' e I' o' t' a1 a2 => ?_) (fun l s' e I' a1 a2 => ?_)
    · simp only [e_X9_chargeComes_43, e_X9_chargeComes_46, e_X9_chargeComes_47 isB0, e_X9_chargeComes_47 isB1, e_X9_chargeComes_47 isB_ite, true_and, and_true, rf_s, not_true_eq_false, not_false_eq_true, true_implies, false_implies, kl_i, kl_n, kl_l, kl_r, Option.toList, List.cons_append, List.nil_append, if_true, if_false, u2s, lt00, lt01, lt02, lt03, le10, le20, le30, ne10, ne20, ne30, eq00]
      exact hN s' e I' o' t' a1 a2
    · have hS2 := hS l s' e
      rw [decide_eq_false hc, Bool.not_false, Bool.or_true, Bool.or_true, if_neg hc] at hS2
      have fin : ∀ I2, TS m I2 c n s' true t → Pf m I I2 → Wp S N (d + 3) MX9_chargeComes 68 [some (.ref m), some (.int 0)] [] I2 J P Q := by
        intro I2 b1 b2
        have h82 := b1.2.2.2.2.1
        have z : nI nc + 0 = nI nc := by rw [show (0 : Int32) = nI 0 from rfl, nI_add, Nat.add_zero]
        simp only [e_X9_chargeComes_68, e_X9_chargeComes_69, e_X9_chargeComes_72, e_X9_chargeComes_74, e_X9_chargeComes_75, e_X9_chargeComes_76, e_X9_chargeComes_77, e_X9_chargeComes_80, e_X9_chargeComes_81, e_X9_chargeComes_84, e_X9_chargeComes_85, e_X9_chargeComes_86, e_X9_chargeComes_87, e_X9_chargeComes_88 isB0, e_X9_chargeComes_88 isB1, e_X9_chargeComes_88 isB_ite, hm, h82, h18, z, cl_18, vl89_18, true_and, and_true, rf_s, not_true_eq_false, not_false_eq_true, true_implies, false_implies, kl_i, kl_n, kl_l, kl_r, Option.toList, List.cons_append, List.nil_append, if_true, if_false, u2s, lt00, lt01, lt02, lt03, le10, le20, le30, ne10, ne20, ne30, eq00]
        refine hS2 _ ?_ (b2.tr (Pf.w _ _))
        have h9 := b1.w 18 (nI nc)
        rw [show (fun y => if y = 18 then nI nc else t y) = t from funext fun y => by
          by_cases hy : y = 18
          · subst hy; rw [if_pos rfl, h18]
          · rw [if_neg hy]] at h9
        exact h9
      have h14 := a1.2.2.2.1
      have q14 : ∀ w : Int32, w = 1 ∨ w = 0 → I' m 14 = w → Wp S N (d + 3) MX9_chargeComes 48 [some (.ref m), some (.int 0)] [] I' J P Q := by
        intro w hw h14'
        rcases hw with rfl | rfl
        · simp only [e_X9_chargeComes_48, e_X9_chargeComes_49, e_X9_chargeComes_50, e_X9_chargeComes_53, e_X9_chargeComes_56, e_X9_chargeComes_57, e_X9_chargeComes_60, e_X9_chargeComes_61, e_X9_chargeComes_64, e_X9_chargeComes_65 isB0, e_X9_chargeComes_65 isB1, e_X9_chargeComes_65 isB_ite, hm, h14', ne10, true_and, and_true, rf_s, not_true_eq_false, not_false_eq_true, true_implies, false_implies, kl_i, kl_n, kl_l, kl_r, Option.toList, List.cons_append, List.nil_append, if_true, if_false, u2s, lt00, lt01, lt02, lt03, le10, le20, le30, ne10, ne20, ne30, eq00]
          exact fin _ (a1.o true) (a2.tr (Pf.u _ (Or.inr (Or.inr rfl))))
        · simp only [e_X9_chargeComes_48, e_X9_chargeComes_49, e_X9_chargeComes_50, e_X9_chargeComes_53, e_X9_chargeComes_56, e_X9_chargeComes_57, e_X9_chargeComes_60, e_X9_chargeComes_61, e_X9_chargeComes_64, e_X9_chargeComes_65 isB0, e_X9_chargeComes_65 isB1, e_X9_chargeComes_65 isB_ite, hm, h14', ne10, true_and, and_true, rf_s, not_true_eq_false, not_false_eq_true, true_implies, false_implies, kl_i, kl_n, kl_l, kl_r, Option.toList, List.cons_append, List.nil_append, if_true, if_false, u2s, lt00, lt01, lt02, lt03, le10, le20, le30, ne10, ne20, ne30, eq00]
          exact fin _ (a1.o true) (a2.tr (Pf.u _ (Or.inr (Or.inr rfl))))
      simp only [e_X9_chargeComes_43, ne10, true_and, and_true, rf_s, not_true_eq_false, not_false_eq_true, true_implies, false_implies, kl_i, kl_n, kl_l, kl_r, Option.toList, List.cons_append, List.nil_append, if_true, if_false, u2s, lt00, lt01, lt02, lt03, le10, le20, le30, ne10, ne20, ne30, eq00]
      refine q14 _ ?_ h14
      cases (o || OdL 0 0 l)
      · exact Or.inr rfl
      · exact Or.inl rfl
theorem s_creditC (hm : MdS S N P m) (ht : TS m I c n s o t) {nk kd : Nat} (hnk : nk ≤ 6) (h27 : t 27 = nI nk)
    (hN : ∀ s', LsF c n 0 4 s = (none, s') → ∀ I' o' t', TS m I' c n s' o' t' → Pf m I I' → Q (some (.int 0)) I' J P)
    (hS : ∀ l s', LsF c n 0 4 s = (some l, s') → ∀ I' e s2, ((s' < n ∧ c s' = 42 ∧ e = true ∧ s2 = s' + 1) ∨ (¬ (s' < n ∧ c s' = 42) ∧ e = false ∧ s2 = s')) → TS m I' c n s2 (o || (OdL 10 0 l || !decide (nk < 6))) (if nk < 6 then (fun y => if y = 27 then nI (nk + 1) else if y = 33 + 6 * nk then bI e else if y = 28 + 6 * nk then nI kd else PutL (29 + 6 * nk) l t y) else t) → Pf m I I' → Q (some (.int 1)) I' J P) :
    CWp S N (d + 3) MX9_creditComes [.ref m, .int (nI kd)] I J P Q := by
  rw [c_X9_creditComes]
  have hm0 := hm
  unfold MdS at hm
  have h8 := ht.2.2.2.2.1
  have q1 : (28 : Int32) + 6 * nI nk = nI (28 + 6 * nk) := nIx (a := 28) (b := 6) nk
  have q2 : nI (28 + 6 * nk) + 1 = nI (29 + 6 * nk) := by rw [nI_1]; congr 1; omega
  have q3 : nI (28 + 6 * nk) + 5 = nI (33 + 6 * nk) := by rw [show (5 : Int32) = nI 5 from rfl, nI_add]; congr 1; omega
  -- behind the star
  have behind : ∀ (l : List Nat) (s' : Nat) (e : Bool) (s2 : Nat) (I1 : IM) (t1 : Nat → Int32), LsF c n 0 4 s = (some l, s') → ((s' < n ∧ c s' = 42 ∧ e = true ∧ s2 = s' + 1) ∨ (¬ (s' < n ∧ c s' = 42) ∧ e = false ∧ s2 = s')) → t1 = (if nk < 6 then PutL (29 + 6 * nk) l t else t) → TS m I1 c n s2 (o || OdL 10 0 l) t1 → Pf m I I1 → Wp S N (d + 3) MX9_creditComes 61 [some (.ref m), some (.int (nI kd)), some (.int (bI (decide (nk < 6)))), some (.int (nI (28 + 6 * nk))), none] [.int (bI e)] I1 J P Q := by
    intro l s' e s2 I1 t1 eL hse ht1 a1 a2
    have hS2 := fun I' => hS l s' eL I' e s2 hse
    obtain ⟨l1, -, -, -⟩ := LsF_ok 4 0 s l s' ht.2.2.2.2.2.1 eL
    have fin : ∀ I2, TS m I2 c n s2 (o || (OdL 10 0 l || !decide (nk < 6))) t1 → Pf m I I2 → Wp S N (d + 3) MX9_creditComes 83 [some (.ref m), some (.int (nI kd)), some (.int (bI (decide (nk < 6)))), some (.int (nI (28 + 6 * nk))), some (.int (bI e))] [] I2 J P Q := by
      intro I2 b1 b2
      by_cases hc : nk < 6
      · have e9 : bI (decide (nk < 6)) = 1 := by rw [decide_eq_true hc]; rfl
        rw [if_pos hc] at hS2 ht1
        rw [e9]
        have w1 := b1.w (28 + 6 * nk) (nI kd)
        have w2 := w1.w (33 + 6 * nk) (bI e)
        have h82 := w2.2.2.2.2.1
        have x27 : (if (27 : Nat) = 33 + 6 * nk then bI e else if 27 = 28 + 6 * nk then nI kd else t1 27) = nI nk := by
          rw [if_neg (by omega), if_neg (by omega), ht1, PutL_off _ _ _ _ (by omega)]; exact h27
        have w3 := hS2 _ (by have h9 := w2.w 27 (nI (nk + 1)); rw [ht1] at h9; exact h9) (((b2.tr (Pf.w _ _)).tr (Pf.w _ _)).tr (Pf.w _ _))
        cases e with
        | true =>
          have e8 : bI true = 1 := rfl
          rw [e8] at h82 x27 w3 ⊢
          simp only [e_X9_creditComes_83, e_X9_creditComes_84, e_X9_creditComes_87, e_X9_creditComes_88, e_X9_creditComes_91, e_X9_creditComes_92, e_X9_creditComes_93, e_X9_creditComes_94, e_X9_creditComes_95, e_X9_creditComes_98, e_X9_creditComes_99, e_X9_creditComes_100, e_X9_creditComes_101, e_X9_creditComes_103, e_X9_creditComes_106, e_X9_creditComes_107, e_X9_creditComes_110, e_X9_creditComes_111, e_X9_creditComes_112, e_X9_creditComes_113, e_X9_creditComes_116, e_X9_creditComes_118, e_X9_creditComes_119, e_X9_creditComes_120, e_X9_creditComes_121, e_X9_creditComes_122, e_X9_creditComes_123, e_X9_creditComes_124 isB0, e_X9_creditComes_124 isB1, e_X9_creditComes_124 isB_ite, hm, ne10, q3, h82, x27, nI_1, cl_27, vl89_27, nI_clamp (show 28 + 6 * nk < 2 ^ 31 by omega), nI_clamp (show 33 + 6 * nk < 2 ^ 31 by omega), vpn (show 28 + 6 * nk < 89 by omega) (by decide), vpn (show 33 + 6 * nk < 89 by omega) (by decide), true_and, and_true, rf_s, not_true_eq_false, not_false_eq_true, true_implies, false_implies, kl_i, kl_n, kl_l, kl_r, Option.toList, List.cons_append, List.nil_append, if_true, if_false, u2s, lt00, lt01, lt02, lt03, le10, le20, le30, ne10, ne20, ne30, eq00]
          exact w3
        | false =>
          have e8 : bI false = 0 := rfl
          rw [e8] at h82 x27 w3 ⊢
          simp only [e_X9_creditComes_83, e_X9_creditComes_84, e_X9_creditComes_87, e_X9_creditComes_88, e_X9_creditComes_91, e_X9_creditComes_92, e_X9_creditComes_93, e_X9_creditComes_94, e_X9_creditComes_95, e_X9_creditComes_98, e_X9_creditComes_99, e_X9_creditComes_100, e_X9_creditComes_101, e_X9_creditComes_103, e_X9_creditComes_106, e_X9_creditComes_107, e_X9_creditComes_110, e_X9_creditComes_111, e_X9_creditComes_112, e_X9_creditComes_113, e_X9_creditComes_116, e_X9_creditComes_118, e_X9_creditComes_119, e_X9_creditComes_120, e_X9_creditComes_121, e_X9_creditComes_122, e_X9_creditComes_123, e_X9_creditComes_124 isB0, e_X9_creditComes_124 isB1, e_X9_creditComes_124 isB_ite, hm, ne10, q3, h82, x27, nI_1, cl_27, vl89_27, nI_clamp (show 28 + 6 * nk < 2 ^ 31 by omega), nI_clamp (show 33 + 6 * nk < 2 ^ 31 by omega), vpn (show 28 + 6 * nk < 89 by omega) (by decide), vpn (show 33 + 6 * nk < 89 by omega) (by decide), true_and, and_true, rf_s, not_true_eq_false, not_false_eq_true, true_implies, false_implies, kl_i, kl_n, kl_l, kl_r, Option.toList, List.cons_append, List.nil_append, if_true, if_false, u2s, lt00, lt01, lt02, lt03, le10, le20, le30, ne10, ne20, ne30, eq00]
          exact w3
      · have e9 : bI (decide (nk < 6)) = 0 := by rw [decide_eq_false hc]; rfl
        rw [if_neg hc] at hS2 ht1
        rw [e9]
        simp only [e_X9_creditComes_83, e_X9_creditComes_84, e_X9_creditComes_87, e_X9_creditComes_88, e_X9_creditComes_91, e_X9_creditComes_92, e_X9_creditComes_93, e_X9_creditComes_94, e_X9_creditComes_95, e_X9_creditComes_98, e_X9_creditComes_99, e_X9_creditComes_100, e_X9_creditComes_101, e_X9_creditComes_103, e_X9_creditComes_106, e_X9_creditComes_107, e_X9_creditComes_110, e_X9_creditComes_111, e_X9_creditComes_112, e_X9_creditComes_113, e_X9_creditComes_116, e_X9_creditComes_118, e_X9_creditComes_119, e_X9_creditComes_120, e_X9_creditComes_121, e_X9_creditComes_122, e_X9_creditComes_123, e_X9_creditComes_124 isB0, e_X9_creditComes_124 isB1, e_X9_creditComes_124 isB_ite, true_and, and_true, rf_s, not_true_eq_false, not_false_eq_true, true_implies, false_implies, kl_i, kl_n, kl_l, kl_r, Option.toList, List.cons_append, List.nil_append, if_true, if_false, u2s, lt00, lt01, lt02, lt03, le10, le20, le30, ne10, ne20, ne30, eq00]
        rw [ht1] at b1
        exact hS2 _ b1 b2
    have fin1 := fin _ (a1.o (o || (OdL 10 0 l || !decide (nk < 6)))) (a2.tr (Pf.u _ (Or.inr (Or.inr rfl))))
    have h14 := a1.2.2.2.1
    by_cases hc : nk < 6
    · have e9 : bI (decide (nk < 6)) = 1 := by rw [decide_eq_true hc]; rfl
      rw [decide_eq_true hc, Bool.not_true, Bool.or_false] at fin1
      cases ho : (o || OdL 10 0 l) with
      | true =>
        rw [ho] at h14 fin1
        have h14' : I1 m 14 = 1 := h14
        have e8 : bI true = 1 := rfl
        rw [e8] at fin1
        simp only [e_X9_creditComes_61, e_X9_creditComes_63, e_X9_creditComes_64, e_X9_creditComes_65, e_X9_creditComes_68, e_X9_creditComes_71, e_X9_creditComes_72, e_X9_creditComes_75, e_X9_creditComes_76, e_X9_creditComes_79, e_X9_creditComes_80 isB0, e_X9_creditComes_80 isB1, e_X9_creditComes_80 isB_ite, hm, h14', e8, e9, decide_eq_true hc, ne10, true_and, and_true, rf_s, not_true_eq_false, not_false_eq_true, true_implies, false_implies, kl_i, kl_n, kl_l, kl_r, Option.toList, List.cons_append, List.nil_append, if_true, if_false, u2s, lt00, lt01, lt02, lt03, le10, le20, le30, ne10, ne20, ne30, eq00]
        exact fin1
      | false =>
        rw [ho] at h14 fin1
        have h14' : I1 m 14 = 0 := h14
        have e8 : bI true = 1 := rfl
        have e7 : bI false = 0 := rfl
        rw [e8, e7] at fin1
        simp only [e_X9_creditComes_61, e_X9_creditComes_63, e_X9_creditComes_64, e_X9_creditComes_65, e_X9_creditComes_68, e_X9_creditComes_71, e_X9_creditComes_72, e_X9_creditComes_75, e_X9_creditComes_76, e_X9_creditComes_79, e_X9_creditComes_80 isB0, e_X9_creditComes_80 isB1, e_X9_creditComes_80 isB_ite, hm, h14', e8, e9, decide_eq_true hc, ne10, true_and, and_true, rf_s, not_true_eq_false, not_false_eq_true, true_implies, false_implies, kl_i, kl_n, kl_l, kl_r, Option.toList, List.cons_append, List.nil_append, if_true, if_false, u2s, lt00, lt01, lt02, lt03, le10, le20, le30, ne10, ne20, ne30, eq00]
        exact fin1
    · have e9 : bI (decide (nk < 6)) = 0 := by rw [decide_eq_false hc]; rfl
      rw [decide_eq_false hc, Bool.not_false, Bool.or_true, Bool.or_true] at fin1
      have e8 : bI true = 1 := rfl
      have e7 : bI false = 0 := rfl
      rw [e8, e7] at fin1
      cases ho : (o || OdL 10 0 l) with
      | true =>
        rw [ho] at h14
        have h14' : I1 m 14 = 1 := h14
        simp only [e_X9_creditComes_61, e_X9_creditComes_63, e_X9_creditComes_64, e_X9_creditComes_65, e_X9_creditComes_68, e_X9_creditComes_71, e_X9_creditComes_72, e_X9_creditComes_75, e_X9_creditComes_76, e_X9_creditComes_79, e_X9_creditComes_80 isB0, e_X9_creditComes_80 isB1, e_X9_creditComes_80 isB_ite, hm, h14', e7, e9, decide_eq_false hc, ne10, true_and, and_true, rf_s, not_true_eq_false, not_false_eq_true, true_implies, false_implies, kl_i, kl_n, kl_l, kl_r, Option.toList, List.cons_append, List.nil_append, if_true, if_false, u2s, lt00, lt01, lt02, lt03, le10, le20, le30, ne10, ne20, ne30, eq00]
        exact fin1
      | false =>
        rw [ho] at h14
        have h14' : I1 m 14 = 0 := h14
        simp only [e_X9_creditComes_61, e_X9_creditComes_63, e_X9_creditComes_64, e_X9_creditComes_65, e_X9_creditComes_68, e_X9_creditComes_71, e_X9_creditComes_72, e_X9_creditComes_75, e_X9_creditComes_76, e_X9_creditComes_79, e_X9_creditComes_80 isB0, e_X9_creditComes_80 isB1, e_X9_creditComes_80 isB_ite, hm, h14', e7, e9, decide_eq_false hc, ne10, true_and, and_true, rf_s, not_true_eq_false, not_false_eq_true, true_implies, false_implies, kl_i, kl_n, kl_l, kl_r, Option.toList, List.cons_append, List.nil_append, if_true, if_false, u2s, lt00, lt01, lt02, lt03, le10, le20, le30, ne10, ne20, ne30, eq00]
        exact fin1
  have star : ∀ (l : List Nat) (s' : Nat) (I1 : IM) (t1 : Nat → Int32), LsF c n 0 4 s = (some l, s') → t1 = (if nk < 6 then PutL (29 + 6 * nk) l t else t) → TS m I1 c n s' (o || OdL 10 0 l) t1 → Pf m I I1 → Wp S N (d + 3) MX9_creditComes 50 [some (.ref m), some (.int (nI kd)), some (.int (bI (decide (nk < 6)))), some (.int (nI (28 + 6 * nk))), none] [.int 1] I1 J P Q := by
    intro l s' I1 t1 eL ht1 a1 a2
    simp only [e_X9_creditComes_50, e_X9_creditComes_53, e_X9_creditComes_54 isB0, e_X9_creditComes_54 isB1, e_X9_creditComes_54 isB_ite, e_X9_creditComes_55, e_X9_creditComes_56, e_X9_creditComes_58, hm, ne10, true_and, and_true, rf_s, not_true_eq_false, not_false_eq_true, true_implies, false_implies, kl_i, kl_n, kl_l, kl_r, Option.toList, List.cons_append, List.nil_append, if_true, if_false, u2s, lt00, lt01, lt02, lt03, le10, le20, le30, ne10, ne20, ne30, eq00]
    by_cases hy : s' < n ∧ c s' = 42
    · refine s_skipY hm0 a1 hy (fun I2 b1 b2 => ?_)
      exact behind l s' true (s' + 1) I2 t1 eL (Or.inl ⟨hy.1, hy.2, rfl, rfl⟩) ht1 b1 (a2.tr b2)
    · rw [s_skipN hm0 a1 (by decide) hy]
      exact behind l s' false s' I1 t1 eL (Or.inr ⟨hy, rfl, rfl⟩) ht1 a1 a2
  by_cases hc : nk < 6
  · have g1 : ¬ (6 : Int32) ≤ nI nk := nI_ge (b := 6) hc (by decide)
    have e8 : bI true = 1 := rfl
    simp only [decide_eq_true hc, if_pos hc, e8] at star
    simp only [e_X9_creditComes_0, e_X9_creditComes_1, e_X9_creditComes_4, e_X9_creditComes_6, e_X9_creditComes_7, e_X9_creditComes_9, e_X9_creditComes_12, e_X9_creditComes_13, e_X9_creditComes_16, e_X9_creditComes_17, e_X9_creditComes_18, e_X9_creditComes_20, e_X9_creditComes_22, e_X9_creditComes_23, e_X9_creditComes_26, e_X9_creditComes_28, e_X9_creditComes_29, e_X9_creditComes_30, e_X9_creditComes_31, e_X9_creditComes_32, e_X9_creditComes_33, e_X9_creditComes_34, e_X9_creditComes_37, e_X9_creditComes_38, e_X9_creditComes_39, e_X9_creditComes_40, e_X9_creditComes_43, e_X9_creditComes_44, e_X9_creditComes_45, e_X9_creditComes_47, hm, h8, h27, g1, q1, q2, ne10, cl_27, vl89_27, true_and, and_true, rf_s, not_true_eq_false, not_false_eq_true, true_implies, false_implies, kl_i, kl_n, kl_l, kl_r, Option.toList, List.cons_append, List.nil_append, if_true, if_false, u2s, lt00, lt01, lt02, lt03, le10, le20, le30, ne10, ne20, ne30, eq00]
    refine s_numbers (w := true) (a := 29 + 6 * nk) (many := 4) hm0 rfl (fun _ => by omega) (by decide) ht (fun s' e I' o' t' a1 a2 => ?_) (fun l s' e I' a1 a2 => ?_)
    · simp only [e_X9_creditComes_50, e_X9_creditComes_53, e_X9_creditComes_54 isB0, e_X9_creditComes_54 isB1, e_X9_creditComes_54 isB_ite, true_and, and_true, rf_s, not_true_eq_false, not_false_eq_true, true_implies, false_implies, kl_i, kl_n, kl_l, kl_r, Option.toList, List.cons_append, List.nil_append, if_true, if_false, u2s, lt00, lt01, lt02, lt03, le10, le20, le30, ne10, ne20, ne30, eq00]
      exact hN s' e I' o' t' a1 a2
    · exact star l s' I' _ e rfl a1 a2
  · have g1 : (6 : Int32) ≤ nI nk := nI_le (a := 6) (by omega) (by omega)
    have e8 : bI false = 0 := rfl
    simp only [decide_eq_false hc, e8] at star
    simp only [e_X9_creditComes_0, e_X9_creditComes_1, e_X9_creditComes_4, e_X9_creditComes_6, e_X9_creditComes_7, e_X9_creditComes_9, e_X9_creditComes_12, e_X9_creditComes_13, e_X9_creditComes_16, e_X9_creditComes_17, e_X9_creditComes_18, e_X9_creditComes_20, e_X9_creditComes_22, e_X9_creditComes_23, e_X9_creditComes_26, e_X9_creditComes_28, e_X9_creditComes_29, e_X9_creditComes_30, e_X9_creditComes_31, e_X9_creditComes_32, e_X9_creditComes_33, e_X9_creditComes_34, e_X9_creditComes_37, e_X9_creditComes_38, e_X9_creditComes_39, e_X9_creditComes_40, e_X9_creditComes_43, e_X9_creditComes_44, e_X9_creditComes_45, e_X9_creditComes_47, hm, h8, h27, g1, q1, q2, ne10, cl_27, vl89_27, true_and, and_true, rf_s, not_true_eq_false, not_false_eq_true, true_implies, false_implies, kl_i, kl_n, kl_l, kl_r, Option.toList, List.cons_append, List.nil_append, if_true, if_false, u2s, lt00, lt01, lt02, lt03, le10, le20, le30, ne10, ne20, ne30, eq00]
    refine s_numbers (w := false) (a := 0) (many := 4) hm0 rfl (fun z => by cases z) (by decide) ht (fun s' e I' o' t' a1 a2 => ?_) (fun l s' e I' a1 a2 => ?_)
    · simp only [e_X9_creditComes_50, e_X9_creditComes_53, e_X9_creditComes_54 isB0, e_X9_creditComes_54 isB1, e_X9_creditComes_54 isB_ite, true_and, and_true, rf_s, not_true_eq_false, not_false_eq_true, true_implies, false_implies, kl_i, kl_n, kl_l, kl_r, Option.toList, List.cons_append, List.nil_append, if_true, if_false, u2s, lt00, lt01, lt02, lt03, le10, le20, le30, ne10, ne20, ne30, eq00]
      exact hN s' e I' o' t' a1 a2
    · exact star l s' I' _ e (if_neg hc).symm a1 a2
end MTI

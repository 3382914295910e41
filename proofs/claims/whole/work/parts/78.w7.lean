/-! items keep the rules within their ranges; addRules in the class -/
theorem LsF_le {c : Nat → Int32} {n : Nat} : ∀ (r k s : Nat), s ≤ n → (LsF c n k r s).2 ≤ n
  | 0, k, s, h => by rw [LsF]; exact h
  | r + 1, k, s, h => by
    rw [LsF]
    split
    · exact h
    · next hz =>
      have h0 : (if 0 < k then s + 1 else s) ≤ n := by
        split
        · next hk =>
          have : s < n := Classical.byContradiction fun z => hz ⟨hk, fun y => z y.1⟩
          omega
        · exact h
      have h1 := (NumF_le (c := c) h0).2
      split
      · next s1 e1 => rw [e1] at h1; exact h1
      · next v s1 e1 =>
        rw [e1] at h1
        have h2 := LsF_le (c := c) r (k + 1) s1 h1
        split
        · next s2 e2 => rw [e2] at h2; exact h2
        · next l s2 e2 => rw [e2] at h2; exact h2
theorem PrF_le {c : Nat → Int32} {n : Nat} : ∀ (f s : Nat), s ≤ n → (PrF c n f s).2 ≤ n
  | 0, s, h => by rw [PrF]; exact h
  | f + 1, s, h => by
    rw [PrF]
    have h1 := (NumF_le (c := c) h).2
    split
    · next s1 e1 => rw [e1] at h1; exact h1
    · next a s1 e1 =>
      rw [e1] at h1
      split
      · next hz =>
        have h2 := (NumF_le (c := c) (show s1 + 1 ≤ n by omega)).2
        split
        · next s2 e2 => rw [e2] at h2; exact h2
        · next b s2 e2 =>
          rw [e2] at h2
          split
          · next hy =>
            have h3 := PrF_le (c := c) f (s2 + 1) (show s2 + 1 ≤ n by omega)
            split
            · next s3 e3 => rw [e3] at h3; exact h3
            · next l s3 e3 => rw [e3] at h3; exact h3
          · exact h2
      · exact h1
theorem ItF_le {c : Nat → Int32} {n s : Nat} (h : s ≤ n) : (ItF c n s).2 ≤ n := by
  unfold ItF
  split
  · next hs =>
    have hp := PrF_le (c := c) 81 (s + 1) (show s + 1 ≤ n by omega)
    have h3 := LsF_le (c := c) 3 0 (s + 1) (show s + 1 ≤ n by omega)
    have h2 := LsF_le (c := c) 2 0 (s + 1) (show s + 1 ≤ n by omega)
    have h4 := LsF_le (c := c) 4 0 (s + 1) (show s + 1 ≤ n by omega)
    split
    · split
      · next s1 e1 => rw [e1] at hp; exact hp
      · next l s1 e1 => rw [e1] at hp; exact hp
    · split
      · split
        · next s1 e1 => rw [e1] at h3; exact h3
        · next l s1 e1 => rw [e1] at h3; exact h3
      · split
        · split
          · next s1 e1 => rw [e1] at h2; exact h2
          · next l s1 e1 => rw [e1] at h2; exact h2
        · split
          · split
            · next s1 e1 => rw [e1] at h2; exact h2
            · next l s1 e1 => rw [e1] at h2; exact h2
          · split
            · split
              · next s1 e1 => rw [e1] at h4; exact h4
              · next l s1 e1 =>
                rw [e1] at h4
                split
                · next hz => exact hz.1
                · exact h4
            · exact h
  · exact h
theorem ItsF_le {c : Nat → Int32} {n : Nat} : ∀ (f s : Nat), s ≤ n → (ItsF c n f s).2 ≤ n
  | 0, s, h => by rw [ItsF]; exact h
  | f + 1, s, h => by
    rw [ItsF]
    have h1 := ItF_le (c := c) h
    split
    · next s1 e1 => rw [e1] at h1; exact h1
    · next i s1 e1 =>
      rw [e1] at h1
      split
      · next hz =>
        have h2 := ItsF_le (c := c) f (s1 + 1) (show s1 + 1 ≤ n by omega)
        split
        · next s2 e2 => rw [e2] at h2; exact h2
        · next l s2 e2 => rw [e2] at h2; exact h2
      · split
        · exact h1
        · exact h1
theorem ItF_ev {c : Nat → Int32} {n s : Nat} {i : ItT} {s' : Nat} (e : ItF c n s = (some i, s')) (h0 : i.1 = 0) : ∃ j, i.2.1.length = 2 * j ∧ 0 < j := by
  unfold ItF at e
  split at e
  · next hs =>
    split at e
    · split at e
      · cases e
      · next l s1 e1 =>
        cases e
        exact (PrF_ok 81 (s + 1) l s' (by omega) e1).2.2.2
    · split at e
      · split at e
        · cases e
        · next l s1 e1 =>
          cases e
          exact absurd h0 (by simp)
      · split at e
        · split at e
          · cases e
          · next l s1 e1 =>
            cases e
            exact absurd h0 (by simp)
        · split at e
          · split at e
            · cases e
            · next l s1 e1 =>
              cases e
              exact absurd h0 (by simp)
          · split at e
            · split at e
              · cases e
              · next l s1 e1 =>
                split at e
                · cases e
                  exact absurd h0 (by simp)
                · cases e
                  exact absurd h0 (by simp)
            · cases e
  · cases e
theorem ItsF_ev {c : Nat → Int32} {n : Nat} : ∀ (f s : Nat) (l : List ItT) (s' : Nat), s ≤ n → ItsF c n f s = (some l, s') → ∀ i ∈ l, ItW i ∧ (i.1 = 0 → ∃ j, i.2.1.length = 2 * j ∧ 0 < j)
  | 0, s, l, s', h, e => by rw [ItsF] at e; cases e
  | f + 1, s, l, s', h, e => by
    rw [ItsF] at e
    split at e
    · cases e
    · next i s1 e1 =>
      obtain ⟨h1, h2, h3⟩ := ItF_ok e1
      split at e
      · next hy =>
        split at e
        · cases e
        · next l2 s2 e2 =>
          cases e
          intro x hx
          rcases List.mem_cons.mp hx with rfl | hx
          · exact ⟨h1, fun z => ItF_ev e1 z⟩
          · exact ItsF_ev f (s1 + 1) l2 s' (by omega) e2 x hx
      · split at e
        · cases e
        · cases e
          intro x hx
          rcases List.mem_cons.mp hx with rfl | hx
          · exact ⟨h1, fun z => ItF_ev e1 z⟩
          · cases hx
/-! the parts of a good state -/
def GB (g : Nat → Int32) (nb : Nat) : Prop := nb ≤ 6 ∧ 1 ≤ nb ∧ g 0 = nI nb ∧ ∀ k, k < nb → Bd (g (1 + 2 * k)) 9999 ∧ Bd (g (2 + 2 * k)) 999
def GS (g : Nat → Int32) : Prop := (∀ j, j < 5 → Bd (g (13 + j)) 9999) ∧ (Bd (g 15) 999 ∧ Bd (g 17) 999)
def GC (g : Nat → Int32) (nc : Nat) : Prop := nc ≤ 4 ∧ g 18 = nI nc ∧ ∀ k, k < nc → Bd (g (19 + 2 * k)) 9999 ∧ Bd (g (20 + 2 * k)) 9999
def GK (g : Nat → Int32) (nk : Nat) : Prop := nk ≤ 6 ∧ g 27 = nI nk ∧ ∀ k, k < nk → Bd (g (28 + 6 * k)) 2 ∧ Bd (g (29 + 6 * k)) 9999 ∧ Bd (g (30 + 6 * k)) 999 ∧ Bd (g (31 + 6 * k)) 9999 ∧ Bd (g (32 + 6 * k)) 999 ∧ Bd (g (33 + 6 * k)) 1
def GP (g : Nat → Int32) : Prop := CpA g ∧ ∀ p, p < 6 → Bd (g (64 + 3 * p)) 9999 ∧ Bd (g (65 + 3 * p)) 9999 ∧ Bd (g (66 + 3 * p)) 9
theorem Gd_iff {g : Nat → Int32} {nb nc nk : Nat} : Gd g nb nc nk ↔ GB g nb ∧ GS g ∧ GC g nc ∧ GK g nk ∧ GP g :=
  ⟨fun ⟨⟨a1, a2, a3, a4, a5, a6⟩, h2, h3, h4, h5, h6, h7, h8, h9⟩ => ⟨⟨a1, h3, a4, h4⟩, ⟨h5, h6⟩, ⟨a2, a5, h7⟩, ⟨a3, a6, h8⟩, h2, h9⟩,
   fun ⟨⟨a1, h3, a4, h4⟩, ⟨h5, h6⟩, ⟨a2, a5, h7⟩, ⟨a3, a6, h8⟩, h2, h9⟩ => ⟨⟨a1, a2, a3, a4, a5, a6⟩, h2, h3, h4, h5, h6, h7, h8, h9⟩⟩
section GG
variable {g g' : Nat → Int32} {nb nc nk : Nat}
theorem GB.cg (h : GB g nb) (e : ∀ y, y < 13 → g' y = g y) : GB g' nb := by
  obtain ⟨h1, h2, h3, h4⟩ := h
  refine ⟨h1, h2, by rw [e 0 (by decide)]; exact h3, fun k hk => ?_⟩
  rw [e _ (by omega), e _ (by omega)]
  exact h4 k hk
theorem GS.cg (h : GS g) (e : ∀ y, 13 ≤ y → y < 18 → g' y = g y) : GS g' := by
  refine ⟨fun j hj => ?_, ?_⟩
  · rw [e _ (by omega) (by omega)]; exact h.1 j hj
  · rw [e 15 (by decide) (by decide), e 17 (by decide) (by decide)]; exact h.2
theorem GC.cg (h : GC g nc) (e : ∀ y, 18 ≤ y → y < 27 → g' y = g y) : GC g' nc := by
  obtain ⟨h1, h2, h3⟩ := h
  refine ⟨h1, by rw [e 18 (by decide) (by decide)]; exact h2, fun k hk => ?_⟩
  rw [e _ (by omega) (by omega), e _ (by omega) (by omega)]
  exact h3 k hk
theorem GK.cg (h : GK g nk) (e : ∀ y, 27 ≤ y → y < 64 → g' y = g y) : GK g' nk := by
  obtain ⟨h1, h2, h3⟩ := h
  refine ⟨h1, by rw [e 27 (by decide) (by decide)]; exact h2, fun k hk => ?_⟩
  rw [e _ (by omega) (by omega), e _ (by omega) (by omega), e _ (by omega) (by omega), e _ (by omega) (by omega), e _ (by omega) (by omega), e _ (by omega) (by omega)]
  exact h3 k hk
theorem CpA.cg (h : CpA g) (e : ∀ y, 64 ≤ y → y < 88 → g' y = g y) : CpA g' := by
  intro p hp
  rcases h p hp with q | ⟨q, b1, b2, b3, b4, b5, b6⟩
  · exact Or.inl (by rw [e _ (by omega) (by omega)]; exact q)
  · refine Or.inr ⟨q, b1, b2, b3, ?_, ?_, ?_⟩
    · rw [e _ (by omega) (by omega)]; exact b4
    · rw [e _ (by omega) (by omega)]; exact b5
    · rw [e _ (by omega) (by omega), e _ (by omega) (by omega)]; exact b6
theorem GP.cg (h : GP g) (e : ∀ y, 64 ≤ y → y < 88 → g' y = g y) : GP g' := by
  refine ⟨h.1.cg e, fun p hp => ?_⟩
  rw [e _ (by omega) (by omega), e _ (by omega) (by omega), e _ (by omega) (by omega)]
  exact h.2 p hp
end GG
theorem Bd.n {v k : Nat} (h : v ≤ k) : Bd (nI v) k := ⟨v, h, rfl⟩
theorem PutP_bd : ∀ (j k : Nat) (l : List Nat) (t : Nat → Int32) (last : Nat), l.length = 2 * j → k + j ≤ 6 → (∀ v ∈ l, v < 10000) → OdP k last l = false → (∀ i, i < k → Bd (t (1 + 2 * i)) 9999 ∧ Bd (t (2 + 2 * i)) 999) → ∀ i, i < k + j → Bd (PutP k l t (1 + 2 * i)) 9999 ∧ Bd (PutP k l t (2 + 2 * i)) 999
  | 0, k, l, t, last, hl, hk, hv, ho, hb, i, hi => by
    have : l = [] := List.length_eq_zero_iff.mp (by omega)
    subst this
    rw [PutP]
    · exact hb i hi
    · intros; simp_all
  | j + 1, k, [], t, last, hl, hk, hv, ho, hb, i, hi => by simp at hl
  | j + 1, k, [_], t, last, hl, hk, hv, ho, hb, i, hi => by simp at hl; omega
  | j + 1, k, a :: b :: l, t, last, hl, hk, hv, ho, hb, i, hi => by
    rw [OdP, if_pos (show k < 6 by omega)] at ho
    obtain ⟨ho1, ho2⟩ := Bool.or_eq_false_iff.mp ho
    obtain ⟨-, ho3⟩ := Bool.or_eq_false_iff.mp ho1
    have hb9 : b ≤ 999 := Nat.not_lt.mp (of_decide_eq_false ho3)
    have ha9 : a < 10000 := hv a (by simp)
    rw [PutP, if_pos (show k < 6 by omega), if_pos (show k < 6 by omega)]
    refine PutP_bd j (k + 1) l _ a (by simp at hl; omega) (by omega) (fun v z => hv v (by simp [z])) ho2 (fun i hi2 => ?_) i (by omega)
    by_cases e : i = k
    · subst e
      rw [if_neg (show ¬ 1 + 2 * i = 2 + 2 * i by omega), if_pos rfl, if_pos rfl]
      exact ⟨Bd.n (by omega), Bd.n hb9⟩
    · rw [if_neg (show ¬ 1 + 2 * i = 2 + 2 * k by omega), if_neg (show ¬ 1 + 2 * i = 1 + 2 * k by omega), if_neg (show ¬ 2 + 2 * i = 2 + 2 * k by omega), if_neg (show ¬ 2 + 2 * i = 1 + 2 * k by omega)]
      exact hb i (by omega)
theorem len2 {l : List Nat} (h : l.length = 2) : ∃ a b, l = [a, b] := by
  match l, h with
  | [a, b], _ => exact ⟨a, b, rfl⟩
theorem len3 {l : List Nat} (h : l.length = 3) : ∃ a b c, l = [a, b, c] := by
  match l, h with
  | [a, b, c], _ => exact ⟨a, b, c, rfl⟩
theorem len4 {l : List Nat} (h : l.length = 4) : ∃ a b c d, l = [a, b, c, d] := by
  match l, h with
  | [a, b, c, d], _ => exact ⟨a, b, c, d, rfl⟩
theorem od_a {a b c : Nat} (h : OdL 4 0 [a, b, c] = false) : c ≤ 999 := by
  rw [OdL, OdL, OdL, OdL] at h
  simp only [Bool.or_eq_false_iff, Bool.and_eq_false_iff, decide_eq_false_iff_not] at h
  exact Nat.not_lt.mp (h.2.2.1.resolve_left (fun z => z (by decide)))
theorem od_m {a b : Nat} (h : OdL 2 0 [a, b] = false) : b ≤ 999 := by
  rw [OdL, OdL, OdL] at h
  simp only [Bool.or_eq_false_iff, Bool.and_eq_false_iff, decide_eq_false_iff_not] at h
  exact Nat.not_lt.mp (h.2.1.resolve_left (fun z => z (by decide)))
theorem od_n {a b c d : Nat} (h : OdL 10 0 [a, b, c, d] = false) : b ≤ 999 ∧ d ≤ 999 := by
  rw [OdL, OdL, OdL, OdL, OdL] at h
  simp only [Bool.or_eq_false_iff, Bool.and_eq_false_iff, decide_eq_false_iff_not] at h
  exact ⟨Nat.not_lt.mp (h.2.1.resolve_left (fun z => z (by decide))), Nat.not_lt.mp (h.2.2.2.1.resolve_left (fun z => z (by decide)))⟩
theorem ItG_off {i : ItT} {t : Nat → Int32} (hi : ItW i) {y : Nat} (hy : 64 ≤ y) : ItG i.1 i.2.1 i.2.2 t y = t y := by
  obtain ⟨a, l, e⟩ := i
  obtain ⟨hi, -⟩ := hi
  dsimp only at hi ⊢
  rcases hi with rfl | ⟨rfl, hl⟩ | ⟨rfl, hl⟩ | ⟨rfl, hl⟩ | ⟨ha, -, hl⟩
  · show (if y = 0 then nI (KpP 0 l) else PutP 0 l t y) = t y
    rw [if_neg (by omega), PutP_off _ _ _ _ (by omega)]
  · show PutL 13 l t y = t y
    rw [PutL_off _ _ _ _ (by omega)]
  · show PutL 16 l t y = t y
    rw [PutL_off _ _ _ _ (by omega)]
  · unfold ItG
    rw [if_neg (by decide), if_neg (by decide), if_neg (by decide), if_pos rfl]
    split
    · next h4 =>
      dsimp only
      rw [if_neg (by omega), PutL_off _ _ _ _ (by omega)]
    · rfl
  · unfold ItG
    rw [if_neg (by omega), if_neg (by omega), if_neg (by omega), if_neg (by omega)]
    split
    · next h4 =>
      dsimp only
      rw [if_neg (by omega), if_neg (by omega), if_neg (by omega), PutL_off _ _ _ _ (by omega)]
    · rfl
theorem ItsG_off : ∀ (l : List ItT) (t : Nat → Int32), (∀ i ∈ l, ItW i) → ∀ y, 64 ≤ y → ItsG l t y = t y
  | [], _, _, _, _ => rfl
  | i :: l, t, h, y, hy => by
    rw [ItsG, ItsG_off l _ (fun x hx => h x (by simp [hx])) y hy, ItG_off (h i (by simp)) hy]
theorem bI_bd (e : Bool) : Bd (bI e) 1 := by
  cases e
  · exact Bd.n (v := 0) (by omega)
  · exact Bd.n (v := 1) (by omega)
theorem Gd_it {t : Nat → Int32} {nb nc nk : Nat} (h : Gd t nb nc nk) {i : ItT} (hi : ItW i) (hev : i.1 = 0 → ∃ j, i.2.1.length = 2 * j ∧ 0 < j) (ho : ItO i.1 i.2.1 t = false) : ∃ nb' nc' nk', Gd (ItG i.1 i.2.1 i.2.2 t) nb' nc' nk' ∧ nk ≤ nk' := by
  have hoff : ∀ y, 64 ≤ y → ItG i.1 i.2.1 i.2.2 t y = t y := fun y hy => ItG_off hi hy
  obtain ⟨hB, hS, hC, hK, hP⟩ := Gd_iff.mp h
  have hP' := hP.cg (fun y h1 h2 => hoff y h1)
  obtain ⟨a, l, e⟩ := i
  obtain ⟨hi, hv⟩ := hi
  dsimp only at hi hv hev ho hoff hP' ⊢
  rcases hi with rfl | ⟨rfl, hl⟩ | ⟨rfl, hl⟩ | ⟨rfl, hl⟩ | ⟨ha4, ha7, hl⟩
  · obtain ⟨j, hj, hj0⟩ := hev rfl
    have e0 : ∀ y, ItG 0 l e t y = if y = 0 then nI (KpP 0 l) else PutP 0 l t y := fun y => rfl
    have hod : OdP 0 0 l = false := ho
    have hj6 : j ≤ 6 := by
      rcases Nat.lt_or_ge 6 j with z | z
      · rw [OdP_long j 0 0 l hj (by omega) (by omega)] at hod; cases hod
      · exact z
    refine ⟨j, nc, nk, Gd_iff.mpr ⟨⟨hj6, hj0, ?_, fun k hk => ?_⟩, hS.cg (fun y h1 h2 => ?_), hC.cg (fun y h1 h2 => ?_), hK.cg (fun y h1 h2 => ?_), hP'⟩, Nat.le_refl _⟩
    · rw [e0, if_pos rfl, KpP_eq j 0 l hj (by omega), Nat.zero_add]
    · rw [e0, e0, if_neg (by omega), if_neg (by omega)]
      exact PutP_bd j 0 l t 0 hj (by omega) hv hod (fun i hi => by omega) k (by omega)
    · rw [e0, if_neg (by omega), PutP_off _ _ _ _ (by omega)]
    · rw [e0, if_neg (by omega), PutP_off _ _ _ _ (by omega)]
    · rw [e0, if_neg (by omega), PutP_off _ _ _ _ (by omega)]
  · have e0 : ∀ y, ItG 1 l e t y = PutL 13 l t y := fun y => rfl
    refine ⟨nb, nc, nk, Gd_iff.mpr ⟨hB.cg (fun y h1 => by rw [e0, PutL_off _ _ _ _ (by omega)]), ?_, hC.cg (fun y h1 h2 => by rw [e0, PutL_off _ _ _ _ (by omega)]), hK.cg (fun y h1 h2 => by rw [e0, PutL_off _ _ _ _ (by omega)]), hP'⟩, Nat.le_refl _⟩
    obtain ⟨v0, v1, v2, rfl⟩ := len3 hl
    have g2 := od_a (show OdL 4 0 [v0, v1, v2] = false from ho)
    have g0 := hv v0 (by simp)
    have g1 := hv v1 (by simp)
    have e1 : ∀ y, ItG 1 [v0, v1, v2] e t y = if y = 15 then nI v2 else if y = 14 then nI v1 else if y = 13 then nI v0 else t y := fun y => rfl
    refine ⟨fun j hj => ?_, ?_, ?_⟩
    · rw [e1]
      split
      · exact Bd.n (by omega)
      · split
        · exact Bd.n (by omega)
        · split
          · exact Bd.n (by omega)
          · exact hS.1 j hj
    · rw [e1, if_pos rfl]; exact Bd.n g2
    · rw [e1, if_neg (by decide), if_neg (by decide), if_neg (by decide)]; exact hS.2.2
  · have e0 : ∀ y, ItG 2 l e t y = PutL 16 l t y := fun y => rfl
    refine ⟨nb, nc, nk, Gd_iff.mpr ⟨hB.cg (fun y h1 => by rw [e0, PutL_off _ _ _ _ (by omega)]), ?_, hC.cg (fun y h1 h2 => by rw [e0, PutL_off _ _ _ _ (by omega)]), hK.cg (fun y h1 h2 => by rw [e0, PutL_off _ _ _ _ (by omega)]), hP'⟩, Nat.le_refl _⟩
    obtain ⟨v0, v1, rfl⟩ := len2 hl
    have g1 := od_m (show OdL 2 0 [v0, v1] = false from ho)
    have g0 := hv v0 (by simp)
    have e1 : ∀ y, ItG 2 [v0, v1] e t y = if y = 17 then nI v1 else if y = 16 then nI v0 else t y := fun y => rfl
    refine ⟨fun j hj => ?_, ?_, ?_⟩
    · rw [e1]
      split
      · exact Bd.n (by omega)
      · split
        · exact Bd.n (by omega)
        · exact hS.1 j hj
    · rw [e1, if_neg (by decide), if_neg (by decide)]; exact hS.2.1
    · rw [e1, if_pos rfl]; exact Bd.n g1
  · obtain ⟨c1, c2, c3⟩ := hC
    have cc : (t 18).toNatClampNeg = nc := by rw [c2]; exact nI_clamp (by omega)
    have ho2 : (OdL 0 0 l || !decide ((t 18).toNatClampNeg < 4)) = false := ho
    rw [cc] at ho2
    obtain ⟨-, h4⟩ := Bool.or_eq_false_iff.mp ho2
    have h4' : nc < 4 := by simpa using h4
    obtain ⟨v0, v1, rfl⟩ := len2 hl
    have g0 := hv v0 (by simp)
    have g1 := hv v1 (by simp)
    have e1 : ∀ y, ItG 3 [v0, v1] e t y = if y = 18 then nI (nc + 1) else if y = 20 + 2 * nc then nI v1 else if y = 19 + 2 * nc then nI v0 else t y := fun y => by
      unfold ItG
      rw [if_neg (by decide), if_neg (by decide), if_neg (by decide), if_pos rfl, cc, if_pos h4']
      show (if y = 18 then nI (nc + 1) else if y = 19 + 2 * nc + 1 then nI v1 else if y = 19 + 2 * nc then nI v0 else t y) = _
      rw [show 19 + 2 * nc + 1 = 20 + 2 * nc by omega]
    refine ⟨nb, nc + 1, nk, Gd_iff.mpr ⟨hB.cg (fun y h1 => by rw [e1, if_neg (by omega), if_neg (by omega), if_neg (by omega)]), hS.cg (fun y h1 h2 => by rw [e1, if_neg (by omega), if_neg (by omega), if_neg (by omega)]), ⟨by omega, by rw [e1, if_pos rfl], fun k hk => ?_⟩, hK.cg (fun y h1 h2 => by rw [e1, if_neg (by omega), if_neg (by omega), if_neg (by omega)]), hP'⟩, Nat.le_refl _⟩
    by_cases hkn : k = nc
    · subst hkn
      rw [e1, e1, if_neg (by omega), if_neg (by omega), if_pos rfl, if_neg (by omega), if_pos rfl]
      exact ⟨Bd.n (by omega), Bd.n (by omega)⟩
    · rw [e1, e1, if_neg (by omega), if_neg (by omega), if_neg (by omega), if_neg (by omega), if_neg (by omega), if_neg (by omega)]
      exact c3 k (by omega)
  · obtain ⟨c1, c2, c3⟩ := hK
    have cc : (t 27).toNatClampNeg = nk := by rw [c2]; exact nI_clamp (by omega)
    have ho2 : (OdL 10 0 l || !decide ((t 27).toNatClampNeg < 6)) = false := by
      unfold ItO at ho
      rw [if_neg (by omega), if_neg (by omega), if_neg (by omega), if_neg (by omega)] at ho
      exact ho
    rw [cc] at ho2
    obtain ⟨ho3, h4⟩ := Bool.or_eq_false_iff.mp ho2
    have h4' : nk < 6 := by simpa using h4
    obtain ⟨v0, v1, v2, v3, rfl⟩ := len4 hl
    obtain ⟨r1, r3⟩ := od_n ho3
    have g0 := hv v0 (by simp)
    have g2 := hv v2 (by simp)
    have e1 : ∀ y, ItG a [v0, v1, v2, v3] e t y = if y = 27 then nI (nk + 1) else if y = 33 + 6 * nk then bI e else if y = 28 + 6 * nk then nI (a - 4) else if y = 32 + 6 * nk then nI v3 else if y = 31 + 6 * nk then nI v2 else if y = 30 + 6 * nk then nI v1 else if y = 29 + 6 * nk then nI v0 else t y := fun y => by
      unfold ItG
      rw [if_neg (by omega), if_neg (by omega), if_neg (by omega), if_neg (by omega), cc, if_pos h4']
      show (if y = 27 then nI (nk + 1) else if y = 33 + 6 * nk then bI e else if y = 28 + 6 * nk then nI (a - 4) else if y = 29 + 6 * nk + 1 + 1 + 1 then nI v3 else if y = 29 + 6 * nk + 1 + 1 then nI v2 else if y = 29 + 6 * nk + 1 then nI v1 else if y = 29 + 6 * nk then nI v0 else t y) = _
      rw [show 29 + 6 * nk + 1 + 1 + 1 = 32 + 6 * nk by omega, show 29 + 6 * nk + 1 + 1 = 31 + 6 * nk by omega, show 29 + 6 * nk + 1 = 30 + 6 * nk by omega]
    have en : ∀ y, y ≠ 27 → (y < 28 + 6 * nk ∨ 34 + 6 * nk ≤ y) → ItG a [v0, v1, v2, v3] e t y = t y := fun y h1 h2 => by
      rw [e1, if_neg h1, if_neg (by omega), if_neg (by omega), if_neg (by omega), if_neg (by omega), if_neg (by omega), if_neg (by omega)]
    refine ⟨nb, nc, nk + 1, Gd_iff.mpr ⟨hB.cg (fun y h1 => en y (by omega) (by omega)), hS.cg (fun y h1 h2 => en y (by omega) (by omega)), hC.cg (fun y h1 h2 => en y (by omega) (by omega)), ⟨by omega, by rw [e1, if_pos rfl], fun k hk => ?_⟩, hP'⟩, Nat.le_succ _⟩
    by_cases hkn : k = nk
    · subst hkn
      refine ⟨?_, ?_, ?_, ?_, ?_, ?_⟩
      · rw [e1, if_neg (by omega), if_neg (by omega), if_pos rfl]; exact Bd.n (by omega)
      · rw [e1, if_neg (by omega), if_neg (by omega), if_neg (by omega), if_neg (by omega), if_neg (by omega), if_neg (by omega), if_pos rfl]; exact Bd.n (by omega)
      · rw [e1, if_neg (by omega), if_neg (by omega), if_neg (by omega), if_neg (by omega), if_neg (by omega), if_pos rfl]; exact Bd.n r1
      · rw [e1, if_neg (by omega), if_neg (by omega), if_neg (by omega), if_neg (by omega), if_pos rfl]; exact Bd.n (by omega)
      · rw [e1, if_neg (by omega), if_neg (by omega), if_neg (by omega), if_pos rfl]; exact Bd.n r3
      · rw [e1, if_neg (by omega), if_pos rfl]; exact bI_bd e
    · rw [en _ (by omega) (by omega), en _ (by omega) (by omega), en _ (by omega) (by omega), en _ (by omega) (by omega), en _ (by omega) (by omega), en _ (by omega) (by omega)]
      exact c3 k (by omega)
theorem Gd_its : ∀ (l : List ItT) (t : Nat → Int32) (nb nc nk : Nat), Gd t nb nc nk → (∀ i ∈ l, ItW i ∧ (i.1 = 0 → ∃ j, i.2.1.length = 2 * j ∧ 0 < j)) → ItsO l t = false → ∃ nb' nc' nk', Gd (ItsG l t) nb' nc' nk' ∧ nk ≤ nk'
  | [], t, nb, nc, nk, h, _, _ => ⟨nb, nc, nk, h, Nat.le_refl _⟩
  | i :: l, t, nb, nc, nk, h, hi, ho => by
    rw [ItsO] at ho
    obtain ⟨o1, o2⟩ := Bool.or_eq_false_iff.mp ho
    obtain ⟨nb1, nc1, nk1, h1, k1⟩ := Gd_it h (hi i (by simp)).1 (hi i (by simp)).2 o1
    obtain ⟨nb2, nc2, nk2, h2, k2⟩ := Gd_its l _ nb1 nc1 nk1 h1 (fun x hx => hi x (by simp [hx])) o2
    exact ⟨nb2, nc2, nk2, by rw [ItsG]; exact h2, Nat.le_trans k1 k2⟩

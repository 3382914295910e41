/-! literals; small rules -/
theorem cl_0 : (0 : Int32).toNatClampNeg = 0 := rfl
theorem cl_1 : (1 : Int32).toNatClampNeg = 1 := rfl
theorem cl_2 : (2 : Int32).toNatClampNeg = 2 := rfl
theorem cl_3 : (3 : Int32).toNatClampNeg = 3 := rfl
theorem cl_4 : (4 : Int32).toNatClampNeg = 4 := rfl
theorem cl_5 : (5 : Int32).toNatClampNeg = 5 := rfl
theorem cl_6 : (6 : Int32).toNatClampNeg = 6 := rfl
theorem cl_7 : (7 : Int32).toNatClampNeg = 7 := rfl
theorem cl_8 : (8 : Int32).toNatClampNeg = 8 := rfl
theorem cl_9 : (9 : Int32).toNatClampNeg = 9 := rfl
theorem cl_13 : (13 : Int32).toNatClampNeg = 13 := rfl
theorem cl_14 : (14 : Int32).toNatClampNeg = 14 := rfl
theorem cl_15 : (15 : Int32).toNatClampNeg = 15 := rfl
theorem cl_16 : (16 : Int32).toNatClampNeg = 16 := rfl
theorem cl_17 : (17 : Int32).toNatClampNeg = 17 := rfl
theorem cl_18 : (18 : Int32).toNatClampNeg = 18 := rfl
theorem cl_19 : (19 : Int32).toNatClampNeg = 19 := rfl
theorem cl_27 : (27 : Int32).toNatClampNeg = 27 := rfl
theorem cl_28 : (28 : Int32).toNatClampNeg = 28 := rfl
theorem cl_36 : (36 : Int32).toNatClampNeg = 36 := rfl
theorem cl_64 : (64 : Int32).toNatClampNeg = 64 := rfl
theorem cl_80 : (80 : Int32).toNatClampNeg = 80 := rfl
theorem cl_82 : (82 : Int32).toNatClampNeg = 82 := rfl
theorem cl_88 : (88 : Int32).toNatClampNeg = 88 := rfl
theorem cl_89 : (89 : Int32).toNatClampNeg = 89 := rfl
theorem vl1_0 : vp_in (0 : Int32) 1 = True := eq_true (vp_in_nI (n := 0) (by decide) (by decide))
theorem vl2_0 : vp_in (0 : Int32) 2 = True := eq_true (vp_in_nI (n := 0) (by decide) (by decide))
theorem vl2_1 : vp_in (1 : Int32) 2 = True := eq_true (vp_in_nI (n := 1) (by decide) (by decide))
theorem vl4_0 : vp_in (0 : Int32) 4 = True := eq_true (vp_in_nI (n := 0) (by decide) (by decide))
theorem vl4_1 : vp_in (1 : Int32) 4 = True := eq_true (vp_in_nI (n := 1) (by decide) (by decide))
theorem vl4_2 : vp_in (2 : Int32) 4 = True := eq_true (vp_in_nI (n := 2) (by decide) (by decide))
theorem vl4_3 : vp_in (3 : Int32) 4 = True := eq_true (vp_in_nI (n := 3) (by decide) (by decide))
theorem vl5_0 : vp_in (0 : Int32) 5 = True := eq_true (vp_in_nI (n := 0) (by decide) (by decide))
theorem vl5_1 : vp_in (1 : Int32) 5 = True := eq_true (vp_in_nI (n := 1) (by decide) (by decide))
theorem vl5_2 : vp_in (2 : Int32) 5 = True := eq_true (vp_in_nI (n := 2) (by decide) (by decide))
theorem vl5_3 : vp_in (3 : Int32) 5 = True := eq_true (vp_in_nI (n := 3) (by decide) (by decide))
theorem vl5_4 : vp_in (4 : Int32) 5 = True := eq_true (vp_in_nI (n := 4) (by decide) (by decide))
theorem vl6_0 : vp_in (0 : Int32) 6 = True := eq_true (vp_in_nI (n := 0) (by decide) (by decide))
theorem vl6_1 : vp_in (1 : Int32) 6 = True := eq_true (vp_in_nI (n := 1) (by decide) (by decide))
theorem vl6_2 : vp_in (2 : Int32) 6 = True := eq_true (vp_in_nI (n := 2) (by decide) (by decide))
theorem vl6_3 : vp_in (3 : Int32) 6 = True := eq_true (vp_in_nI (n := 3) (by decide) (by decide))
theorem vl6_4 : vp_in (4 : Int32) 6 = True := eq_true (vp_in_nI (n := 4) (by decide) (by decide))
theorem vl6_5 : vp_in (5 : Int32) 6 = True := eq_true (vp_in_nI (n := 5) (by decide) (by decide))
theorem vl89_0 : vp_in (0 : Int32) 89 = True := eq_true (vp_in_nI (n := 0) (by decide) (by decide))
theorem vl89_13 : vp_in (13 : Int32) 89 = True := eq_true (vp_in_nI (n := 13) (by decide) (by decide))
theorem vl89_14 : vp_in (14 : Int32) 89 = True := eq_true (vp_in_nI (n := 14) (by decide) (by decide))
theorem vl89_15 : vp_in (15 : Int32) 89 = True := eq_true (vp_in_nI (n := 15) (by decide) (by decide))
theorem vl89_16 : vp_in (16 : Int32) 89 = True := eq_true (vp_in_nI (n := 16) (by decide) (by decide))
theorem vl89_17 : vp_in (17 : Int32) 89 = True := eq_true (vp_in_nI (n := 17) (by decide) (by decide))
theorem vl89_18 : vp_in (18 : Int32) 89 = True := eq_true (vp_in_nI (n := 18) (by decide) (by decide))
theorem vl89_27 : vp_in (27 : Int32) 89 = True := eq_true (vp_in_nI (n := 27) (by decide) (by decide))
theorem vl89_88 : vp_in (88 : Int32) 89 = True := eq_true (vp_in_nI (n := 88) (by decide) (by decide))
theorem vl80_0 : vp_in (0 : Int32) 80 = True := eq_true (vp_in_nI (n := 0) (by decide) (by decide))
theorem vl80_1 : vp_in (1 : Int32) 80 = True := eq_true (vp_in_nI (n := 1) (by decide) (by decide))
theorem vl80_2 : vp_in (2 : Int32) 80 = True := eq_true (vp_in_nI (n := 2) (by decide) (by decide))
theorem vl80_3 : vp_in (3 : Int32) 80 = True := eq_true (vp_in_nI (n := 3) (by decide) (by decide))
theorem vl80_4 : vp_in (4 : Int32) 80 = True := eq_true (vp_in_nI (n := 4) (by decide) (by decide))
theorem vl80_5 : vp_in (5 : Int32) 80 = True := eq_true (vp_in_nI (n := 5) (by decide) (by decide))
theorem vpn {c n : Nat} (h : c < n) (hN : n < 2 ^ 31) : vp_in (nI c) n = True := eq_true (vp_in_nI h hN)
theorem ndw {p q : Prop} (h : p = q) : p ↔ q := by rw [h]
/-- the model's past: pn rows of ints and of longs -/
def Pas (m : Nat) (I : IM) (J : JM) (pn : Nat) (G : Nat → Nat → Int32) (H : Nat → Nat → Int64) : Prop := pn ≤ 6 ∧ I m 7 = nI pn ∧ ∀ i, i < pn → (∀ k, k < 89 → I (m + 5) (89 * i + k) = G i k) ∧ (∀ k, k < 36 → J (m + 6) (36 * i + k) = H i k)
def psn (pn : Nat) : Nat := if pn = 6 then 6 else pn + 1
def psh {α : Type} (pn : Nat) (G : Nat → α) (g : α) : Nat → α := if pn = 6 then (fun i => if i = 5 then g else G (i + 1)) else fun i => if i = pn then g else G i
theorem Pas.shift {m : Nat} {I : IM} {J : JM} {G : Nat → Nat → Int32} {H : Nat → Nat → Int64} (h : Pas m I J 6 G H) : Pas m (u2 (cpR I (m + 5) 0 (m + 5) 89 445) m 7 (nI 5)) (cpR J (m + 6) 0 (m + 6) 36 180) 5 (fun i => G (i + 1)) (fun i => H (i + 1)) := by
  obtain ⟨h1, h2, h3⟩ := h
  refine ⟨by decide, u2s _ _ _ _, fun i hi => ⟨fun k hk => ?_, fun k hk => ?_⟩⟩
  · rw [u2_off _ _ _ (by omega)]
    have h4 := cpR_in I (m + 5) (x := 0) (m + 5) 89 (i := 445) (k := 89 * i + k) (by omega)
    rw [Nat.zero_add] at h4
    show _ = G (i + 1) k
    rw [h4, ← (h3 (i + 1) (by omega)).1 k hk]
    congr 1
    omega
  · have h4 := cpR_in J (m + 6) (x := 0) (m + 6) 36 (i := 180) (k := 36 * i + k) (by omega)
    rw [Nat.zero_add] at h4
    show _ = H (i + 1) k
    rw [h4, ← (h3 (i + 1) (by omega)).2 k hk]
    congr 1
    omega
theorem Pas.app {m : Nat} {I : IM} {J : JM} {pn : Nat} {G : Nat → Nat → Int32} {H : Nat → Nat → Int64} (hpn : pn < 6) (h : Pas m I J pn G H) : Pas m (u2 (cpR I (m + 5) (89 * pn) (m + 1) 0 89) m 7 (nI (pn + 1))) (cpR J (m + 6) (36 * pn) (m + 2) 0 36) (pn + 1) (fun i => if i = pn then I (m + 1) else G i) (fun i => if i = pn then J (m + 2) else H i) := by
  obtain ⟨h1, h2, h3⟩ := h
  refine ⟨by omega, u2s _ _ _ _, fun i hi => ⟨fun k hk => ?_, fun k hk => ?_⟩⟩
  · rw [u2_off _ _ _ (by omega)]
    dsimp only
    by_cases hp : i = pn
    · subst hp
      rw [if_pos rfl, cpR_in I (m + 5) (m + 1) 0 hk, Nat.zero_add]
    · rw [if_neg hp, cpR_out _ _ _ _ (by omega)]
      exact (h3 i (by omega)).1 k hk
  · dsimp only
    by_cases hp : i = pn
    · subst hp
      rw [if_pos rfl, cpR_in J (m + 6) (m + 2) 0 hk, Nat.zero_add]
    · rw [if_neg hp, cpR_out _ _ _ _ (by omega)]
      exact (h3 i (by omega)).2 k hk
section MTB
variable {S N : Nat → Nat} {d : Nat} {I : IM} {J : JM} {P : PM} {Q : Option Value → IM → JM → PM → Prop} {m : Nat} {g : Nat → Int32} {h : Nat → Int64} {nb nc nk : Nat}
theorem ch_tail (hm : MdS S N P m) {pn : Nat} (hpn : pn < 6) (h7 : I m 7 = nI pn) {x1 : Option Value} (hq : Q none (u2 (cpR I (m + 5) (89 * pn) (m + 1) 0 89) m 7 (nI (pn + 1))) (cpR J (m + 6) (36 * pn) (m + 2) 0 36) P) : Wp S N d MX9_changes 79 [some (.ref m), x1] [] I J P Q := by
  have hm0 := hm
  unfold MdS at hm
  have o7 : (cpR I (m + 5) (89 * pn) (m + 1) 0 89) m 7 = nI pn := by rw [cpR_off _ _ _ _ _ (by omega)]; exact h7
  have e3 := ch_l3 (S := S) (N := N) (d := d) (I := I) (J := J) (P := P) (Q := Q) hm0 hpn h7 89 0 rfl
  have e4 := ch_l4 (S := S) (N := N) (d := d) (I := cpR I (m + 5) (89 * pn) (m + 1) 0 89) (J := J) (P := P) (Q := Q) hm0 hpn o7 36 0 rfl
  rw [cpR_0] at e3 e4
  simp only [e_X9_changes_79, e_X9_changes_80, true_and, and_true, rf_s, not_true_eq_false, not_false_eq_true, true_implies, false_implies, kl_i, kl_n, kl_l, kl_r, Option.toList, List.cons_append, List.nil_append, if_true, if_false, u2s, lt00, lt01, lt02, lt03, le10, le20, le30, ne10, ne20, ne30, eq00]
  refine e3.mpr ?_
  simp only [e_X9_changes_113, e_X9_changes_114, true_and, and_true, rf_s, not_true_eq_false, not_false_eq_true, true_implies, false_implies, kl_i, kl_n, kl_l, kl_r, Option.toList, List.cons_append, List.nil_append, if_true, if_false, u2s, lt00, lt01, lt02, lt03, le10, le20, le30, ne10, ne20, ne30, eq00]
  refine e4.mpr ?_
  simp only [e_X9_changes_147, e_X9_changes_148, e_X9_changes_149, e_X9_changes_152, e_X9_changes_153, e_X9_changes_154, e_X9_changes_157, hm, o7, nI_1, true_and, and_true, rf_s, not_true_eq_false, not_false_eq_true, true_implies, false_implies, kl_i, kl_n, kl_l, kl_r, Option.toList, List.cons_append, List.nil_append, if_true, if_false, u2s, lt00, lt01, lt02, lt03, le10, le20, le30, ne10, ne20, ne30, eq00]
  exact hq
theorem s_changes (hm : MdS S N P m) {pn : Nat} {G : Nat → Nat → Int32} {H : Nat → Nat → Int64} (hp : Pas m I J pn G H)
    (hq : ∀ I' J', (∀ a, a ≠ m → a ≠ m + 5 → I' a = I a) → (∀ k, k ≠ 7 → I' m k = I m k) → (∀ a, a ≠ m + 6 → J' a = J a) → Pas m I' J' (psn pn) (psh pn G (I (m + 1))) (psh pn H (J (m + 2))) → Q none I' J' P) : CWp S N d MX9_changes [.ref m] I J P Q := by
  rw [c_X9_changes]
  have hm0 := hm
  unfold MdS at hm
  by_cases h6 : pn = 6
  · subst h6
    have h7 : I m 7 = 6 := hp.2.1
    have o7 : (cpR I (m + 5) 0 (m + 5) 89 445) m 7 = 6 := by rw [cpR_off _ _ _ _ _ (by omega)]; exact h7
    have e1 := ch_l1 (S := S) (N := N) (d := d) (I := I) (J := J) (P := P) (Q := Q) hm0 445 0 rfl
    have e2 := ch_l2 (S := S) (N := N) (d := d) (I := cpR I (m + 5) 0 (m + 5) 89 445) (J := J) (P := P) (Q := Q) hm0 180 0 rfl
    rw [cpR_0] at e1 e2
    simp only [e_X9_changes_0, e_X9_changes_1, e_X9_changes_4, e_X9_changes_6, e_X9_changes_9, e_X9_changes_10, hm, h7, true_and, and_true, rf_s, not_true_eq_false, not_false_eq_true, true_implies, false_implies, kl_i, kl_n, kl_l, kl_r, Option.toList, List.cons_append, List.nil_append, if_true, if_false, u2s, lt00, lt01, lt02, lt03, le10, le20, le30, ne10, ne20, ne30, eq00]
    refine e1.mpr ?_
    simp only [e_X9_changes_39, e_X9_changes_40, true_and, and_true, rf_s, not_true_eq_false, not_false_eq_true, true_implies, false_implies, kl_i, kl_n, kl_l, kl_r, Option.toList, List.cons_append, List.nil_append, if_true, if_false, u2s, lt00, lt01, lt02, lt03, le10, le20, le30, ne10, ne20, ne30, eq00]
    refine e2.mpr ?_
    have q5 : (6 : Int32) - 1 = nI 5 := by decide
    simp only [e_X9_changes_69, e_X9_changes_70, e_X9_changes_71, e_X9_changes_74, e_X9_changes_75, e_X9_changes_76, hm, o7, q5, true_and, and_true, rf_s, not_true_eq_false, not_false_eq_true, true_implies, false_implies, kl_i, kl_n, kl_l, kl_r, Option.toList, List.cons_append, List.nil_append, if_true, if_false, u2s, lt00, lt01, lt02, lt03, le10, le20, le30, ne10, ne20, ne30, eq00]
    have h8 := (hp.shift).app (by decide)
    refine ch_tail hm0 (pn := 5) (by decide) (u2s _ _ _ _) ?_
    refine hq _ _ (fun a h1 h2 => ?_) (fun k hk => ?_) (fun a h1 => ?_) ?_
    · rw [u2_off _ _ _ h1, cpR_off _ _ _ _ _ h2, u2_off _ _ _ h1, cpR_off _ _ _ _ _ h2]
    · rw [u2k _ _ _ hk, cpR_off _ _ _ _ _ (by omega), u2k _ _ _ hk, cpR_off _ _ _ _ _ (by omega)]
    · rw [cpR_off _ _ _ _ _ h1, cpR_off _ _ _ _ _ h1]
    · unfold psn psh
      rw [if_pos rfl, if_pos rfl, if_pos rfl]
      have e9 : (u2 (cpR I (m + 5) 0 (m + 5) 89 445) m 7 (nI 5)) (m + 1) = I (m + 1) := by rw [u2_off _ _ _ (by omega), cpR_off _ _ _ _ _ (by omega)]
      have e8 : (cpR J (m + 6) 0 (m + 6) 36 180) (m + 2) = J (m + 2) := by rw [cpR_off _ _ _ _ _ (by omega)]
      rw [e9, e8] at h8
      exact h8
  · have hlt : pn < 6 := by have := hp.1; omega
    have h7 := hp.2.1
    have g6 : (nI pn = (6 : Int32)) = False := eq_false (fun q => h6 ((nI_eq (a := pn) (b := 6) (by omega) (by decide)).mp q))
    simp only [e_X9_changes_0, e_X9_changes_1, e_X9_changes_4, e_X9_changes_6, hm, h7, g6, true_and, and_true, rf_s, not_true_eq_false, not_false_eq_true, true_implies, false_implies, kl_i, kl_n, kl_l, kl_r, Option.toList, List.cons_append, List.nil_append, if_true, if_false, u2s, lt00, lt01, lt02, lt03, le10, le20, le30, ne10, ne20, ne30, eq00]
    have h8 := hp.app hlt
    refine ch_tail hm0 hlt h7 ?_
    refine hq _ _ (fun a h1 h2 => ?_) (fun k hk => ?_) (fun a h1 => ?_) ?_
    · rw [u2_off _ _ _ h1, cpR_off _ _ _ _ _ h2]
    · rw [u2k _ _ _ hk, cpR_off _ _ _ _ _ (by omega)]
    · rw [cpR_off _ _ _ _ _ h1]
    · unfold psn psh
      rw [if_neg h6, if_neg h6, if_neg h6]
      exact h8
theorem s_undo_bad (hm : MdS S N P m) (h7 : I m 7 = 0) : CWp S N (d + 1) MX9_undo [.ref m] I J P Q ↔ Q (some (.int 0)) (u2 (u2 I m 8 0) m 8 1) J P := by
  rw [c_X9_undo]
  have hm0 := hm
  unfold MdS at hm
  have o7 : (u2 I m 8 0) m 7 = 0 := by rw [u2k _ _ _ (by decide)]; exact h7
  simp only [e_X9_undo_0, e_X9_undo_1, e_X9_undo_2, e_X9_undo_5, e_X9_undo_6, e_X9_undo_9, e_X9_undo_12, e_X9_undo_13, e_X9_undo_14, e_X9_undo_17, hm, o7, s_fails hm0, true_and, and_true, rf_s, not_true_eq_false, not_false_eq_true, true_implies, false_implies, kl_i, kl_n, kl_l, kl_r, Option.toList, List.cons_append, List.nil_append, if_true, if_false, u2s, lt00, lt01, lt02, lt03, le10, le20, le30, ne10, ne20, ne30, eq00]
theorem s_undo_ok (hm : MdS S N P m) {pn : Nat} {G : Nat → Nat → Int32} {H : Nat → Nat → Int64} (hp : Pas m I J (pn + 1) G H)
    (hq : ∀ I' J', (∀ k, k < 89 → I' (m + 1) k = G pn k) → (∀ k, k < 36 → J' (m + 2) k = H pn k) → (∀ a, a ≠ m → a ≠ m + 1 → I' a = I a) → (∀ k, k ≠ 7 → k ≠ 8 → I' m k = I m k) → I' m 8 = 0 → (∀ a, a ≠ m + 2 → J' a = J a) → Pas m I' J' pn G H → Q (some (.int (nI pn))) I' J' P) : CWp S N (d + 1) MX9_undo [.ref m] I J P Q := by
  rw [c_X9_undo]
  have hm0 := hm
  unfold MdS at hm
  obtain ⟨h1, h2, h3⟩ := hp
  have o7 : (u2 I m 8 0) m 7 = nI (pn + 1) := by rw [u2k _ _ _ (by decide)]; exact h2
  have n0 : (nI (pn + 1) = 0) = False := eq_false (nI_ne0 (by omega) (by omega))
  simp only [e_X9_undo_0, e_X9_undo_1, e_X9_undo_2, e_X9_undo_5, e_X9_undo_6, e_X9_undo_9, e_X9_undo_18, e_X9_undo_19, e_X9_undo_20, e_X9_undo_23, e_X9_undo_24, e_X9_undo_25, e_X9_undo_28, e_X9_undo_29, hm, o7, n0, nI_pred, true_and, and_true, rf_s, not_true_eq_false, not_false_eq_true, true_implies, false_implies, kl_i, kl_n, kl_l, kl_r, Option.toList, List.cons_append, List.nil_append, if_true, if_false, u2s, lt00, lt01, lt02, lt03, le10, le20, le30, ne10, ne20, ne30, eq00]
  have p7 : (u2 (u2 I m 8 0) m 7 (nI pn)) m 7 = nI pn := u2s _ _ _ _
  have e1 := un_l1 (S := S) (N := N) (d := d + 1) (I := u2 (u2 I m 8 0) m 7 (nI pn)) (J := J) (P := P) (Q := Q) hm0 (show pn < 6 by omega) p7 89 0 rfl
  have q7 : (cpR (u2 (u2 I m 8 0) m 7 (nI pn)) (m + 1) 0 (m + 5) (89 * pn) 89) m 7 = nI pn := by rw [cpR_off _ _ _ _ _ (by omega)]; exact p7
  have e2 := un_l2 (S := S) (N := N) (d := d + 1) (I := cpR (u2 (u2 I m 8 0) m 7 (nI pn)) (m + 1) 0 (m + 5) (89 * pn) 89) (J := J) (P := P) (Q := Q) hm0 (show pn < 6 by omega) q7 36 0 rfl
  rw [cpR_0] at e1 e2
  refine e1.mpr ?_
  simp only [e_X9_undo_62, e_X9_undo_63, true_and, and_true, rf_s, not_true_eq_false, not_false_eq_true, true_implies, false_implies, kl_i, kl_n, kl_l, kl_r, Option.toList, List.cons_append, List.nil_append, if_true, if_false, u2s, lt00, lt01, lt02, lt03, le10, le20, le30, ne10, ne20, ne30, eq00]
  refine e2.mpr ?_
  simp only [e_X9_undo_96, e_X9_undo_97, e_X9_undo_100, hm, q7, true_and, and_true, rf_s, not_true_eq_false, not_false_eq_true, true_implies, false_implies, kl_i, kl_n, kl_l, kl_r, Option.toList, List.cons_append, List.nil_append, if_true, if_false, u2s, lt00, lt01, lt02, lt03, le10, le20, le30, ne10, ne20, ne30, eq00]
  refine hq _ _ (fun k hk => ?_) (fun k hk => ?_) (fun a a1 a2 => ?_) (fun k k1 k2 => ?_) ?_ (fun a a1 => ?_) ⟨by omega, q7, fun i hi => ⟨fun k hk => ?_, fun k hk => ?_⟩⟩
  · have h4 := cpR_in (u2 (u2 I m 8 0) m 7 (nI pn)) (m + 1) (x := 0) (m + 5) (89 * pn) (i := 89) (k := k) hk
    rw [Nat.zero_add] at h4
    rw [h4, u2_off _ _ _ (by omega), u2_off _ _ _ (by omega)]
    exact (h3 pn (by omega)).1 k hk
  · have h4 := cpR_in J (m + 2) (x := 0) (m + 6) (36 * pn) (i := 36) (k := k) hk
    rw [Nat.zero_add] at h4
    rw [h4]
    exact (h3 pn (by omega)).2 k hk
  · rw [cpR_off _ _ _ _ _ a2, u2_off _ _ _ a1, u2_off _ _ _ a1]
  · rw [cpR_off _ _ _ _ _ (by omega), u2k _ _ _ k1, u2k _ _ _ k2]
  · rw [cpR_off _ _ _ _ _ (by omega), u2k _ _ _ (by decide), u2s]
  · rw [cpR_off _ _ _ _ _ a1]
  · rw [cpR_off _ _ _ _ _ (by omega), u2_off _ _ _ (by omega), u2_off _ _ _ (by omega)]
    exact (h3 i (by omega)).1 k hk
  · rw [cpR_off _ _ _ _ _ (by omega)]
    exact (h3 i (by omega)).2 k hk
theorem s_save (hm : MdS S N P m)
    (hq : ∀ I' J', (∀ k, k < 89 → I' (m + 3) k = I (m + 1) k) → (∀ k, k < 36 → J' (m + 4) k = J (m + 2) k) → (∀ a, a ≠ m → a ≠ m + 3 → I' a = I a) → (∀ k, k ≠ 4 → k ≠ 8 → I' m k = I m k) → I' m 8 = 0 → I' m 4 = 1 → (∀ a, a ≠ m + 4 → J' a = J a) → Q none I' J' P) : CWp S N d MX9_save [.ref m] I J P Q := by
  rw [c_X9_save]
  have hm0 := hm
  unfold MdS at hm
  have e1 := sv_l1 (S := S) (N := N) (d := d) (I := u2 (u2 I m 8 0) m 4 1) (J := J) (P := P) (Q := Q) hm0 89 0 rfl
  have e2 := sv_l2 (S := S) (N := N) (d := d) (I := cpR (u2 (u2 I m 8 0) m 4 1) (m + 3) 0 (m + 1) 0 89) (J := J) (P := P) (Q := Q) hm0 36 0 rfl
  rw [cpR_0] at e1 e2
  simp only [e_X9_save_0, e_X9_save_1, e_X9_save_2, e_X9_save_5, e_X9_save_6, e_X9_save_7 isB0, e_X9_save_7 isB1, e_X9_save_7 isB_ite, e_X9_save_10, e_X9_save_11, hm, true_and, and_true, rf_s, not_true_eq_false, not_false_eq_true, true_implies, false_implies, kl_i, kl_n, kl_l, kl_r, Option.toList, List.cons_append, List.nil_append, if_true, if_false, u2s, lt00, lt01, lt02, lt03, le10, le20, le30, ne10, ne20, ne30, eq00]
  refine e1.mpr ?_
  simp only [e_X9_save_36, e_X9_save_37, true_and, and_true, rf_s, not_true_eq_false, not_false_eq_true, true_implies, false_implies, kl_i, kl_n, kl_l, kl_r, Option.toList, List.cons_append, List.nil_append, if_true, if_false, u2s, lt00, lt01, lt02, lt03, le10, le20, le30, ne10, ne20, ne30, eq00]
  refine e2.mpr ?_
  simp only [e_X9_save_62, true_and, and_true, rf_s, not_true_eq_false, not_false_eq_true, true_implies, false_implies, kl_i, kl_n, kl_l, kl_r, Option.toList, List.cons_append, List.nil_append, if_true, if_false, u2s, lt00, lt01, lt02, lt03, le10, le20, le30, ne10, ne20, ne30, eq00]
  refine hq _ _ (fun k hk => ?_) (fun k hk => ?_) (fun a a1 a2 => ?_) (fun k k1 k2 => ?_) ?_ ?_ (fun a a1 => ?_)
  · have h4 := cpR_in (u2 (u2 I m 8 0) m 4 1) (m + 3) (x := 0) (m + 1) 0 (i := 89) (k := k) hk
    simp only [Nat.zero_add] at h4
    rw [h4, u2_off _ _ _ (by omega), u2_off _ _ _ (by omega)]
  · have h4 := cpR_in J (m + 4) (x := 0) (m + 2) 0 (i := 36) (k := k) hk
    simp only [Nat.zero_add] at h4
    rw [h4]
  · rw [cpR_off _ _ _ _ _ a2, u2_off _ _ _ a1, u2_off _ _ _ a1]
  · rw [cpR_off _ _ _ _ _ (by omega), u2k _ _ _ k1, u2k _ _ _ k2]
  · rw [cpR_off _ _ _ _ _ (by omega), u2k _ _ _ (by decide), u2s]
  · rw [cpR_off _ _ _ _ _ (by omega), u2s]
  · rw [cpR_off _ _ _ _ _ a1]
theorem s_restore_bad (hm : MdS S N P m) (h4 : I m 4 = 0) : CWp S N (d + 1) MX9_restore [.ref m] I J P Q ↔ Q none (u2 I m 8 1) J P := by
  rw [c_X9_restore]
  have hm0 := hm
  unfold MdS at hm
  simp only [e_X9_restore_0, e_X9_restore_1, e_X9_restore_2, e_X9_restore_5, e_X9_restore_8, e_X9_restore_9, e_X9_restore_12, e_X9_restore_13, e_X9_restore_16, e_X9_restore_17, e_X9_restore_20, e_X9_restore_23, hm, h4, true_and, and_true, rf_s, not_true_eq_false, not_false_eq_true, true_implies, false_implies, kl_i, kl_n, kl_l, kl_r, Option.toList, List.cons_append, List.nil_append, if_true, if_false, u2s, lt00, lt01, lt02, lt03, le10, le20, le30, ne10, ne20, ne30, eq00]
theorem s_restore_ok (hm : MdS S N P m) (h4 : I m 4 = 1) {pn : Nat} {G : Nat → Nat → Int32} {H : Nat → Nat → Int64} (hp : Pas m I J pn G H)
    (hq : ∀ I' J', (∀ k, k < 89 → I' (m + 1) k = I (m + 3) k) → (∀ k, k < 36 → J' (m + 2) k = J (m + 4) k) → (∀ a, a ≠ m → a ≠ m + 1 → a ≠ m + 5 → I' a = I a) → (∀ k, k ≠ 7 → k ≠ 8 → I' m k = I m k) → I' m 8 = 0 → (∀ a, a ≠ m + 2 → a ≠ m + 6 → J' a = J a) → Pas m I' J' (psn pn) (psh pn G (I (m + 1))) (psh pn H (J (m + 2))) → Q none I' J' P) : CWp S N (d + 1) MX9_restore [.ref m] I J P Q := by
  rw [c_X9_restore]
  have hm0 := hm
  unfold MdS at hm
  have n10 : ((1 : Int32) = 0) = False := by decide
  simp only [e_X9_restore_0, e_X9_restore_1, e_X9_restore_2, e_X9_restore_5, e_X9_restore_8, e_X9_restore_9, e_X9_restore_12, e_X9_restore_13, e_X9_restore_16, e_X9_restore_17, e_X9_restore_20, e_X9_restore_23, e_X9_restore_24, e_X9_restore_25, hm, h4, n10, le00, true_and, and_true, rf_s, not_true_eq_false, not_false_eq_true, true_implies, false_implies, kl_i, kl_n, kl_l, kl_r, Option.toList, List.cons_append, List.nil_append, if_true, if_false, u2s, lt00, lt01, lt02, lt03, le10, le20, le30, ne10, ne20, ne30, eq00]
  have hp2 : Pas m (u2 I m 8 0) J pn G H := ⟨hp.1, by rw [u2k _ _ _ (by decide)]; exact hp.2.1, fun i hi => by rw [u2_off _ _ _ (by omega)]; exact hp.2.2 i hi⟩
  refine s_changes hm0 hp2 (fun I1 J1 a1 a2 a3 a4 => ?_)
  have e1 := rs_l1 (S := S) (N := N) (d := d + 1) (I := I1) (J := J1) (P := P) (Q := Q) hm0 89 0 rfl
  have e2 := rs_l2 (S := S) (N := N) (d := d + 1) (I := cpR I1 (m + 1) 0 (m + 3) 0 89) (J := J1) (P := P) (Q := Q) hm0 36 0 rfl
  rw [cpR_0] at e1 e2
  simp only [e_X9_restore_28, e_X9_restore_29, true_and, and_true, rf_s, not_true_eq_false, not_false_eq_true, true_implies, false_implies, kl_i, kl_n, kl_l, kl_r, Option.toList, List.cons_append, List.nil_append, if_true, if_false, u2s, lt00, lt01, lt02, lt03, le10, le20, le30, ne10, ne20, ne30, eq00]
  refine e1.mpr ?_
  simp only [e_X9_restore_54, e_X9_restore_55, true_and, and_true, rf_s, not_true_eq_false, not_false_eq_true, true_implies, false_implies, kl_i, kl_n, kl_l, kl_r, Option.toList, List.cons_append, List.nil_append, if_true, if_false, u2s, lt00, lt01, lt02, lt03, le10, le20, le30, ne10, ne20, ne30, eq00]
  refine e2.mpr ?_
  simp only [e_X9_restore_80, true_and, and_true, rf_s, not_true_eq_false, not_false_eq_true, true_implies, false_implies, kl_i, kl_n, kl_l, kl_r, Option.toList, List.cons_append, List.nil_append, if_true, if_false, u2s, lt00, lt01, lt02, lt03, le10, le20, le30, ne10, ne20, ne30, eq00]
  obtain ⟨b1, b2, b3⟩ := a4
  refine hq _ _ (fun k hk => ?_) (fun k hk => ?_) (fun a c1 c2 c3 => ?_) (fun k k1 k2 => ?_) ?_ (fun a c1 c2 => ?_) ⟨b1, ?_, fun i hi => ⟨fun k hk => ?_, fun k hk => ?_⟩⟩
  · have h4 := cpR_in I1 (m + 1) (x := 0) (m + 3) 0 (i := 89) (k := k) hk
    simp only [Nat.zero_add] at h4
    rw [h4, a1 _ (by omega) (by omega), u2_off _ _ _ (by omega)]
  · have h4 := cpR_in J1 (m + 2) (x := 0) (m + 4) 0 (i := 36) (k := k) hk
    simp only [Nat.zero_add] at h4
    rw [h4, a3 _ (by omega)]
  · rw [cpR_off _ _ _ _ _ c2, a1 a c1 c3, u2_off _ _ _ c1]
  · rw [cpR_off _ _ _ _ _ (by omega), a2 k k1, u2k _ _ _ k2]
  · rw [cpR_off _ _ _ _ _ (by omega), a2 8 (by decide), u2s]
  · rw [cpR_off _ _ _ _ _ c1, a3 a c2]
  · rw [cpR_off _ _ _ _ _ (by omega)]; exact b2
  · rw [cpR_off _ _ _ _ _ (by omega), (b3 i hi).1 k hk, u2_off _ _ _ (by omega)]
  · rw [cpR_off _ _ _ _ _ (by omega), (b3 i hi).2 k hk]
theorem forgets_loop (hm : MdS S N P m) {k : Nat} (hk : k < 6) : ∀ (n p : Nat), p + n = 6 → ∀ (J : JM), (∀ J', (∀ a, a ≠ m + 2 → J' a = J a) → (∀ p' k', p' < 6 → k' < 6 → J' (m + 2) (6 * p' + k') = if k' = k ∧ p ≤ p' then 0 else J (m + 2) (6 * p' + k')) → Q none I J' P) →
    Wp S N d MX9_forgets 2 [some (.ref m), some (.int (nI k)), some (.int (nI p))] [] I J P Q := by
  have hm0 := hm
  unfold MdS at hm
  intro n
  induction n with
  | zero =>
    intro p hp J hq
    have hp : p = 6 := by omega
    subst hp
    have g1 : (6 : Int32) ≤ nI 6 := by decide
    simp only [e_X9_forgets_0, e_X9_forgets_1, e_X9_forgets_2, e_X9_forgets_3, e_X9_forgets_5, e_X9_forgets_8, e_X9_forgets_9, e_X9_forgets_12, e_X9_forgets_14, e_X9_forgets_15, e_X9_forgets_16, e_X9_forgets_17, e_X9_forgets_18, e_X9_forgets_19, e_X9_forgets_20, e_X9_forgets_23, e_X9_forgets_26, g1, true_and, and_true, rf_s, not_true_eq_false, not_false_eq_true, true_implies, false_implies, kl_i, kl_n, kl_l, kl_r, Option.toList, List.cons_append, List.nil_append, if_true, if_false, u2s, lt00, lt01, lt02, lt03, le10, le20, le30, ne10, ne20, ne30, eq00]
    exact hq J (fun _ _ => rfl) (fun p' k' h1 h2 => by rw [if_neg (by omega)])
  | succ n ih =>
    intro p hp J hq
    have g1 : ¬ (6 : Int32) ≤ nI p := nI_ge (a := p) (b := 6) (by omega) (by decide)
    have q1 : (6 : Int32) * nI p + nI k = nI (6 * p + k) := by rw [show (6 : Int32) = nI 6 from rfl, pk_mul, nI_add]
    rw [e_X9_forgets_2]
    simp only [e_X9_forgets_0, e_X9_forgets_1, e_X9_forgets_3, e_X9_forgets_5, e_X9_forgets_8, e_X9_forgets_9, e_X9_forgets_12, e_X9_forgets_14, e_X9_forgets_15, e_X9_forgets_16, e_X9_forgets_17, e_X9_forgets_18, e_X9_forgets_19, e_X9_forgets_20, e_X9_forgets_23, e_X9_forgets_26, hm, g1, q1, nI_1, nI_clamp (show 6 * p + k < 2 ^ 31 by omega), vp_in_nI (show 6 * p + k < 36 by omega) (show 36 < 2 ^ 31 by decide), true_and, and_true, rf_s, not_true_eq_false, not_false_eq_true, true_implies, false_implies, kl_i, kl_n, kl_l, kl_r, Option.toList, List.cons_append, List.nil_append, if_true, if_false, u2s, lt00, lt01, lt02, lt03, le10, le20, le30, ne10, ne20, ne30, eq00]
    refine ih (p + 1) (by omega) _ (fun J' a1 a2 => hq J' (fun a ha => (a1 a ha).trans (u2_off _ _ _ ha)) (fun p' k' h1 h2 => ?_))
    rw [a2 p' k' h1 h2]
    by_cases hc : k' = k ∧ p ≤ p'
    · rw [if_pos hc]
      by_cases hc2 : p + 1 ≤ p'
      · rw [if_pos ⟨hc.1, hc2⟩]
      · rw [if_neg (fun q => hc2 q.2)]
        obtain ⟨rfl, h3⟩ := hc
        have : p' = p := by omega
        subst this
        exact u2s _ _ _ _
    · rw [if_neg hc, if_neg (fun q => hc ⟨q.1, by omega⟩), u2k _ _ _ (fun q => hc ⟨by omega, by omega⟩)]
theorem s_forgets (hm : MdS S N P m) {k : Nat} (hk : k < 6) (hq : ∀ J', (∀ a, a ≠ m + 2 → J' a = J a) → (∀ p' k', p' < 6 → k' < 6 → J' (m + 2) (6 * p' + k') = if k' = k then 0 else J (m + 2) (6 * p' + k')) → Q none I J' P) : CWp S N d MX9_forgets [.ref m, .int (nI k)] I J P Q := by
  rw [c_X9_forgets]
  simp only [e_X9_forgets_0, e_X9_forgets_1, true_and, and_true, rf_s, not_true_eq_false, not_false_eq_true, true_implies, false_implies, kl_i, kl_n, kl_l, kl_r, Option.toList, List.cons_append, List.nil_append, if_true, if_false, u2s, lt00, lt01, lt02, lt03, le10, le20, le30, ne10, ne20, ne30, eq00]
  exact forgets_loop hm hk 6 0 (by omega) J (fun J' a1 a2 => hq J' a1 (fun p' k' h1 h2 => by rw [a2 p' k' h1 h2]; simp))
theorem cl_l1 (hm : MdS S N P m) {v : Int32} : ∀ (n k : Nat), k + n = 64 → ∀ (I : IM), (∀ I', (∀ a, a ≠ m + 1 → I' a = I a) → (∀ j, I' (m + 1) j = if k ≤ j ∧ j < 64 then 0 else I (m + 1) j) → Wp S N d MX9_clearRules 46 [some (.ref m), some (.int v), some (.int (nI 64))] [] I' J P Q) → Wp S N d MX9_clearRules 27 [some (.ref m), some (.int v), some (.int (nI k))] [] I J P Q := by
  have hm0 := hm
  unfold MdS at hm
  intro n
  induction n with
  | zero =>
    intro k hk I hq
    have hk : k = 64 := by omega
    subst hk
    have g1 : (64 : Int32) ≤ nI 64 := by decide
    simp only [e_X9_clearRules_27, e_X9_clearRules_28, e_X9_clearRules_30, g1, true_and, and_true, rf_s, not_true_eq_false, not_false_eq_true, true_implies, false_implies, kl_i, kl_n, kl_l, kl_r, Option.toList, List.cons_append, List.nil_append, if_true, if_false, u2s, lt00, lt01, lt02, lt03, le10, le20, le30, ne10, ne20, ne30, eq00]
    exact hq I (fun _ _ => rfl) (fun j => by rw [if_neg (by omega)])
  | succ n ih =>
    intro k hk I hq
    have g1 : ¬ (64 : Int32) ≤ nI k := nI_ge (a := k) (b := 64) (by omega) (by decide)
    rw [e_X9_clearRules_27]
    simp only [e_X9_clearRules_28, e_X9_clearRules_30, e_X9_clearRules_33, e_X9_clearRules_34, e_X9_clearRules_37, e_X9_clearRules_38, e_X9_clearRules_39, e_X9_clearRules_40, e_X9_clearRules_43, hm, g1, nI_1, nI_clamp (show k < 2 ^ 31 by omega), vp_in_nI (show k < 89 by omega) (show 89 < 2 ^ 31 by decide), true_and, and_true, rf_s, not_true_eq_false, not_false_eq_true, true_implies, false_implies, kl_i, kl_n, kl_l, kl_r, Option.toList, List.cons_append, List.nil_append, if_true, if_false, u2s, lt00, lt01, lt02, lt03, le10, le20, le30, ne10, ne20, ne30, eq00]
    refine ih (k + 1) (by omega) _ (fun I' a1 a2 => hq I' (fun a ha => (a1 a ha).trans (u2_off _ _ _ ha)) (fun j => ?_))
    rw [a2 j]
    by_cases hj : j = k
    · subst hj
      rw [if_neg (by omega), if_pos (by omega), u2s]
    · rw [u2k _ _ _ hj]
      by_cases hc : k ≤ j ∧ j < 64
      · rw [if_pos hc, if_pos (by omega)]
      · rw [if_neg hc, if_neg (by omega)]
theorem cl_l2 (hm : MdS S N P m) {v : Int32} : ∀ (n k : Nat), k + n = 6 → ∀ (J : JM), (∀ J', (∀ a, a ≠ m + 2 → J' a = J a) → Q (some (.int v)) I J' P) → Wp S N (d + 1) MX9_clearRules 55 [some (.ref m), some (.int v), some (.int (nI k))] [] I J P Q := by
  have hm0 := hm
  unfold MdS at hm
  intro n
  induction n with
  | zero =>
    intro k hk J hq
    have hk : k = 6 := by omega
    subst hk
    have g1 : (6 : Int32) ≤ nI 6 := by decide
    simp only [e_X9_clearRules_55, e_X9_clearRules_56, e_X9_clearRules_58, e_X9_clearRules_61, e_X9_clearRules_62, e_X9_clearRules_63, e_X9_clearRules_66, e_X9_clearRules_69, e_X9_clearRules_72, e_X9_clearRules_73, g1, true_and, and_true, rf_s, not_true_eq_false, not_false_eq_true, true_implies, false_implies, kl_i, kl_n, kl_l, kl_r, Option.toList, List.cons_append, List.nil_append, if_true, if_false, u2s, lt00, lt01, lt02, lt03, le10, le20, le30, ne10, ne20, ne30, eq00]
    exact hq J (fun _ _ => rfl)
  | succ n ih =>
    intro k hk J hq
    have g1 : ¬ (6 : Int32) ≤ nI k := nI_ge (a := k) (b := 6) (by omega) (by decide)
    simp only [e_X9_clearRules_55, e_X9_clearRules_56, e_X9_clearRules_58, e_X9_clearRules_61, e_X9_clearRules_62, e_X9_clearRules_63, hm, g1, true_and, and_true, rf_s, not_true_eq_false, not_false_eq_true, true_implies, false_implies, kl_i, kl_n, kl_l, kl_r, Option.toList, List.cons_append, List.nil_append, if_true, if_false, u2s, lt00, lt01, lt02, lt03, le10, le20, le30, ne10, ne20, ne30, eq00]
    refine s_forgets hm0 (by omega) (fun J1 a1 _ => ?_)
    simp only [e_X9_clearRules_66, e_X9_clearRules_69, nI_1, true_and, and_true, rf_s, not_true_eq_false, not_false_eq_true, true_implies, false_implies, kl_i, kl_n, kl_l, kl_r, Option.toList, List.cons_append, List.nil_append, if_true, if_false, u2s, lt00, lt01, lt02, lt03, le10, le20, le30, ne10, ne20, ne30, eq00]
    exact ih (k + 1) (by omega) J1 (fun J' b1 => hq J' (fun a ha => (b1 a ha).trans (a1 a ha)))
theorem s_clearRules (hm : MdS S N P m) {pn : Nat} {G : Nat → Nat → Int32} {H : Nat → Nat → Int64} (hp : Pas m I J pn G H)
    (hq : ∀ I' J', (∀ k, I' (m + 1) k = if k = 0 then 1 else if k < 64 then 0 else I (m + 1) k) → (∀ a, a ≠ m → a ≠ m + 1 → a ≠ m + 5 → I' a = I a) → (∀ k, k ≠ 7 → k ≠ 8 → I' m k = I m k) → I' m 8 = 0 → (∀ a, a ≠ m + 2 → a ≠ m + 6 → J' a = J a) → Pas m I' J' (psn pn) (psh pn G (I (m + 1))) (psh pn H (J (m + 2))) → Q (some (.int (I (m + 1) 18 + I (m + 1) 27))) I' J' P) : CWp S N (d + 2) MX9_clearRules [.ref m] I J P Q := by
  rw [c_X9_clearRules]
  have hm0 := hm
  unfold MdS at hm
  simp only [e_X9_clearRules_0, e_X9_clearRules_1, e_X9_clearRules_2, e_X9_clearRules_5, e_X9_clearRules_6, hm, true_and, and_true, rf_s, not_true_eq_false, not_false_eq_true, true_implies, false_implies, kl_i, kl_n, kl_l, kl_r, Option.toList, List.cons_append, List.nil_append, if_true, if_false, u2s, lt00, lt01, lt02, lt03, le10, le20, le30, ne10, ne20, ne30, eq00]
  have hp2 : Pas m (u2 I m 8 0) J pn G H := ⟨hp.1, by rw [u2k _ _ _ (by decide)]; exact hp.2.1, fun i hi => by rw [u2_off _ _ _ (by omega)]; exact hp.2.2 i hi⟩
  refine s_changes hm0 hp2 (fun I1 J1 a1 a2 a3 a4 => ?_)
  have a1g : I1 (m + 1) = I (m + 1) := by rw [a1 _ (by omega) (by omega), u2_off _ _ _ (by omega)]
  simp only [e_X9_clearRules_9, e_X9_clearRules_10, e_X9_clearRules_13, e_X9_clearRules_15, e_X9_clearRules_16, e_X9_clearRules_17, e_X9_clearRules_20, e_X9_clearRules_22, e_X9_clearRules_23, e_X9_clearRules_24, e_X9_clearRules_25, e_X9_clearRules_26, hm, a1g, cl_18, cl_27, vl89_18, vl89_27, true_and, and_true, rf_s, not_true_eq_false, not_false_eq_true, true_implies, false_implies, kl_i, kl_n, kl_l, kl_r, Option.toList, List.cons_append, List.nil_append, if_true, if_false, u2s, lt00, lt01, lt02, lt03, le10, le20, le30, ne10, ne20, ne30, eq00]
  refine cl_l1 hm0 64 0 rfl I1 (fun I2 b1 b2 => ?_)
  simp only [e_X9_clearRules_46, e_X9_clearRules_47, e_X9_clearRules_50, e_X9_clearRules_51, e_X9_clearRules_52, e_X9_clearRules_53, e_X9_clearRules_54, hm, cl_0, vl89_0, true_and, and_true, rf_s, not_true_eq_false, not_false_eq_true, true_implies, false_implies, kl_i, kl_n, kl_l, kl_r, Option.toList, List.cons_append, List.nil_append, if_true, if_false, u2s, lt00, lt01, lt02, lt03, le10, le20, le30, ne10, ne20, ne30, eq00]
  refine cl_l2 hm0 6 0 rfl J1 (fun J2 c1 => ?_)
  obtain ⟨p1, p2, p3⟩ := a4
  refine hq _ _ (fun k => ?_) (fun a c2 c3 c4 => ?_) (fun k k1 k2 => ?_) ?_ (fun a c2 c3 => ?_) ⟨p1, ?_, fun i hi => ⟨fun k hk => ?_, fun k hk => ?_⟩⟩
  · by_cases h0 : k = 0
    · subst h0
      rw [u2s, if_pos rfl]
    · rw [u2k _ _ _ h0, if_neg h0, b2 k, a1g]
      by_cases hc : k < 64
      · rw [if_pos (by omega), if_pos hc]
      · rw [if_neg (by omega), if_neg hc]
  · rw [u2_off _ _ _ c3, b1 a c3, a1 a c2 c4, u2_off _ _ _ c2]
  · rw [u2_off _ _ _ (by omega), b1 _ (by omega), a2 k k1, u2k _ _ _ k2]
  · rw [u2_off _ _ _ (by omega), b1 _ (by omega), a2 _ (by decide), u2s]
  · rw [c1 a c2, a3 a c3]
  · rw [u2_off _ _ _ (by omega), b1 _ (by omega)]; exact p2
  · rw [u2_off _ _ _ (by omega), b1 _ (by omega), (p3 i hi).1 k hk, u2_off _ _ _ (by omega)]
  · rw [c1 _ (by omega), (p3 i hi).2 k hk]
theorem s_years (hm : MdS S N P m) : CWp S N d MX9_years [.ref m] I J P Q ↔ Q (some (.int (I (m + 1) 88))) (u2 I m 8 0) J P := by
  rw [c_X9_years]
  unfold MdS at hm
  have e : (u2 I m 8 0) (m + 1) = I (m + 1) := u2_off _ _ _ (by omega)
  simp only [e_X9_years_0, e_X9_years_1, e_X9_years_2, e_X9_years_5, e_X9_years_6, e_X9_years_9, e_X9_years_11, e_X9_years_12, hm, cl_88, vl89_88, e, true_and, and_true, rf_s, not_true_eq_false, not_false_eq_true, true_implies, false_implies, kl_i, kl_n, kl_l, kl_r, Option.toList, List.cons_append, List.nil_append, if_true, if_false, u2s, lt00, lt01, lt02, lt03, le10, le20, le30, ne10, ne20, ne30, eq00]
end MTB

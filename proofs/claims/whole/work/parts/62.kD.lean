/-! the class: its items -/
/-- how many numbers a letter wants -/
def Wn (w : Int32) : Nat := if w = 98 ∨ w = 99 ∨ w = 109 then 2 else if w = 97 then 3 else if w = 110 ∨ w = 114 ∨ w = 107 then 4 else 0
section KTD
variable {S N : Nat → Nat} {d : Nat} {I : IM} {J : JM} {P : PM} {Q : Option Value → IM → JM → PM → Prop} {x n s r : Nat} {c : Nat → Int32} {l : List Nat} {π : Nat → Nat} {o : Bool} {t : Nat → Int32} {hF : Nat → Int64}
theorem k_wanted {w : Int32} : CWp S N d MX6_numbersWanted [.ref x, .int w] I J P Q ↔ Q (some (.int (nI (Wn w)))) I J P := by
  rw [c_X6_numbersWanted, e_X6_numbersWanted_0]
  by_cases hr : w.toInt < 97 ∨ 114 < w.toInt
  · have h0 : tx_go (.tableswitch 93 97 114 #[89, 87, 87, 93, 93, 93, 93, 93, 93, 93, 91, 93, 87, 91, 93, 93, 93, 91]) [.int w] = some (93, []) := if_pos hr
    have e0 : Wn w = 0 := by
      have ne : ∀ k : Nat, 97 ≤ k → k ≤ 114 → ¬ w = nI k := fun k h1 h2 z => by
        rw [z, nI_toInt (by omega)] at hr
        omega
      unfold Wn
      rw [if_neg (fun z => by rcases z with z | z | z; exact ne 98 (by decide) (by decide) z; exact ne 99 (by decide) (by decide) z; exact ne 109 (by decide) (by decide) z), if_neg (show ¬ w = 97 from ne 97 (by decide) (by decide)), if_neg (fun z => by rcases z with z | z | z; exact ne 110 (by decide) (by decide) z; exact ne 114 (by decide) (by decide) z; exact ne 107 (by decide) (by decide) z)]
    rw [e_X6_numbersWanted_1 (off := 93) (tgt := 94) h0 (by decide), e0]
    simp only [e_X6_numbersWanted_94, e_X6_numbersWanted_95]
    rfl
  · have hk : ∃ k : Nat, 97 ≤ k ∧ k ≤ 114 ∧ w = nI k := ⟨w.toInt.toNat, by omega, by omega, by
      apply Int32.toInt_inj.mp
      rw [nI_toInt (by omega)]
      omega⟩
    obtain ⟨k, h1, h2, rfl⟩ := hk
    rcases (show k = 97 ∨ k = 98 ∨ k = 99 ∨ k = 100 ∨ k = 101 ∨ k = 102 ∨ k = 103 ∨ k = 104 ∨ k = 105 ∨ k = 106 ∨ k = 107 ∨ k = 108 ∨ k = 109 ∨ k = 110 ∨ k = 111 ∨ k = 112 ∨ k = 113 ∨ k = 114 by omega) with rfl | rfl | rfl | rfl | rfl | rfl | rfl | rfl | rfl | rfl | rfl | rfl | rfl | rfl | rfl | rfl | rfl | rfl
    · rw [e_X6_numbersWanted_1 (off := 89) (tgt := 90) rfl (by decide), show Wn (nI 97) = 3 from by decide]
      simp only [e_X6_numbersWanted_90, e_X6_numbersWanted_91]
      rfl
    · rw [e_X6_numbersWanted_1 (off := 87) (tgt := 88) rfl (by decide), show Wn (nI 98) = 2 from by decide]
      simp only [e_X6_numbersWanted_88, e_X6_numbersWanted_89]
      rfl
    · rw [e_X6_numbersWanted_1 (off := 87) (tgt := 88) rfl (by decide), show Wn (nI 99) = 2 from by decide]
      simp only [e_X6_numbersWanted_88, e_X6_numbersWanted_89]
      rfl
    · rw [e_X6_numbersWanted_1 (off := 93) (tgt := 94) rfl (by decide), show Wn (nI 100) = 0 from by decide]
      simp only [e_X6_numbersWanted_94, e_X6_numbersWanted_95]
      rfl
    · rw [e_X6_numbersWanted_1 (off := 93) (tgt := 94) rfl (by decide), show Wn (nI 101) = 0 from by decide]
      simp only [e_X6_numbersWanted_94, e_X6_numbersWanted_95]
      rfl
    · rw [e_X6_numbersWanted_1 (off := 93) (tgt := 94) rfl (by decide), show Wn (nI 102) = 0 from by decide]
      simp only [e_X6_numbersWanted_94, e_X6_numbersWanted_95]
      rfl
    · rw [e_X6_numbersWanted_1 (off := 93) (tgt := 94) rfl (by decide), show Wn (nI 103) = 0 from by decide]
      simp only [e_X6_numbersWanted_94, e_X6_numbersWanted_95]
      rfl
    · rw [e_X6_numbersWanted_1 (off := 93) (tgt := 94) rfl (by decide), show Wn (nI 104) = 0 from by decide]
      simp only [e_X6_numbersWanted_94, e_X6_numbersWanted_95]
      rfl
    · rw [e_X6_numbersWanted_1 (off := 93) (tgt := 94) rfl (by decide), show Wn (nI 105) = 0 from by decide]
      simp only [e_X6_numbersWanted_94, e_X6_numbersWanted_95]
      rfl
    · rw [e_X6_numbersWanted_1 (off := 93) (tgt := 94) rfl (by decide), show Wn (nI 106) = 0 from by decide]
      simp only [e_X6_numbersWanted_94, e_X6_numbersWanted_95]
      rfl
    · rw [e_X6_numbersWanted_1 (off := 91) (tgt := 92) rfl (by decide), show Wn (nI 107) = 4 from by decide]
      simp only [e_X6_numbersWanted_92, e_X6_numbersWanted_93]
      rfl
    · rw [e_X6_numbersWanted_1 (off := 93) (tgt := 94) rfl (by decide), show Wn (nI 108) = 0 from by decide]
      simp only [e_X6_numbersWanted_94, e_X6_numbersWanted_95]
      rfl
    · rw [e_X6_numbersWanted_1 (off := 87) (tgt := 88) rfl (by decide), show Wn (nI 109) = 2 from by decide]
      simp only [e_X6_numbersWanted_88, e_X6_numbersWanted_89]
      rfl
    · rw [e_X6_numbersWanted_1 (off := 91) (tgt := 92) rfl (by decide), show Wn (nI 110) = 4 from by decide]
      simp only [e_X6_numbersWanted_92, e_X6_numbersWanted_93]
      rfl
    · rw [e_X6_numbersWanted_1 (off := 93) (tgt := 94) rfl (by decide), show Wn (nI 111) = 0 from by decide]
      simp only [e_X6_numbersWanted_94, e_X6_numbersWanted_95]
      rfl
    · rw [e_X6_numbersWanted_1 (off := 93) (tgt := 94) rfl (by decide), show Wn (nI 112) = 0 from by decide]
      simp only [e_X6_numbersWanted_94, e_X6_numbersWanted_95]
      rfl
    · rw [e_X6_numbersWanted_1 (off := 93) (tgt := 94) rfl (by decide), show Wn (nI 113) = 0 from by decide]
      simp only [e_X6_numbersWanted_94, e_X6_numbersWanted_95]
      rfl
    · rw [e_X6_numbersWanted_1 (off := 91) (tgt := 92) rfl (by decide), show Wn (nI 114) = 4 from by decide]
      simp only [e_X6_numbersWanted_92, e_X6_numbersWanted_93]
      rfl
theorem k_kind110 : CWp S N d MX6_kindOf [.ref x, .int 110] I J P Q ↔ Q (some (.int (0))) I J P := by
  rw [c_X6_kindOf, e_X6_kindOf_0, e_X6_kindOf_1 (off := 35) (tgt := 36) rfl (by decide)]
  simp only [e_X6_kindOf_36, e_X6_kindOf_37]
theorem k_kind114 : CWp S N d MX6_kindOf [.ref x, .int 114] I J P Q ↔ Q (some (.int (1))) I J P := by
  rw [c_X6_kindOf, e_X6_kindOf_0, e_X6_kindOf_1 (off := 37) (tgt := 38) rfl (by decide)]
  simp only [e_X6_kindOf_38, e_X6_kindOf_39]
theorem k_kind107 : CWp S N d MX6_kindOf [.ref x, .int 107] I J P Q ↔ Q (some (.int (2))) I J P := by
  rw [c_X6_kindOf, e_X6_kindOf_0, e_X6_kindOf_1 (off := 39) (tgt := 40) rfl (by decide)]
  simp only [e_X6_kindOf_40, e_X6_kindOf_41]
theorem k_kind97 : CWp S N d MX6_kindOf [.ref x, .int 97] I J P Q ↔ Q (some (.int (-1))) I J P := by
  rw [c_X6_kindOf, e_X6_kindOf_0, e_X6_kindOf_1 (off := 41) (tgt := 42) rfl (by decide)]
  simp only [e_X6_kindOf_42, e_X6_kindOf_43]
theorem k_kind98 : CWp S N d MX6_kindOf [.ref x, .int 98] I J P Q ↔ Q (some (.int (-1))) I J P := by
  rw [c_X6_kindOf, e_X6_kindOf_0, e_X6_kindOf_1 (off := 41) (tgt := 42) rfl (by decide)]
  simp only [e_X6_kindOf_42, e_X6_kindOf_43]
theorem k_kind99 : CWp S N d MX6_kindOf [.ref x, .int 99] I J P Q ↔ Q (some (.int (-1))) I J P := by
  rw [c_X6_kindOf, e_X6_kindOf_0, e_X6_kindOf_1 (off := 41) (tgt := 42) rfl (by decide)]
  simp only [e_X6_kindOf_42, e_X6_kindOf_43]
theorem k_kind109 : CWp S N d MX6_kindOf [.ref x, .int 109] I J P Q ↔ Q (some (.int (-1))) I J P := by
  rw [c_X6_kindOf, e_X6_kindOf_0, e_X6_kindOf_1 (off := 41) (tgt := 42) rfl (by decide)]
  simp only [e_X6_kindOf_42, e_X6_kindOf_43]
/-- what carryOut does for a letter -/
abbrev CO (S N : Nat → Nat) (P : PM) (x r : Nat) (π : Nat → Nat) (hF : Nat → Int64) (w : Int32) (a : Nat) (l : List Nat) : Prop := ∀ (d : Nat) (I : IM) (J : JM) (o : Bool) (t : Nat → Int32) (e : Bool) (Q : Option Value → IM → JM → PM → Prop), NL I x l → DS I J r π o t hF → DQ S N I J P r π o t hF a l e Q → CWp S N (d + 1) MX6_carryOut [.ref x, .ref r, .int w, .int (bI e)] I J P Q
theorem co_b (hx : RtS S N P x) (hs : RuS S N P r π) (hdis : x + 3 ≤ r ∨ r + 25 ≤ x) {j : Nat} (hj : 0 < j) (hj80 : j < 40) (hl : l.length = 2 * j) (hv : ∀ v ∈ l, v < 10000) : CO S N P x r π hF 98 0 l := by
  intro d I J o t e Q hn hd hq
  rw [c_X6_carryOut, e_X6_carryOut_0, e_X6_carryOut_1 (off := 43) (tgt := 44) rfl (by decide)]
  have hx0 := hx
  unfold RtS at hx
  have hs' := hs.f
  have h7 : I x 7 = nI (2 * j) := by rw [hn.1, hl]
  have dv : nI (2 * j) / 2 = nI j := by rw [show (2 : Int32) = nI 2 from rfl, pk_div (by omega) (by decide) (by decide), Nat.mul_div_cancel_left _ (by decide)]
  simp only [e_X6_carryOut_44, e_X6_carryOut_45, e_X6_carryOut_46, e_X6_carryOut_49, e_X6_carryOut_50, e_X6_carryOut_53, e_X6_carryOut_54 neI6, e_X6_carryOut_54 neI2, e_X6_carryOut_55, hx, hs', h7, dv, true_and, and_true, rf_s, not_true_eq_false, not_false_eq_true, true_implies, false_implies, kl_i, kl_n, kl_l, kl_r, Option.toList, List.cons_append, List.nil_append, if_true, if_false, u2s, lt00, lt01, lt02, lt03, le10, le20, le30, ne10, ne20, ne30, eq00]
  refine k_setBrackets (e := e) hs hx.2.2.2.2.1 hx.2.2.2.2.2.2 (by omega) hj hl hj80 hv (fun y hy => hn.2 y hy) hd (fun I' J' b f1 f2 f3 => ?_)
  have h9 := hq I' J' b f1 f2 f3
  cases b with
  | true =>
    have e8 : bI true = 1 := rfl
    rw [e8] at h9 ⊢
    simp only [e_X6_carryOut_58 isB0, e_X6_carryOut_58 isB1, e_X6_carryOut_58 isB_ite, true_and, and_true, rf_s, not_true_eq_false, not_false_eq_true, true_implies, false_implies, kl_i, kl_n, kl_l, kl_r, Option.toList, List.cons_append, List.nil_append, if_true, if_false, u2s, lt00, lt01, lt02, lt03, le10, le20, le30, ne10, ne20, ne30, eq00]
    exact h9
  | false =>
    have e8 : bI false = 0 := rfl
    rw [e8] at h9 ⊢
    simp only [e_X6_carryOut_58 isB0, e_X6_carryOut_58 isB1, e_X6_carryOut_58 isB_ite, true_and, and_true, rf_s, not_true_eq_false, not_false_eq_true, true_implies, false_implies, kl_i, kl_n, kl_l, kl_r, Option.toList, List.cons_append, List.nil_append, if_true, if_false, u2s, lt00, lt01, lt02, lt03, le10, le20, le30, ne10, ne20, ne30, eq00]
    exact h9
theorem co_a (hx : RtS S N P x) (hs : RuS S N P r π) (hl : l.length = 3) (hv : ∀ v ∈ l, v < 10000) : CO S N P x r π hF 97 1 l := by
  intro d I J o t e Q hn hd hq
  obtain ⟨a, b, c, rfl⟩ : ∃ a b c, l = [a, b, c] := by
    match l, hl with
    | [a, b, c], _ => exact ⟨a, b, c, rfl⟩
  rw [c_X6_carryOut, e_X6_carryOut_0, e_X6_carryOut_1 (off := 58) (tgt := 59) rfl (by decide)]
  have hx0 := hx
  unfold RtS at hx
  have hs' := hs.f
  have n0 : I (x + 2) 0 = nI a := hn.2 0 (by simp)
  have n1 : I (x + 2) 1 = nI b := hn.2 1 (by simp)
  have n2 : I (x + 2) 2 = nI c := hn.2 2 (by simp)
  simp only [e_X6_carryOut_59, e_X6_carryOut_60, e_X6_carryOut_61, e_X6_carryOut_64, e_X6_carryOut_65, e_X6_carryOut_66, e_X6_carryOut_67, e_X6_carryOut_70, e_X6_carryOut_71, e_X6_carryOut_72, e_X6_carryOut_73, e_X6_carryOut_76, e_X6_carryOut_77, e_X6_carryOut_78, hx, hs', n0, n1, n2, cl_0, cl_1, cl_2, vl80_0, vl80_1, vl80_2, true_and, and_true, rf_s, not_true_eq_false, not_false_eq_true, true_implies, false_implies, kl_i, kl_n, kl_l, kl_r, Option.toList, List.cons_append, List.nil_append, if_true, if_false, u2s, lt00, lt01, lt02, lt03, le10, le20, le30, ne10, ne20, ne30, eq00]
  refine k_setAllowance (e := e) hs (hv c (by simp)) hd (fun I' J' b f1 f2 f3 => ?_)
  have h9 := hq I' J' b f1 f2 f3
  cases b with
  | true =>
    have e8 : bI true = 1 := rfl
    rw [e8] at h9 ⊢
    simp only [e_X6_carryOut_81 isB0, e_X6_carryOut_81 isB1, e_X6_carryOut_81 isB_ite, true_and, and_true, rf_s, not_true_eq_false, not_false_eq_true, true_implies, false_implies, kl_i, kl_n, kl_l, kl_r, Option.toList, List.cons_append, List.nil_append, if_true, if_false, u2s, lt00, lt01, lt02, lt03, le10, le20, le30, ne10, ne20, ne30, eq00]
    exact h9
  | false =>
    have e8 : bI false = 0 := rfl
    rw [e8] at h9 ⊢
    simp only [e_X6_carryOut_81 isB0, e_X6_carryOut_81 isB1, e_X6_carryOut_81 isB_ite, true_and, and_true, rf_s, not_true_eq_false, not_false_eq_true, true_implies, false_implies, kl_i, kl_n, kl_l, kl_r, Option.toList, List.cons_append, List.nil_append, if_true, if_false, u2s, lt00, lt01, lt02, lt03, le10, le20, le30, ne10, ne20, ne30, eq00]
    exact h9
theorem co_m (hx : RtS S N P x) (hs : RuS S N P r π) (hl : l.length = 2) (hv : ∀ v ∈ l, v < 10000) : CO S N P x r π hF 109 2 l := by
  intro d I J o t e Q hn hd hq
  obtain ⟨a, b, rfl⟩ : ∃ a b, l = [a, b] := by
    match l, hl with
    | [a, b], _ => exact ⟨a, b, rfl⟩
  rw [c_X6_carryOut, e_X6_carryOut_0, e_X6_carryOut_1 (off := 81) (tgt := 82) rfl (by decide)]
  have hx0 := hx
  unfold RtS at hx
  have hs' := hs.f
  have n0 : I (x + 2) 0 = nI a := hn.2 0 (by simp)
  have n1 : I (x + 2) 1 = nI b := hn.2 1 (by simp)
  simp only [e_X6_carryOut_82, e_X6_carryOut_83, e_X6_carryOut_84, e_X6_carryOut_87, e_X6_carryOut_88, e_X6_carryOut_89, e_X6_carryOut_90, e_X6_carryOut_93, e_X6_carryOut_94, e_X6_carryOut_95, hx, hs', n0, n1, cl_0, cl_1, vl80_0, vl80_1, true_and, and_true, rf_s, not_true_eq_false, not_false_eq_true, true_implies, false_implies, kl_i, kl_n, kl_l, kl_r, Option.toList, List.cons_append, List.nil_append, if_true, if_false, u2s, lt00, lt01, lt02, lt03, le10, le20, le30, ne10, ne20, ne30, eq00]
  refine k_setMinimum (e := e) hs (hv b (by simp)) hd (fun I' J' b f1 f2 f3 => ?_)
  have h9 := hq I' J' b f1 f2 f3
  cases b with
  | true =>
    have e8 : bI true = 1 := rfl
    rw [e8] at h9 ⊢
    simp only [e_X6_carryOut_98 isB0, e_X6_carryOut_98 isB1, e_X6_carryOut_98 isB_ite, true_and, and_true, rf_s, not_true_eq_false, not_false_eq_true, true_implies, false_implies, kl_i, kl_n, kl_l, kl_r, Option.toList, List.cons_append, List.nil_append, if_true, if_false, u2s, lt00, lt01, lt02, lt03, le10, le20, le30, ne10, ne20, ne30, eq00]
    exact h9
  | false =>
    have e8 : bI false = 0 := rfl
    rw [e8] at h9 ⊢
    simp only [e_X6_carryOut_98 isB0, e_X6_carryOut_98 isB1, e_X6_carryOut_98 isB_ite, true_and, and_true, rf_s, not_true_eq_false, not_false_eq_true, true_implies, false_implies, kl_i, kl_n, kl_l, kl_r, Option.toList, List.cons_append, List.nil_append, if_true, if_false, u2s, lt00, lt01, lt02, lt03, le10, le20, le30, ne10, ne20, ne30, eq00]
    exact h9
theorem co_c (hx : RtS S N P x) (hs : RuS S N P r π) (hl : l.length = 2) : CO S N P x r π hF 99 3 l := by
  intro d I J o t e Q hn hd hq
  obtain ⟨a, b, rfl⟩ : ∃ a b, l = [a, b] := by
    match l, hl with
    | [a, b], _ => exact ⟨a, b, rfl⟩
  rw [c_X6_carryOut, e_X6_carryOut_0, e_X6_carryOut_1 (off := 98) (tgt := 99) rfl (by decide)]
  have hx0 := hx
  unfold RtS at hx
  have hs' := hs.f
  have n0 : I (x + 2) 0 = nI a := hn.2 0 (by simp)
  have n1 : I (x + 2) 1 = nI b := hn.2 1 (by simp)
  simp only [e_X6_carryOut_99, e_X6_carryOut_100, e_X6_carryOut_101, e_X6_carryOut_104, e_X6_carryOut_105, e_X6_carryOut_106, e_X6_carryOut_107, e_X6_carryOut_110, e_X6_carryOut_111, e_X6_carryOut_112, hx, hs', n0, n1, cl_0, cl_1, vl80_0, vl80_1, true_and, and_true, rf_s, not_true_eq_false, not_false_eq_true, true_implies, false_implies, kl_i, kl_n, kl_l, kl_r, Option.toList, List.cons_append, List.nil_append, if_true, if_false, u2s, lt00, lt01, lt02, lt03, le10, le20, le30, ne10, ne20, ne30, eq00]
  refine k_addCharge (e := e) hs hd (fun I' J' b f1 f2 f3 => ?_)
  have h9 := hq I' J' b f1 f2 f3
  cases b with
  | true =>
    have e8 : bI true = 1 := rfl
    rw [e8] at h9 ⊢
    simp only [e_X6_carryOut_115 isB0, e_X6_carryOut_115 isB1, e_X6_carryOut_115 isB_ite, true_and, and_true, rf_s, not_true_eq_false, not_false_eq_true, true_implies, false_implies, kl_i, kl_n, kl_l, kl_r, Option.toList, List.cons_append, List.nil_append, if_true, if_false, u2s, lt00, lt01, lt02, lt03, le10, le20, le30, ne10, ne20, ne30, eq00]
    exact h9
  | false =>
    have e8 : bI false = 0 := rfl
    rw [e8] at h9 ⊢
    simp only [e_X6_carryOut_115 isB0, e_X6_carryOut_115 isB1, e_X6_carryOut_115 isB_ite, true_and, and_true, rf_s, not_true_eq_false, not_false_eq_true, true_implies, false_implies, kl_i, kl_n, kl_l, kl_r, Option.toList, List.cons_append, List.nil_append, if_true, if_false, u2s, lt00, lt01, lt02, lt03, le10, le20, le30, ne10, ne20, ne30, eq00]
    exact h9
theorem co_110 (hx : RtS S N P x) (hs : RuS S N P r π) (hdis : x + 3 ≤ r ∨ r + 25 ≤ x) (hl : l.length = 4) (hv : ∀ v ∈ l, v < 10000) : CO S N P x r π hF 110 4 l := by
  intro d I J o t e Q hn hd hq
  obtain ⟨a, b, c, f, rfl⟩ : ∃ a b c f, l = [a, b, c, f] := by
    match l, hl with
    | [a, b, c, f], _ => exact ⟨a, b, c, f, rfl⟩
  rw [c_X6_carryOut, e_X6_carryOut_0, e_X6_carryOut_1 (off := 115) (tgt := 116) rfl (by decide)]
  have hx0 := hx
  unfold RtS at hx
  have hs' := hs.f
  have n0 : I (x + 2) 0 = nI a := hn.2 0 (by simp)
  have n1 : I (x + 2) 1 = nI b := hn.2 1 (by simp)
  have n2 : I (x + 2) 2 = nI c := hn.2 2 (by simp)
  have n3 : I (x + 2) 3 = nI f := hn.2 3 (by simp)
  have kv : (0 : Int32) = nI 0 := rfl
  simp only [e_X6_carryOut_116, e_X6_carryOut_117, e_X6_carryOut_118, e_X6_carryOut_119, e_X6_carryOut_122, e_X6_carryOut_123, e_X6_carryOut_126, e_X6_carryOut_127, hx, hs', k_kind110, true_and, and_true, rf_s, not_true_eq_false, not_false_eq_true, true_implies, false_implies, kl_i, kl_n, kl_l, kl_r, Option.toList, List.cons_append, List.nil_append, if_true, if_false, u2s, lt00, lt01, lt02, lt03, le10, le20, le30, ne10, ne20, ne30, eq00]
  rw [kv]
  refine k_addCredit (e := e) (kd := 0) hs hx.2.2.2.2.1 hx.2.2.2.2.2.2 (by omega) (by decide) (hv b (by simp)) (hv f (by simp)) n0 n1 n2 n3 hd (fun I' J' b f1 f2 f3 => ?_)
  have h9 := hq I' J' b f1 f2 f3
  cases b with
  | true =>
    have e8 : bI true = 1 := rfl
    rw [e8] at h9 ⊢
    simp only [e_X6_carryOut_130 isB0, e_X6_carryOut_130 isB1, e_X6_carryOut_130 isB_ite, true_and, and_true, rf_s, not_true_eq_false, not_false_eq_true, true_implies, false_implies, kl_i, kl_n, kl_l, kl_r, Option.toList, List.cons_append, List.nil_append, if_true, if_false, u2s, lt00, lt01, lt02, lt03, le10, le20, le30, ne10, ne20, ne30, eq00]
    exact h9
  | false =>
    have e8 : bI false = 0 := rfl
    rw [e8] at h9 ⊢
    simp only [e_X6_carryOut_130 isB0, e_X6_carryOut_130 isB1, e_X6_carryOut_130 isB_ite, true_and, and_true, rf_s, not_true_eq_false, not_false_eq_true, true_implies, false_implies, kl_i, kl_n, kl_l, kl_r, Option.toList, List.cons_append, List.nil_append, if_true, if_false, u2s, lt00, lt01, lt02, lt03, le10, le20, le30, ne10, ne20, ne30, eq00]
    exact h9
theorem co_114 (hx : RtS S N P x) (hs : RuS S N P r π) (hdis : x + 3 ≤ r ∨ r + 25 ≤ x) (hl : l.length = 4) (hv : ∀ v ∈ l, v < 10000) : CO S N P x r π hF 114 5 l := by
  intro d I J o t e Q hn hd hq
  obtain ⟨a, b, c, f, rfl⟩ : ∃ a b c f, l = [a, b, c, f] := by
    match l, hl with
    | [a, b, c, f], _ => exact ⟨a, b, c, f, rfl⟩
  rw [c_X6_carryOut, e_X6_carryOut_0, e_X6_carryOut_1 (off := 115) (tgt := 116) rfl (by decide)]
  have hx0 := hx
  unfold RtS at hx
  have hs' := hs.f
  have n0 : I (x + 2) 0 = nI a := hn.2 0 (by simp)
  have n1 : I (x + 2) 1 = nI b := hn.2 1 (by simp)
  have n2 : I (x + 2) 2 = nI c := hn.2 2 (by simp)
  have n3 : I (x + 2) 3 = nI f := hn.2 3 (by simp)
  have kv : (1 : Int32) = nI 1 := rfl
  simp only [e_X6_carryOut_116, e_X6_carryOut_117, e_X6_carryOut_118, e_X6_carryOut_119, e_X6_carryOut_122, e_X6_carryOut_123, e_X6_carryOut_126, e_X6_carryOut_127, hx, hs', k_kind114, true_and, and_true, rf_s, not_true_eq_false, not_false_eq_true, true_implies, false_implies, kl_i, kl_n, kl_l, kl_r, Option.toList, List.cons_append, List.nil_append, if_true, if_false, u2s, lt00, lt01, lt02, lt03, le10, le20, le30, ne10, ne20, ne30, eq00]
  rw [kv]
  refine k_addCredit (e := e) (kd := 1) hs hx.2.2.2.2.1 hx.2.2.2.2.2.2 (by omega) (by decide) (hv b (by simp)) (hv f (by simp)) n0 n1 n2 n3 hd (fun I' J' b f1 f2 f3 => ?_)
  have h9 := hq I' J' b f1 f2 f3
  cases b with
  | true =>
    have e8 : bI true = 1 := rfl
    rw [e8] at h9 ⊢
    simp only [e_X6_carryOut_130 isB0, e_X6_carryOut_130 isB1, e_X6_carryOut_130 isB_ite, true_and, and_true, rf_s, not_true_eq_false, not_false_eq_true, true_implies, false_implies, kl_i, kl_n, kl_l, kl_r, Option.toList, List.cons_append, List.nil_append, if_true, if_false, u2s, lt00, lt01, lt02, lt03, le10, le20, le30, ne10, ne20, ne30, eq00]
    exact h9
  | false =>
    have e8 : bI false = 0 := rfl
    rw [e8] at h9 ⊢
    simp only [e_X6_carryOut_130 isB0, e_X6_carryOut_130 isB1, e_X6_carryOut_130 isB_ite, true_and, and_true, rf_s, not_true_eq_false, not_false_eq_true, true_implies, false_implies, kl_i, kl_n, kl_l, kl_r, Option.toList, List.cons_append, List.nil_append, if_true, if_false, u2s, lt00, lt01, lt02, lt03, le10, le20, le30, ne10, ne20, ne30, eq00]
    exact h9
theorem co_107 (hx : RtS S N P x) (hs : RuS S N P r π) (hdis : x + 3 ≤ r ∨ r + 25 ≤ x) (hl : l.length = 4) (hv : ∀ v ∈ l, v < 10000) : CO S N P x r π hF 107 6 l := by
  intro d I J o t e Q hn hd hq
  obtain ⟨a, b, c, f, rfl⟩ : ∃ a b c f, l = [a, b, c, f] := by
    match l, hl with
    | [a, b, c, f], _ => exact ⟨a, b, c, f, rfl⟩
  rw [c_X6_carryOut, e_X6_carryOut_0, e_X6_carryOut_1 (off := 115) (tgt := 116) rfl (by decide)]
  have hx0 := hx
  unfold RtS at hx
  have hs' := hs.f
  have n0 : I (x + 2) 0 = nI a := hn.2 0 (by simp)
  have n1 : I (x + 2) 1 = nI b := hn.2 1 (by simp)
  have n2 : I (x + 2) 2 = nI c := hn.2 2 (by simp)
  have n3 : I (x + 2) 3 = nI f := hn.2 3 (by simp)
  have kv : (2 : Int32) = nI 2 := rfl
  simp only [e_X6_carryOut_116, e_X6_carryOut_117, e_X6_carryOut_118, e_X6_carryOut_119, e_X6_carryOut_122, e_X6_carryOut_123, e_X6_carryOut_126, e_X6_carryOut_127, hx, hs', k_kind107, true_and, and_true, rf_s, not_true_eq_false, not_false_eq_true, true_implies, false_implies, kl_i, kl_n, kl_l, kl_r, Option.toList, List.cons_append, List.nil_append, if_true, if_false, u2s, lt00, lt01, lt02, lt03, le10, le20, le30, ne10, ne20, ne30, eq00]
  rw [kv]
  refine k_addCredit (e := e) (kd := 2) hs hx.2.2.2.2.1 hx.2.2.2.2.2.2 (by omega) (by decide) (hv b (by simp)) (hv f (by simp)) n0 n1 n2 n3 hd (fun I' J' b f1 f2 f3 => ?_)
  have h9 := hq I' J' b f1 f2 f3
  cases b with
  | true =>
    have e8 : bI true = 1 := rfl
    rw [e8] at h9 ⊢
    simp only [e_X6_carryOut_130 isB0, e_X6_carryOut_130 isB1, e_X6_carryOut_130 isB_ite, true_and, and_true, rf_s, not_true_eq_false, not_false_eq_true, true_implies, false_implies, kl_i, kl_n, kl_l, kl_r, Option.toList, List.cons_append, List.nil_append, if_true, if_false, u2s, lt00, lt01, lt02, lt03, le10, le20, le30, ne10, ne20, ne30, eq00]
    exact h9
  | false =>
    have e8 : bI false = 0 := rfl
    rw [e8] at h9 ⊢
    simp only [e_X6_carryOut_130 isB0, e_X6_carryOut_130 isB1, e_X6_carryOut_130 isB_ite, true_and, and_true, rf_s, not_true_eq_false, not_false_eq_true, true_implies, false_implies, kl_i, kl_n, kl_l, kl_r, Option.toList, List.cons_append, List.nil_append, if_true, if_false, u2s, lt00, lt01, lt02, lt03, le10, le20, le30, ne10, ne20, ne30, eq00]
    exact h9
end KTD

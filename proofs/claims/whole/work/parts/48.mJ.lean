/-! the model's items, one behind the other, and addRules -/
theorem notc {c : Nat → Int32} {n s : Nat} {x y : Int32} (h : c s = x) (hne : ¬ x = y) : ¬ (s < n ∧ c s = y) := fun z => hne (h.symm.trans z.2)
theorem ItsF_ok {c : Nat → Int32} {n : Nat} : ∀ (f s : Nat) (l : List ItT) (s' : Nat), s ≤ n → ItsF c n f s = (some l, s') → (∀ i ∈ l, ItW i) ∧ s + l.length ≤ n
  | 0, s, l, s', h, e => by rw [ItsF] at e; cases e
  | f + 1, s, l, s', h, e => by
    rw [ItsF] at e
    split at e
    · cases e
    · next i s1 e1 =>
      obtain ⟨h1, h2, h3⟩ := ItF_ok e1
      split at e
      · next hy =>
        split at e
        · cases e
        · next l2 s2 e2 =>
          cases e
          obtain ⟨q1, q2⟩ := ItsF_ok f (s1 + 1) l2 s' (by omega) e2
          refine ⟨fun x hx => ?_, by rw [List.length_cons]; omega⟩
          rcases List.mem_cons.mp hx with rfl | hx
          · exact h1
          · exact q1 x hx
      · split at e
        · cases e
        · cases e
          refine ⟨fun x hx => ?_, by simp; omega⟩
          rcases List.mem_cons.mp hx with rfl | hx
          · exact h1
          · cases hx
section MTJ
variable {S N : Nat → Nat} {d : Nat} {I : IM} {J : JM} {P : PM} {Q : Option Value → IM → JM → PM → Prop} {m : Nat} {c : Nat → Int32} {n s : Nat} {o : Bool} {t : Nat → Int32}
theorem s_item (hm : MdS S N P m) (ht : TS m I c n s o t) (h2 : Cn2 t)
    (hN : ∀ s', ItF c n s = (none, s') → ∀ I' o' t', TS m I' c n s' o' t' → Pf m I I' → Q (some (.int 0)) I' J P)
    (hS : ∀ i s', ItF c n s = (some i, s') → ∀ I', TS m I' c n s' (o || ItO i.1 i.2.1 t) (ItG i.1 i.2.1 i.2.2 t) → Pf m I I' → Q (some (.int 1)) I' J P) :
    CWp S N (d + 4) MX9_item [.ref m] I J P Q := by
  rw [c_X9_item]
  have hm0 := hm
  unfold MdS at hm
  obtain ⟨⟨nc, hnc, h18⟩, nk, hnk, h27⟩ := h2
  have c18 : (t 18).toNatClampNeg = nc := by rw [h18]; exact nI_clamp (by omega)
  have c27 : (t 27).toNatClampNeg = nk := by rw [h27]; exact nI_clamp (by omega)
  unfold ItF at hN hS
  simp only [e_X9_item_0, e_X9_item_1, e_X9_item_3, hm, true_and, and_true, rf_s, not_true_eq_false, not_false_eq_true, true_implies, false_implies, kl_i, kl_n, kl_l, kl_r, Option.toList, List.cons_append, List.nil_append, if_true, if_false, u2s, lt00, lt01, lt02, lt03, le10, le20, le30, ne10, ne20, ne30, eq00]
  by_cases hs : s < n
  · simp only [if_pos hs] at hN hS
    by_cases hb : c s = 98
    · simp only [if_pos hb] at hN hS
      refine s_skipY hm0 ht ⟨hs, hb⟩ (fun I1 ht1 hf1 => ?_)
      simp only [e_X9_item_6, e_X9_item_9, e_X9_item_10, ne10, hm, true_and, and_true, rf_s, not_true_eq_false, not_false_eq_true, true_implies, false_implies, kl_i, kl_n, kl_l, kl_r, Option.toList, List.cons_append, List.nil_append, if_true, if_false, u2s, lt00, lt01, lt02, lt03, le10, le20, le30, ne10, ne20, ne30, eq00]
      refine s_brackets hm0 ht1 (fun s' e I' o' t' a1 a2 => ?_) (fun l s' e I' a1 a2 => ?_)
      · simp only [e_X9_item_13 isB0, e_X9_item_13 isB1, e_X9_item_13 isB_ite, true_and, and_true, rf_s, not_true_eq_false, not_false_eq_true, true_implies, false_implies, kl_i, kl_n, kl_l, kl_r, Option.toList, List.cons_append, List.nil_append, if_true, if_false, u2s, lt00, lt01, lt02, lt03, le10, le20, le30, ne10, ne20, ne30, eq00]
        rw [e] at hN
        exact hN s' rfl I' o' t' a1 (hf1.tr a2)
      · simp only [e_X9_item_13 isB0, e_X9_item_13 isB1, e_X9_item_13 isB_ite, true_and, and_true, rf_s, not_true_eq_false, not_false_eq_true, true_implies, false_implies, kl_i, kl_n, kl_l, kl_r, Option.toList, List.cons_append, List.nil_append, if_true, if_false, u2s, lt00, lt01, lt02, lt03, le10, le20, le30, ne10, ne20, ne30, eq00]
        rw [e] at hS
        exact hS _ s' rfl I' a1 (hf1.tr a2)
    · simp only [if_neg hb] at hN hS
      rw [s_skipN hm0 ht (by decide) (fun z => hb z.2)]
      simp only [e_X9_item_6, e_X9_item_14, e_X9_item_15, e_X9_item_17, hm, true_and, and_true, rf_s, not_true_eq_false, not_false_eq_true, true_implies, false_implies, kl_i, kl_n, kl_l, kl_r, Option.toList, List.cons_append, List.nil_append, if_true, if_false, u2s, lt00, lt01, lt02, lt03, le10, le20, le30, ne10, ne20, ne30, eq00]
      by_cases ha : c s = 97
      · simp only [if_pos ha] at hN hS
        refine s_skipY hm0 ht ⟨hs, ha⟩ (fun I1 ht1 hf1 => ?_)
        simp only [e_X9_item_20, e_X9_item_23, e_X9_item_24, e_X9_item_26, e_X9_item_27, e_X9_item_28, ne10, hm, true_and, and_true, rf_s, not_true_eq_false, not_false_eq_true, true_implies, false_implies, kl_i, kl_n, kl_l, kl_r, Option.toList, List.cons_append, List.nil_append, if_true, if_false, u2s, lt00, lt01, lt02, lt03, le10, le20, le30, ne10, ne20, ne30, eq00]
        refine s_numbers (d := d + 1) (w := true) (a := 13) (many := 3) (rates := 4) hm0 rfl (fun _ => by decide) (by decide) ht1 (fun s' e I' o' t' a1 a2 => ?_) (fun l s' e I' a1 a2 => ?_)
        · simp only [e_X9_item_31 isB0, e_X9_item_31 isB1, e_X9_item_31 isB_ite, true_and, and_true, rf_s, not_true_eq_false, not_false_eq_true, true_implies, false_implies, kl_i, kl_n, kl_l, kl_r, Option.toList, List.cons_append, List.nil_append, if_true, if_false, u2s, lt00, lt01, lt02, lt03, le10, le20, le30, ne10, ne20, ne30, eq00]
          rw [e] at hN
          exact hN s' rfl I' o' t' a1 (hf1.tr a2)
        · simp only [e_X9_item_31 isB0, e_X9_item_31 isB1, e_X9_item_31 isB_ite, true_and, and_true, rf_s, not_true_eq_false, not_false_eq_true, true_implies, false_implies, kl_i, kl_n, kl_l, kl_r, Option.toList, List.cons_append, List.nil_append, if_true, if_false, u2s, lt00, lt01, lt02, lt03, le10, le20, le30, ne10, ne20, ne30, eq00]
          rw [e] at hS
          exact hS _ s' rfl I' a1 (hf1.tr a2)
      · simp only [if_neg ha] at hN hS
        rw [s_skipN hm0 ht (by decide) (fun z => ha z.2)]
        simp only [e_X9_item_20, e_X9_item_32, e_X9_item_33, e_X9_item_35, hm, true_and, and_true, rf_s, not_true_eq_false, not_false_eq_true, true_implies, false_implies, kl_i, kl_n, kl_l, kl_r, Option.toList, List.cons_append, List.nil_append, if_true, if_false, u2s, lt00, lt01, lt02, lt03, le10, le20, le30, ne10, ne20, ne30, eq00]
        by_cases hmm : c s = 109
        · simp only [if_pos hmm] at hN hS
          refine s_skipY hm0 ht ⟨hs, hmm⟩ (fun I1 ht1 hf1 => ?_)
          simp only [e_X9_item_38, e_X9_item_41, e_X9_item_42, e_X9_item_44, e_X9_item_45, e_X9_item_46, ne10, hm, true_and, and_true, rf_s, not_true_eq_false, not_false_eq_true, true_implies, false_implies, kl_i, kl_n, kl_l, kl_r, Option.toList, List.cons_append, List.nil_append, if_true, if_false, u2s, lt00, lt01, lt02, lt03, le10, le20, le30, ne10, ne20, ne30, eq00]
          refine s_numbers (d := d + 1) (w := true) (a := 16) (many := 2) (rates := 2) hm0 rfl (fun _ => by decide) (by decide) ht1 (fun s' e I' o' t' a1 a2 => ?_) (fun l s' e I' a1 a2 => ?_)
          · simp only [e_X9_item_49 isB0, e_X9_item_49 isB1, e_X9_item_49 isB_ite, true_and, and_true, rf_s, not_true_eq_false, not_false_eq_true, true_implies, false_implies, kl_i, kl_n, kl_l, kl_r, Option.toList, List.cons_append, List.nil_append, if_true, if_false, u2s, lt00, lt01, lt02, lt03, le10, le20, le30, ne10, ne20, ne30, eq00]
            rw [e] at hN
            exact hN s' rfl I' o' t' a1 (hf1.tr a2)
          · simp only [e_X9_item_49 isB0, e_X9_item_49 isB1, e_X9_item_49 isB_ite, true_and, and_true, rf_s, not_true_eq_false, not_false_eq_true, true_implies, false_implies, kl_i, kl_n, kl_l, kl_r, Option.toList, List.cons_append, List.nil_append, if_true, if_false, u2s, lt00, lt01, lt02, lt03, le10, le20, le30, ne10, ne20, ne30, eq00]
            rw [e] at hS
            exact hS _ s' rfl I' a1 (hf1.tr a2)
        · simp only [if_neg hmm] at hN hS
          rw [s_skipN hm0 ht (by decide) (fun z => hmm z.2)]
          simp only [e_X9_item_38, e_X9_item_50, e_X9_item_51, e_X9_item_53, hm, true_and, and_true, rf_s, not_true_eq_false, not_false_eq_true, true_implies, false_implies, kl_i, kl_n, kl_l, kl_r, Option.toList, List.cons_append, List.nil_append, if_true, if_false, u2s, lt00, lt01, lt02, lt03, le10, le20, le30, ne10, ne20, ne30, eq00]
          by_cases hcc : c s = 99
          · simp only [if_pos hcc] at hN hS
            refine s_skipY hm0 ht ⟨hs, hcc⟩ (fun I1 ht1 hf1 => ?_)
            simp only [e_X9_item_56, e_X9_item_59, e_X9_item_60, ne10, hm, true_and, and_true, rf_s, not_true_eq_false, not_false_eq_true, true_implies, false_implies, kl_i, kl_n, kl_l, kl_r, Option.toList, List.cons_append, List.nil_append, if_true, if_false, u2s, lt00, lt01, lt02, lt03, le10, le20, le30, ne10, ne20, ne30, eq00]
            refine s_charge hm0 ht1 hnc h18 (fun s' e I' o' t' a1 a2 => ?_) (fun l s' e I' a1 a2 => ?_)
            · simp only [e_X9_item_63 isB0, e_X9_item_63 isB1, e_X9_item_63 isB_ite, true_and, and_true, rf_s, not_true_eq_false, not_false_eq_true, true_implies, false_implies, kl_i, kl_n, kl_l, kl_r, Option.toList, List.cons_append, List.nil_append, if_true, if_false, u2s, lt00, lt01, lt02, lt03, le10, le20, le30, ne10, ne20, ne30, eq00]
              rw [e] at hN
              exact hN s' rfl I' o' t' a1 (hf1.tr a2)
            · simp only [e_X9_item_63 isB0, e_X9_item_63 isB1, e_X9_item_63 isB_ite, true_and, and_true, rf_s, not_true_eq_false, not_false_eq_true, true_implies, false_implies, kl_i, kl_n, kl_l, kl_r, Option.toList, List.cons_append, List.nil_append, if_true, if_false, u2s, lt00, lt01, lt02, lt03, le10, le20, le30, ne10, ne20, ne30, eq00]
              rw [e] at hS
              refine hS _ s' rfl I' ?_ (hf1.tr a2)
              unfold ItO ItG
              dsimp only
              rw [if_neg (by decide), if_neg (by decide), if_neg (by decide), if_pos rfl, if_neg (by decide), if_neg (by decide), if_neg (by decide), if_pos rfl, c18]
              exact a1
          · simp only [if_neg hcc] at hN hS
            rw [s_skipN hm0 ht (by decide) (fun z => hcc z.2)]
            have cred : ∀ (kd : Nat), kd < 3 → KdF (c s) = kd → (c s = 110 ∨ c s = 114 ∨ c s = 107) → Wp S N (d + 4) MX9_item 104 [some (.ref m), none] [.int (nI kd)] I J P Q := by
              intro kd hkd hkF hor
              simp only [if_pos hor] at hN hS
              have g1 : ¬ nI kd < 0 := nI_pos (by omega)
              have g2 : (0 : Int32) ≤ nI kd := nI_pos' (by omega)
              have h3 := ht.2.2.1
              simp only [e_X9_item_104, e_X9_item_105, e_X9_item_106, e_X9_item_109, e_X9_item_110 isB0, e_X9_item_110 isB1, e_X9_item_110 isB_ite, e_X9_item_111, e_X9_item_112, e_X9_item_113, e_X9_item_116, e_X9_item_117, e_X9_item_118, e_X9_item_121, e_X9_item_122, e_X9_item_123, hm, g1, g2, h3, nI_1, true_and, and_true, rf_s, not_true_eq_false, not_false_eq_true, true_implies, false_implies, kl_i, kl_n, kl_l, kl_r, Option.toList, List.cons_append, List.nil_append, if_true, if_false, u2s, lt00, lt01, lt02, lt03, le10, le20, le30, ne10, ne20, ne30, eq00]
              refine s_creditC hm0 (ht.s (s' := s + 1) (by omega)) hnk h27 (fun s' e I' o' t' a1 a2 => ?_) (fun l s' e I' ee s2 hse a1 a2 => ?_)
              · simp only [e_X9_item_126 isB0, e_X9_item_126 isB1, e_X9_item_126 isB_ite, true_and, and_true, rf_s, not_true_eq_false, not_false_eq_true, true_implies, false_implies, kl_i, kl_n, kl_l, kl_r, Option.toList, List.cons_append, List.nil_append, if_true, if_false, u2s, lt00, lt01, lt02, lt03, le10, le20, le30, ne10, ne20, ne30, eq00]
                rw [e] at hN
                exact hN s' rfl I' o' t' a1 ((Pf.u _ (Or.inl rfl)).tr a2)
              · simp only [e_X9_item_126 isB0, e_X9_item_126 isB1, e_X9_item_126 isB_ite, true_and, and_true, rf_s, not_true_eq_false, not_false_eq_true, true_implies, false_implies, kl_i, kl_n, kl_l, kl_r, Option.toList, List.cons_append, List.nil_append, if_true, if_false, u2s, lt00, lt01, lt02, lt03, le10, le20, le30, ne10, ne20, ne30, eq00]
                rw [e] at hS
                dsimp only at hS
                rcases hse with ⟨b1, b2, rfl, rfl⟩ | ⟨b1, rfl, rfl⟩
                · rw [if_pos ⟨b1, b2⟩] at hS
                  refine hS _ _ rfl I' ?_ ((Pf.u _ (Or.inl rfl)).tr a2)
                  unfold ItO ItG
                  dsimp only
                  rw [if_neg (by omega), if_neg (by omega), if_neg (by omega), if_neg (by omega), if_neg (by omega), if_neg (by omega), if_neg (by omega), if_neg (by omega), c27, hkF, Nat.add_sub_cancel_left]
                  exact a1
                · rw [if_neg b1] at hS
                  refine hS _ _ rfl I' ?_ ((Pf.u _ (Or.inl rfl)).tr a2)
                  unfold ItO ItG
                  dsimp only
                  rw [if_neg (by omega), if_neg (by omega), if_neg (by omega), if_neg (by omega), if_neg (by omega), if_neg (by omega), if_neg (by omega), if_neg (by omega), c27, hkF, Nat.add_sub_cancel_left]
                  exact a1
            have k0 : nI 0 = (0 : Int32) := rfl
            have k1 : nI 1 = (1 : Int32) := rfl
            have k2 : nI 2 = (2 : Int32) := rfl
            by_cases hn1 : c s = 110
            · have hn1' := eq_true hn1
              simp only [e_X9_item_56, e_X9_item_64, e_X9_item_65, e_X9_item_68, e_X9_item_70, e_X9_item_73, e_X9_item_74, hm, s_hereT hm0 ht, if_pos hs, hn1', true_and, and_true, rf_s, not_true_eq_false, not_false_eq_true, true_implies, false_implies, kl_i, kl_n, kl_l, kl_r, Option.toList, List.cons_append, List.nil_append, if_true, if_false, u2s, lt00, lt01, lt02, lt03, le10, le20, le30, ne10, ne20, ne30, eq00]
              have := cred 0 (by decide) (by unfold KdF; rw [if_pos hn1]) (Or.inl hn1)
              rw [k0] at this
              exact this
            · have hn1' := eq_false hn1
              by_cases hr1 : c s = 114
              · have hr1' := eq_true hr1
                have hn2' : ((114 : Int32) = 110) = False := by decide
                simp only [e_X9_item_56, e_X9_item_64, e_X9_item_65, e_X9_item_68, e_X9_item_70, e_X9_item_73, e_X9_item_74, e_X9_item_77, e_X9_item_78, e_X9_item_81, e_X9_item_83, e_X9_item_86, e_X9_item_87, hm, s_hereT hm0 ht, if_pos hs, hn1', hr1', hn2', hr1, true_and, and_true, rf_s, not_true_eq_false, not_false_eq_true, true_implies, false_implies, kl_i, kl_n, kl_l, kl_r, Option.toList, List.cons_append, List.nil_append, if_true, if_false, u2s, lt00, lt01, lt02, lt03, le10, le20, le30, ne10, ne20, ne30, eq00]
                have := cred 1 (by decide) (by unfold KdF; rw [if_neg hn1, if_pos hr1]) (Or.inr (Or.inl hr1))
                rw [k1] at this
                exact this
              · have hr1' := eq_false hr1
                by_cases hk1 : c s = 107
                · have hk1' := eq_true hk1
                  simp only [e_X9_item_56, e_X9_item_64, e_X9_item_65, e_X9_item_68, e_X9_item_70, e_X9_item_73, e_X9_item_74, e_X9_item_77, e_X9_item_78, e_X9_item_81, e_X9_item_83, e_X9_item_86, e_X9_item_87, e_X9_item_90, e_X9_item_91, e_X9_item_94, e_X9_item_96, e_X9_item_99, e_X9_item_100, hm, s_hereT hm0 ht, if_pos hs, hn1', hr1', hk1', true_and, and_true, rf_s, not_true_eq_false, not_false_eq_true, true_implies, false_implies, kl_i, kl_n, kl_l, kl_r, Option.toList, List.cons_append, List.nil_append, if_true, if_false, u2s, lt00, lt01, lt02, lt03, le10, le20, le30, ne10, ne20, ne30, eq00]
                  have := cred 2 (by decide) (by unfold KdF; rw [if_neg hn1, if_neg hr1]) (Or.inr (Or.inr hk1))
                  rw [k2] at this
                  exact this
                · have hk1' := eq_false hk1
                  have g1 : ((0 : Int32) ≤ -1) = False := by decide
                  rw [if_neg (fun z => by rcases z with z | z | z; exact hn1 z; exact hr1 z; exact hk1 z)] at hN
                  simp only [e_X9_item_56, e_X9_item_64, e_X9_item_65, e_X9_item_68, e_X9_item_70, e_X9_item_73, e_X9_item_74, e_X9_item_77, e_X9_item_78, e_X9_item_81, e_X9_item_83, e_X9_item_86, e_X9_item_87, e_X9_item_90, e_X9_item_91, e_X9_item_94, e_X9_item_96, e_X9_item_99, e_X9_item_100, e_X9_item_103, e_X9_item_104, e_X9_item_105, e_X9_item_106, e_X9_item_109, e_X9_item_110 isB0, e_X9_item_110 isB1, e_X9_item_110 isB_ite, hm, s_hereT hm0 ht, if_pos hs, hn1', hr1', hk1', g1, true_and, and_true, rf_s, not_true_eq_false, not_false_eq_true, true_implies, false_implies, kl_i, kl_n, kl_l, kl_r, Option.toList, List.cons_append, List.nil_append, if_true, if_false, u2s, lt00, lt01, lt02, lt03, le10, le20, le30, ne10, ne20, ne30, eq00]
                  exact hN s rfl I o t ht Pf.rf
  · simp only [if_neg hs] at hN hS
    have g1 : ((0 : Int32) ≤ -1) = False := by decide
    have g2 : ((-1 : Int32) = 110) = False := by decide
    have g3 : ((-1 : Int32) = 114) = False := by decide
    have g4 : ((-1 : Int32) = 107) = False := by decide
    rw [s_skipN hm0 ht (by decide) (fun z => hs z.1)]
    simp only [e_X9_item_6, e_X9_item_14, e_X9_item_15, e_X9_item_17, hm, true_and, and_true, rf_s, not_true_eq_false, not_false_eq_true, true_implies, false_implies, kl_i, kl_n, kl_l, kl_r, Option.toList, List.cons_append, List.nil_append, if_true, if_false, u2s, lt00, lt01, lt02, lt03, le10, le20, le30, ne10, ne20, ne30, eq00]
    rw [s_skipN hm0 ht (by decide) (fun z => hs z.1)]
    simp only [e_X9_item_20, e_X9_item_32, e_X9_item_33, e_X9_item_35, hm, true_and, and_true, rf_s, not_true_eq_false, not_false_eq_true, true_implies, false_implies, kl_i, kl_n, kl_l, kl_r, Option.toList, List.cons_append, List.nil_append, if_true, if_false, u2s, lt00, lt01, lt02, lt03, le10, le20, le30, ne10, ne20, ne30, eq00]
    rw [s_skipN hm0 ht (by decide) (fun z => hs z.1)]
    simp only [e_X9_item_38, e_X9_item_50, e_X9_item_51, e_X9_item_53, hm, true_and, and_true, rf_s, not_true_eq_false, not_false_eq_true, true_implies, false_implies, kl_i, kl_n, kl_l, kl_r, Option.toList, List.cons_append, List.nil_append, if_true, if_false, u2s, lt00, lt01, lt02, lt03, le10, le20, le30, ne10, ne20, ne30, eq00]
    rw [s_skipN hm0 ht (by decide) (fun z => hs z.1)]
    simp only [e_X9_item_56, e_X9_item_64, e_X9_item_65, e_X9_item_68, e_X9_item_70, e_X9_item_73, e_X9_item_74, e_X9_item_77, e_X9_item_78, e_X9_item_81, e_X9_item_83, e_X9_item_86, e_X9_item_87, e_X9_item_90, e_X9_item_91, e_X9_item_94, e_X9_item_96, e_X9_item_99, e_X9_item_100, e_X9_item_103, e_X9_item_104, e_X9_item_105, e_X9_item_106, e_X9_item_109, e_X9_item_110 isB0, e_X9_item_110 isB1, e_X9_item_110 isB_ite, hm, s_hereT hm0 ht, if_neg hs, g1, g2, g3, g4, true_and, and_true, rf_s, not_true_eq_false, not_false_eq_true, true_implies, false_implies, kl_i, kl_n, kl_l, kl_r, Option.toList, List.cons_append, List.nil_append, if_true, if_false, u2s, lt00, lt01, lt02, lt03, le10, le20, le30, ne10, ne20, ne30, eq00]
    exact hN s rfl I o t ht Pf.rf
theorem it_loop (hm : MdS S N P m) : ∀ (f cnt : Nat) (I : IM) (s : Nat) (o : Bool) (t : Nat → Int32) (x2 : Option Value), TS m I c n s o t → Cn2 t → n < s + f →
    (∀ s', ItsF c n f s = (none, s') → ∀ I' o' t', TS m I' c n s' o' t' → Pf m I I' → Q (some (.int (-1))) I' J P) →
    (∀ l s', ItsF c n f s = (some l, s') → ∀ I', TS m I' c n s' (o || ItsO l t) (ItsG l t) → Pf m I I' → Q (some (.int (nI (cnt + l.length)))) I' J P) →
    Wp S N (d + 5) MX9_items 38 [some (.ref m), some (.int (nI cnt)), x2] [] I J P Q := by
  have hm0 := hm
  unfold MdS at hm
  intro f
  induction f with
  | zero =>
    intro cnt I s o t x2 ht h2 hf hN hS
    have := ht.2.2.2.2.2.1
    omega
  | succ f ih =>
    intro cnt I s o t x2 ht h2 hf hN hS
    rw [ItsF] at hN hS
    rw [e_X9_items_38]
    simp only [e_X9_items_39, hm, true_and, and_true, rf_s, not_true_eq_false, not_false_eq_true, true_implies, false_implies, kl_i, kl_n, kl_l, kl_r, Option.toList, List.cons_append, List.nil_append, if_true, if_false, u2s, lt00, lt01, lt02, lt03, le10, le20, le30, ne10, ne20, ne30, eq00]
    refine s_item hm0 ht h2 (fun s' e I' o' t' a1 a2 => ?_) (fun i s1 e I1 a1 a2 => ?_)
    · rw [e] at hN
      simp only [e_X9_items_42, e_X9_items_45, e_X9_items_46, true_and, and_true, rf_s, not_true_eq_false, not_false_eq_true, true_implies, false_implies, kl_i, kl_n, kl_l, kl_r, Option.toList, List.cons_append, List.nil_append, if_true, if_false, u2s, lt00, lt01, lt02, lt03, le10, le20, le30, ne10, ne20, ne30, eq00]
      exact hN s' rfl I' o' t' a1 a2
    · obtain ⟨q1, q2, q3⟩ := ItF_ok e
      rw [e] at hN hS
      dsimp only at hN hS
      simp only [e_X9_items_42, e_X9_items_47, e_X9_items_50, e_X9_items_51, e_X9_items_53, ne10, hm, nI_1, true_and, and_true, rf_s, not_true_eq_false, not_false_eq_true, true_implies, false_implies, kl_i, kl_n, kl_l, kl_r, Option.toList, List.cons_append, List.nil_append, if_true, if_false, u2s, lt00, lt01, lt02, lt03, le10, le20, le30, ne10, ne20, ne30, eq00]
      by_cases hy : s1 < n ∧ c s1 = 59
      · rw [if_pos hy] at hN hS
        refine s_skipY hm0 a1 hy (fun I2 b1 b2 => ?_)
        simp only [e_X9_items_56, ne10, true_and, and_true, rf_s, not_true_eq_false, not_false_eq_true, true_implies, false_implies, kl_i, kl_n, kl_l, kl_r, Option.toList, List.cons_append, List.nil_append, if_true, if_false, u2s, lt00, lt01, lt02, lt03, le10, le20, le30, ne10, ne20, ne30, eq00]
        refine ih (cnt + 1) I2 (s1 + 1) _ _ x2 b1 (h2.it q1) (by omega) (fun s' e2 I' o' t' c1 c2 => ?_) (fun l s' e2 I' c1 c2 => ?_)
        · rw [e2] at hN
          exact hN s' rfl I' o' t' c1 ((a2.tr b2).tr c2)
        · rw [e2] at hS
          have h9 := hS (i :: l) s' rfl I' (by rw [ItsO, ItsG, ← Bool.or_assoc]; exact c1) ((a2.tr b2).tr c2)
          rw [List.length_cons, show cnt + (l.length + 1) = cnt + 1 + l.length by omega] at h9
          exact h9
      · rw [if_neg hy] at hN hS
        rw [s_skipN hm0 a1 (by decide) hy]
        have h3 := a1.2.2.1
        have h10 := a1.2.1
        by_cases hlt : s1 < n
        · rw [if_pos hlt] at hN
          have g1 : ¬ nI n ≤ nI s1 := nI_ge hlt (by have := ht.2.2.2.2.2.2; omega)
          simp only [e_X9_items_56, e_X9_items_59, e_X9_items_60, e_X9_items_63, e_X9_items_64, e_X9_items_67, e_X9_items_70, e_X9_items_71, e_X9_items_74, e_X9_items_75, hm, h3, h10, g1, true_and, and_true, rf_s, not_true_eq_false, not_false_eq_true, true_implies, false_implies, kl_i, kl_n, kl_l, kl_r, Option.toList, List.cons_append, List.nil_append, if_true, if_false, u2s, lt00, lt01, lt02, lt03, le10, le20, le30, ne10, ne20, ne30, eq00]
          exact hN s1 rfl I1 _ _ a1 a2
        · rw [if_neg hlt] at hS
          have g1 : nI n ≤ nI s1 := nI_le (by omega) (by have := ht.2.2.2.2.2.2; omega)
          simp only [e_X9_items_56, e_X9_items_59, e_X9_items_60, e_X9_items_63, e_X9_items_64, e_X9_items_67, e_X9_items_70, e_X9_items_71, e_X9_items_74, e_X9_items_75, hm, h3, h10, g1, true_and, and_true, rf_s, not_true_eq_false, not_false_eq_true, true_implies, false_implies, kl_i, kl_n, kl_l, kl_r, Option.toList, List.cons_append, List.nil_append, if_true, if_false, u2s, lt00, lt01, lt02, lt03, le10, le20, le30, ne10, ne20, ne30, eq00]
          exact hS [i] s1 rfl I1 (by rw [ItsO, ItsO, ItsG, ItsG, Bool.or_false]; exact a1) a2
theorem it_l1 (hm : MdS S N P m)  : ∀ (n k : Nat), k + n = 89 → (Wp S N d MX9_items 14 [some (.ref m), some (.int 0), some (.int (nI k))] [] (cpR I (m + 8) (0) (m + 1) (0) k) J P Q ↔ Wp S N d MX9_items 38 [some (.ref m), some (.int 0), some (.int (nI 89))] [] (cpR I (m + 8) (0) (m + 1) (0) 89) J P Q) := by
  have hm0 := hm
  unfold MdS at hm
  intro n
  induction n with
  | zero =>
    intro k hk
    have hk : k = 89 := by omega
    subst hk
    have g1 : (89 : Int32) ≤ nI 89 := by decide
    simp only [e_X9_items_14, e_X9_items_15, e_X9_items_17, g1, true_and, and_true, rf_s, not_true_eq_false, not_false_eq_true, true_implies, false_implies, kl_i, kl_n, kl_l, kl_r, Option.toList, List.cons_append, List.nil_append, if_true, if_false, u2s, lt00, lt01, lt02, lt03, le10, le20, le30, ne10, ne20, ne30, eq00]
  | succ n ih =>
    intro k hk
    have g1 : ¬ (89 : Int32) ≤ nI k := nI_ge (a := k) (b := 89) (by omega) (by decide)
    have st : u2 (cpR I (m + 8) (0) (m + 1) (0) k) (m + 8) (k) (cpR I (m + 8) (0) (m + 1) (0) k (m + 1) (k)) = cpR I (m + 8) (0) (m + 1) (0) (k + 1) := by
      have h9 := cpR_step I (m + 8) (0) (m + 1) (0) k (Or.inl (by omega))
      simpa only [Nat.zero_add] using h9
    rw [e_X9_items_14]
    simp only [e_X9_items_15, e_X9_items_17, e_X9_items_20, e_X9_items_21, e_X9_items_24, e_X9_items_25, e_X9_items_26, e_X9_items_29, e_X9_items_30, e_X9_items_31, e_X9_items_32, e_X9_items_35, hm, g1, nI_1, nI_clamp (show k < 2 ^ 31 by omega), vp_in_nI (show k < 89 by omega) (show 89 < 2 ^ 31 by decide), st, true_and, and_true, rf_s, not_true_eq_false, not_false_eq_true, true_implies, false_implies, kl_i, kl_n, kl_l, kl_r, Option.toList, List.cons_append, List.nil_append, if_true, if_false, u2s, lt00, lt01, lt02, lt03, le10, le20, le30, ne10, ne20, ne30, eq00]
    exact ih (k + 1) (by omega)

/-- 'tried' at a reading's start -/
def T0 (I : IM) (m : Nat) : Nat → Int32 := cpR I (m + 8) 0 (m + 1) 0 89 (m + 8)
theorem T0_lt {I : IM} {m k : Nat} (h : k < 89) : T0 I m k = I (m + 1) k := by
  have h4 := cpR_in I (m + 8) (x := 0) (m + 1) 0 (i := 89) (k := k) h
  simp only [Nat.zero_add] at h4
  exact h4
theorem s_items (hm : MdS S N P m) (h7 : I (m + 7) = c) (h10 : I m 10 = nI n) (hn : n ≤ 80) (h2 : Cn2 (I (m + 1)))
    (hN : ∀ s', ItsF c n 81 0 = (none, s') → ∀ I' o' t', TS m I' c n s' o' t' → Pf m I I' → Q (some (.int (-1))) I' J P)
    (hS : ∀ l s', ItsF c n 81 0 = (some l, s') → ∀ I', TS m I' c n s' (ItsO l (T0 I m)) (ItsG l (T0 I m)) → Pf m I I' → Q (some (.int (nI l.length))) I' J P) :
    CWp S N (d + 5) MX9_items [.ref m] I J P Q := by
  rw [c_X9_items]
  have hm0 := hm
  unfold MdS at hm
  have e1 := it_l1 (S := S) (N := N) (d := d + 5) (I := u2 (u2 I m 11 0) m 14 0) (J := J) (P := P) (Q := Q) hm0 89 0 rfl
  rw [cpR_0] at e1
  simp only [e_X9_items_0, e_X9_items_1, e_X9_items_2, e_X9_items_3, e_X9_items_4, e_X9_items_7, e_X9_items_8, e_X9_items_9 isB0, e_X9_items_9 isB1, e_X9_items_9 isB_ite, e_X9_items_12, e_X9_items_13, hm, true_and, and_true, rf_s, not_true_eq_false, not_false_eq_true, true_implies, false_implies, kl_i, kl_n, kl_l, kl_r, Option.toList, List.cons_append, List.nil_append, if_true, if_false, u2s, lt00, lt01, lt02, lt03, le10, le20, le30, ne10, ne20, ne30, eq00]
  refine e1.mpr ?_
  have eT : cpR (u2 (u2 I m 11 0) m 14 0) (m + 8) 0 (m + 1) 0 89 (m + 8) = T0 I m := by
    funext k
    unfold T0 cpR
    rw [u2_off _ _ _ (show m + 8 ≠ m by omega), u2_off _ _ _ (show m + 8 ≠ m by omega), u2_off _ _ _ (show m + 1 ≠ m by omega), u2_off _ _ _ (show m + 1 ≠ m by omega)]
  have hf : Pf m I (cpR (u2 (u2 I m 11 0) m 14 0) (m + 8) 0 (m + 1) 0 89) := ⟨fun a a1 a2 => by rw [cpR_off _ _ _ _ _ a2, u2_off _ _ _ a1, u2_off _ _ _ a1], fun k k1 k2 k3 => by rw [cpR_off _ _ _ _ _ (by omega), u2k _ _ _ k3, u2k _ _ _ k1]⟩
  have ht : TS m (cpR (u2 (u2 I m 11 0) m 14 0) (m + 8) 0 (m + 1) 0 89) c n 0 false (T0 I m) := by
    refine ⟨?_, ?_, ?_, ?_, eT, Nat.zero_le _, hn⟩
    · rw [hf.1 _ (by omega) (by omega)]; exact h7
    · rw [hf.2 10 (by decide) (by decide) (by decide)]; exact h10
    · rw [cpR_off _ _ _ _ _ (by omega), u2k _ _ _ (by decide), u2s]; rfl
    · rw [cpR_off _ _ _ _ _ (by omega), u2s]; rfl
  have h2' : Cn2 (T0 I m) := by
    unfold Cn2
    rw [T0_lt (show 18 < 89 by decide), T0_lt (show 27 < 89 by decide)]
    exact h2
  refine it_loop hm0 81 0 _ 0 false _ _ ht h2' (by omega) (fun s' e I' o' t' a1 a2 => hN s' e I' o' t' a1 (hf.tr a2)) (fun l s' e I' a1 a2 => ?_)
  rw [Bool.false_or] at a1
  rw [Nat.zero_add]
  exact hS l s' e I' a1 (hf.tr a2)
theorem ar_l1 (hm : MdS S N P m) {rv : Int32} : ∀ (n k : Nat), k + n = 89 → (Wp S N d MX9_addRules 90 [some (.ref m), some (.int rv), some (.int (nI k))] [] (cpR I (m + 1) (0) (m + 8) (0) k) J P Q ↔ Wp S N d MX9_addRules 114 [some (.ref m), some (.int rv), some (.int (nI 89))] [] (cpR I (m + 1) (0) (m + 8) (0) 89) J P Q) := by
  have hm0 := hm
  unfold MdS at hm
  intro n
  induction n with
  | zero =>
    intro k hk
    have hk : k = 89 := by omega
    subst hk
    have g1 : (89 : Int32) ≤ nI 89 := by decide
    simp only [e_X9_addRules_90, e_X9_addRules_91, e_X9_addRules_93, g1, true_and, and_true, rf_s, not_true_eq_false, not_false_eq_true, true_implies, false_implies, kl_i, kl_n, kl_l, kl_r, Option.toList, List.cons_append, List.nil_append, if_true, if_false, u2s, lt00, lt01, lt02, lt03, le10, le20, le30, ne10, ne20, ne30, eq00]
  | succ n ih =>
    intro k hk
    have g1 : ¬ (89 : Int32) ≤ nI k := nI_ge (a := k) (b := 89) (by omega) (by decide)
    have st : u2 (cpR I (m + 1) (0) (m + 8) (0) k) (m + 1) (k) (cpR I (m + 1) (0) (m + 8) (0) k (m + 8) (k)) = cpR I (m + 1) (0) (m + 8) (0) (k + 1) := by
      have h9 := cpR_step I (m + 1) (0) (m + 8) (0) k (Or.inl (by omega))
      simpa only [Nat.zero_add] using h9
    rw [e_X9_addRules_90]
    simp only [e_X9_addRules_91, e_X9_addRules_93, e_X9_addRules_96, e_X9_addRules_97, e_X9_addRules_100, e_X9_addRules_101, e_X9_addRules_102, e_X9_addRules_105, e_X9_addRules_106, e_X9_addRules_107, e_X9_addRules_108, e_X9_addRules_111, hm, g1, nI_1, nI_clamp (show k < 2 ^ 31 by omega), vp_in_nI (show k < 89 by omega) (show 89 < 2 ^ 31 by decide), st, true_and, and_true, rf_s, not_true_eq_false, not_false_eq_true, true_implies, false_implies, kl_i, kl_n, kl_l, kl_r, Option.toList, List.cons_append, List.nil_append, if_true, if_false, u2s, lt00, lt01, lt02, lt03, le10, le20, le30, ne10, ne20, ne30, eq00]
    exact ih (k + 1) (by omega)

theorem fg_loop (hm : MdS S N P m) {rv : Int32} {nk' : Nat} (hk' : nk' ≤ 6) (h27 : I (m + 8) 27 = nI nk') : ∀ (r k : Nat), k + r = max k nk' → k ≤ 6 → ∀ (J : JM), (∀ J' k2, (∀ a, a ≠ m + 2 → J' a = J a) → (∀ p j, p < 6 → j < 6 → J' (m + 2) (6 * p + j) = if k ≤ j ∧ j < nk' then 0 else J (m + 2) (6 * p + j)) → Wp S N (d + 1) MX9_addRules 88 [some (.ref m), some (.int rv), some (.int k2)] [] I J' P Q) →
    Wp S N (d + 1) MX9_addRules 66 [some (.ref m), some (.int rv), some (.int (nI k))] [] I J P Q := by
  have hm0 := hm
  unfold MdS at hm
  intro r
  induction r with
  | zero =>
    intro k hk hk6 J hq
    have g1 : nI nk' ≤ nI k := nI_le (by omega) (by omega)
    simp only [e_X9_addRules_66, e_X9_addRules_67, e_X9_addRules_68, e_X9_addRules_71, e_X9_addRules_73, e_X9_addRules_74, hm, h27, g1, cl_27, vl89_27, true_and, and_true, rf_s, not_true_eq_false, not_false_eq_true, true_implies, false_implies, kl_i, kl_n, kl_l, kl_r, Option.toList, List.cons_append, List.nil_append, if_true, if_false, u2s, lt00, lt01, lt02, lt03, le10, le20, le30, ne10, ne20, ne30, eq00]
    exact hq J _ (fun _ _ => rfl) (fun p j _ _ => by rw [if_neg (by omega)])
  | succ r ih =>
    intro k hk hk6 J hq
    have hlt : k < nk' := by omega
    have g1 : ¬ nI nk' ≤ nI k := nI_ge hlt (by omega)
    simp only [e_X9_addRules_66, e_X9_addRules_67, e_X9_addRules_68, e_X9_addRules_71, e_X9_addRules_73, e_X9_addRules_74, e_X9_addRules_77, e_X9_addRules_78, e_X9_addRules_79, hm, h27, g1, cl_27, vl89_27, true_and, and_true, rf_s, not_true_eq_false, not_false_eq_true, true_implies, false_implies, kl_i, kl_n, kl_l, kl_r, Option.toList, List.cons_append, List.nil_append, if_true, if_false, u2s, lt00, lt01, lt02, lt03, le10, le20, le30, ne10, ne20, ne30, eq00]
    refine s_forgets hm0 (by omega) (fun J1 a1 a2 => ?_)
    simp only [e_X9_addRules_82, e_X9_addRules_85, nI_1, true_and, and_true, rf_s, not_true_eq_false, not_false_eq_true, true_implies, false_implies, kl_i, kl_n, kl_l, kl_r, Option.toList, List.cons_append, List.nil_append, if_true, if_false, u2s, lt00, lt01, lt02, lt03, le10, le20, le30, ne10, ne20, ne30, eq00]
    refine ih (k + 1) (by omega) (by omega) J1 (fun J' k2 b1 b2 => hq J' k2 (fun a ha => (b1 a ha).trans (a1 a ha)) (fun p j hp hj => ?_))
    rw [b2 p j hp hj, a2 p j hp hj]
    by_cases hjk : j = k
    · subst hjk
      rw [if_neg (by omega), if_pos rfl, if_pos ⟨Nat.le_refl _, hlt⟩]
    · rw [if_neg hjk]
      by_cases hc : k ≤ j ∧ j < nk'
      · rw [if_pos hc, if_pos ⟨by omega, hc.2⟩]
      · rw [if_neg hc, if_neg (by omega)]
theorem s_addRules_fault (hm : MdS S N P m) (h7 : I (m + 7) = c) (h10 : I m 10 = nI n) (hn : n ≤ 80) (h2 : Cn2 (I (m + 1))) {s' : Nat} (he : ItsF c n 81 0 = (none, s'))
    (hq : ∀ I', (∀ a, a ≠ m → a ≠ m + 8 → I' a = I a) → (∀ k, k ≠ 8 → k ≠ 10 → k ≠ 11 → k ≠ 12 → k ≠ 13 → k ≠ 14 → I' m k = I m k) → I' m 8 = 1 → I' m 10 = 0 → I' m 13 = nI s' → Q (some (.int 0)) I' J P) : CWp S N (d + 6) MX9_addRules [.ref m] I J P Q := by
  rw [c_X9_addRules]
  have hm0 := hm
  unfold MdS at hm
  simp only [e_X9_addRules_0, e_X9_addRules_1, e_X9_addRules_2, e_X9_addRules_5, e_X9_addRules_6, hm, true_and, and_true, rf_s, not_true_eq_false, not_false_eq_true, true_implies, false_implies, kl_i, kl_n, kl_l, kl_r, Option.toList, List.cons_append, List.nil_append, if_true, if_false, u2s, lt00, lt01, lt02, lt03, le10, le20, le30, ne10, ne20, ne30, eq00]
  refine s_items (c := c) hm0 (by rw [u2_off _ _ _ (by omega)]; exact h7) (by rw [u2k _ _ _ (by decide)]; exact h10) hn (by rw [u2_off _ _ _ (by omega)]; exact h2) (fun s2 e I1 o' t' a1 a2 => ?_) (fun l s2 e I1 a1 a2 => ?_)
  · rw [he] at e
    cases e
    have h3 := a1.2.2.1
    have h3' : (u2 I1 m 10 0) m 11 = nI s' := by rw [u2k _ _ _ (by decide)]; exact h3
    have g1 : ((0 : Int32) ≤ -1) = False := by decide
    have g2 : ((-1 : Int32) < 0) = True := by decide
    simp only [e_X9_addRules_9, e_X9_addRules_10, e_X9_addRules_11, e_X9_addRules_12, e_X9_addRules_15, e_X9_addRules_16, e_X9_addRules_17, e_X9_addRules_20, e_X9_addRules_21, e_X9_addRules_24, e_X9_addRules_27, e_X9_addRules_28, e_X9_addRules_31, e_X9_addRules_32, e_X9_addRules_35, e_X9_addRules_36, e_X9_addRules_37, e_X9_addRules_40, hm, h3', g1, s_fails hm0, true_and, and_true, rf_s, not_true_eq_false, not_false_eq_true, true_implies, false_implies, kl_i, kl_n, kl_l, kl_r, Option.toList, List.cons_append, List.nil_append, if_true, if_false, u2s, lt00, lt01, lt02, lt03, le10, le20, le30, ne10, ne20, ne30, eq00]
    refine hq _ (fun a c1 c2 => ?_) (fun k k1 k2 k3 k4 k5 k6 => ?_) (u2s _ _ _ _) ?_ ?_
    · rw [u2_off _ _ _ c1, u2_off _ _ _ c1, u2_off _ _ _ c1, a2.1 a c1 c2, u2_off _ _ _ c1]
    · rw [u2k _ _ _ k1, u2k _ _ _ k5, u2k _ _ _ k2, a2.2 k k3 k4 k6, u2k _ _ _ k1]
    · rw [u2k _ _ _ (by decide), u2k _ _ _ (by decide), u2s]
    · rw [u2k _ _ _ (by decide), u2s]
  · rw [he] at e
    cases e
theorem s_addRules_odd (hm : MdS S N P m) (h7 : I (m + 7) = c) (h10 : I m 10 = nI n) (hn : n ≤ 80) (h2 : Cn2 (I (m + 1))) {l : List ItT} {s' : Nat} (he : ItsF c n 81 0 = (some l, s')) (ho : ItsO l (T0 I m) = true)
    (hq : ∀ I', (∀ a, a ≠ m → a ≠ m + 8 → I' a = I a) → (∀ k, k ≠ 8 → k ≠ 10 → k ≠ 11 → k ≠ 12 → k ≠ 13 → k ≠ 14 → I' m k = I m k) → I' m 8 = 2 → I' m 10 = 0 → I' m 13 = -1 → Q (some (.int 0)) I' J P) : CWp S N (d + 6) MX9_addRules [.ref m] I J P Q := by
  rw [c_X9_addRules]
  have hm0 := hm
  unfold MdS at hm
  simp only [e_X9_addRules_0, e_X9_addRules_1, e_X9_addRules_2, e_X9_addRules_5, e_X9_addRules_6, hm, true_and, and_true, rf_s, not_true_eq_false, not_false_eq_true, true_implies, false_implies, kl_i, kl_n, kl_l, kl_r, Option.toList, List.cons_append, List.nil_append, if_true, if_false, u2s, lt00, lt01, lt02, lt03, le10, le20, le30, ne10, ne20, ne30, eq00]
  have eT : T0 (u2 I m 8 0) m = T0 I m := by
    funext k
    unfold T0 cpR
    rw [u2_off _ _ _ (show m + 8 ≠ m by omega), u2_off _ _ _ (show m + 1 ≠ m by omega)]
  refine s_items (c := c) hm0 (by rw [u2_off _ _ _ (by omega)]; exact h7) (by rw [u2k _ _ _ (by decide)]; exact h10) hn (by rw [u2_off _ _ _ (by omega)]; exact h2) (fun s2 e I1 o' t' a1 a2 => ?_) (fun l2 s2 e I1 a1 a2 => ?_)
  · rw [he] at e
    cases e
  · rw [he] at e
    cases e
    rw [eT, ho] at a1
    have h14 : I1 m 14 = 1 := a1.2.2.2.1
    have hlen := (ItsF_ok 81 0 l s' (Nat.zero_le _) he).2
    have g1 : ((0 : Int32) ≤ nI l.length) = True := eq_true (nI_pos' (by omega))
    have h14' : ∀ v w : Int32, (u2 (u2 I1 m 10 v) m 13 w) m 14 = 1 := fun v w => by rw [u2k _ _ _ (by decide), u2k _ _ _ (by decide)]; exact h14
    simp only [e_X9_addRules_9, e_X9_addRules_10, e_X9_addRules_11, e_X9_addRules_12, e_X9_addRules_15, e_X9_addRules_16, e_X9_addRules_17, e_X9_addRules_20, e_X9_addRules_21, e_X9_addRules_24, e_X9_addRules_27, e_X9_addRules_28, e_X9_addRules_31, e_X9_addRules_32, e_X9_addRules_35, e_X9_addRules_36, e_X9_addRules_37, e_X9_addRules_40, e_X9_addRules_41, e_X9_addRules_42, e_X9_addRules_45, e_X9_addRules_48, e_X9_addRules_49, e_X9_addRules_50, e_X9_addRules_53, hm, h14', g1, ne10, s_fails hm0, true_and, and_true, rf_s, not_true_eq_false, not_false_eq_true, true_implies, false_implies, kl_i, kl_n, kl_l, kl_r, Option.toList, List.cons_append, List.nil_append, if_true, if_false, u2s, lt00, lt01, lt02, lt03, le10, le20, le30, ne10, ne20, ne30, eq00]
    refine hq _ (fun a c1 c2 => ?_) (fun k k1 k2 k3 k4 k5 k6 => ?_) (u2s _ _ _ _) ?_ ?_
    · rw [u2_off _ _ _ c1, u2_off _ _ _ c1, u2_off _ _ _ c1, a2.1 a c1 c2, u2_off _ _ _ c1]
    · rw [u2k _ _ _ k1, u2k _ _ _ k5, u2k _ _ _ k2, a2.2 k k3 k4 k6, u2k _ _ _ k1]
    · rw [u2k _ _ _ (by decide), u2k _ _ _ (by decide), u2s]
    · rw [u2k _ _ _ (by decide), u2s]
theorem s_addRules_ok (hm : MdS S N P m) (h7 : I (m + 7) = c) (h10 : I m 10 = nI n) (hn : n ≤ 80) (h2 : Cn2 (I (m + 1))) {l : List ItT} {s' : Nat} (he : ItsF c n 81 0 = (some l, s')) (ho : ItsO l (T0 I m) = false) {nk nk' : Nat} (hnk : nk ≤ 6) (h27 : I (m + 1) 27 = nI nk) (hnk' : nk' ≤ 6) (h27' : ItsG l (T0 I m) 27 = nI nk')
    {pn : Nat} {G : Nat → Nat → Int32} {H : Nat → Nat → Int64} (hp : Pas m I J pn G H)
    (hq : ∀ I' J', (∀ k, k < 89 → I' (m + 1) k = ItsG l (T0 I m) k) → (∀ p j, p < 6 → j < 6 → J' (m + 2) (6 * p + j) = if nk ≤ j ∧ j < nk' then 0 else J (m + 2) (6 * p + j)) → (∀ a, a ≠ m → a ≠ m + 1 → a ≠ m + 5 → a ≠ m + 8 → I' a = I a) → (∀ k, k ≠ 7 → k ≠ 8 → k ≠ 10 → k ≠ 11 → k ≠ 12 → k ≠ 13 → k ≠ 14 → I' m k = I m k) → I' m 8 = 0 → I' m 10 = 0 → I' m 13 = -1 → (∀ a, a ≠ m + 2 → a ≠ m + 6 → J' a = J a) → Pas m I' J' (psn pn) (psh pn G (I (m + 1))) (psh pn H (J (m + 2))) → Q (some (.int (nI l.length))) I' J' P) : CWp S N (d + 6) MX9_addRules [.ref m] I J P Q := by
  rw [c_X9_addRules]
  have hm0 := hm
  unfold MdS at hm
  simp only [e_X9_addRules_0, e_X9_addRules_1, e_X9_addRules_2, e_X9_addRules_5, e_X9_addRules_6, hm, true_and, and_true, rf_s, not_true_eq_false, not_false_eq_true, true_implies, false_implies, kl_i, kl_n, kl_l, kl_r, Option.toList, List.cons_append, List.nil_append, if_true, if_false, u2s, lt00, lt01, lt02, lt03, le10, le20, le30, ne10, ne20, ne30, eq00]
  have eT : T0 (u2 I m 8 0) m = T0 I m := by
    funext k
    unfold T0 cpR
    rw [u2_off _ _ _ (show m + 8 ≠ m by omega), u2_off _ _ _ (show m + 1 ≠ m by omega)]
  refine s_items (c := c) hm0 (by rw [u2_off _ _ _ (by omega)]; exact h7) (by rw [u2k _ _ _ (by decide)]; exact h10) hn (by rw [u2_off _ _ _ (by omega)]; exact h2) (fun s2 e I1 o' t' a1 a2 => ?_) (fun l2 s2 e I1 a1 a2 => ?_)
  · rw [he] at e
    cases e
  · rw [he] at e
    cases e
    rw [eT, ho] at a1
    have h14 : I1 m 14 = 0 := a1.2.2.2.1
    have h8 := a1.2.2.2.2.1
    have hlen := (ItsF_ok 81 0 l s' (Nat.zero_le _) he).2
    have g1 : ((0 : Int32) ≤ nI l.length) = True := eq_true (nI_pos' (by omega))
    have h14' : ∀ v w : Int32, (u2 (u2 I1 m 10 v) m 13 w) m 14 = 0 := fun v w => by rw [u2k _ _ _ (by decide), u2k _ _ _ (by decide)]; exact h14
    simp only [e_X9_addRules_9, e_X9_addRules_10, e_X9_addRules_11, e_X9_addRules_12, e_X9_addRules_15, e_X9_addRules_16, e_X9_addRules_17, e_X9_addRules_20, e_X9_addRules_21, e_X9_addRules_24, e_X9_addRules_27, e_X9_addRules_28, e_X9_addRules_31, e_X9_addRules_32, e_X9_addRules_35, e_X9_addRules_36, e_X9_addRules_37, e_X9_addRules_40, e_X9_addRules_41, e_X9_addRules_42, e_X9_addRules_45, e_X9_addRules_54, e_X9_addRules_55, hm, h14', g1, true_and, and_true, rf_s, not_true_eq_false, not_false_eq_true, true_implies, false_implies, kl_i, kl_n, kl_l, kl_r, Option.toList, List.cons_append, List.nil_append, if_true, if_false, u2s, lt00, lt01, lt02, lt03, le10, le20, le30, ne10, ne20, ne30, eq00]
    have hp1 : Pas m (u2 (u2 I1 m 10 0) m 13 (-1)) J pn G H := by
      refine hp.on ?_ ?_ rfl
      · rw [u2k _ _ _ (by decide), u2k _ _ _ (by decide), a2.2 7 (by decide) (by decide) (by decide), u2k _ _ _ (by decide)]
      · rw [u2_off _ _ _ (by omega), u2_off _ _ _ (by omega), a2.1 _ (by omega) (by omega), u2_off _ _ _ (by omega)]
    have eg : (u2 (u2 I1 m 10 0) m 13 (-1)) (m + 1) = I (m + 1) := by rw [u2_off _ _ _ (by omega), u2_off _ _ _ (by omega), a2.1 _ (by omega) (by omega), u2_off _ _ _ (by omega)]
    refine s_changes hm0 hp1 (fun I2 J2 b1 b2 b3 b4 => ?_)
    rw [eg] at b4
    have g2 : I2 (m + 1) = I (m + 1) := by rw [b1 _ (by omega) (by omega)]; exact eg
    have t2 : I2 (m + 8) = ItsG l (T0 I m) := by rw [b1 _ (by omega) (by omega), u2_off _ _ _ (by omega), u2_off _ _ _ (by omega)]; exact h8
    simp only [e_X9_addRules_58, e_X9_addRules_59, e_X9_addRules_62, e_X9_addRules_64, e_X9_addRules_65, hm, g2, h27, cl_27, vl89_27, true_and, and_true, rf_s, not_true_eq_false, not_false_eq_true, true_implies, false_implies, kl_i, kl_n, kl_l, kl_r, Option.toList, List.cons_append, List.nil_append, if_true, if_false, u2s, lt00, lt01, lt02, lt03, le10, le20, le30, ne10, ne20, ne30, eq00]
    refine fg_loop hm0 hnk' (by rw [t2]; exact h27') (max nk nk' - nk) nk (by omega) hnk J2 (fun J3 k2 c1 c2 => ?_)
    have e1 := ar_l1 (S := S) (N := N) (d := d + 5 + 1) (I := I2) (J := J3) (P := P) (Q := Q) (rv := nI l.length) hm0 89 0 rfl
    rw [cpR_0] at e1
    simp only [e_X9_addRules_88, e_X9_addRules_89, true_and, and_true, rf_s, not_true_eq_false, not_false_eq_true, true_implies, false_implies, kl_i, kl_n, kl_l, kl_r, Option.toList, List.cons_append, List.nil_append, if_true, if_false, u2s, lt00, lt01, lt02, lt03, le10, le20, le30, ne10, ne20, ne30, eq00]
    refine e1.mpr ?_
    simp only [e_X9_addRules_114, e_X9_addRules_115, true_and, and_true, rf_s, not_true_eq_false, not_false_eq_true, true_implies, false_implies, kl_i, kl_n, kl_l, kl_r, Option.toList, List.cons_append, List.nil_append, if_true, if_false, u2s, lt00, lt01, lt02, lt03, le10, le20, le30, ne10, ne20, ne30, eq00]
    refine hq _ J3 (fun k hk => ?_) (fun p j hp hj => ?_) (fun a n1 n2 n3 n4 => ?_) (fun k k1 k2 k3 k4 k5 k6 k7 => ?_) ?_ ?_ ?_ (fun a n1 n2 => ?_) (b4.on ?_ ?_ ?_)
    · have h4 := cpR_in I2 (m + 1) (x := 0) (m + 8) 0 (i := 89) (k := k) hk
      simp only [Nat.zero_add] at h4
      rw [h4, t2]
    · rw [c2 p j hp hj, b3 _ (by omega)]
    · rw [cpR_off _ _ _ _ _ n2, b1 a n1 n3, u2_off _ _ _ n1, u2_off _ _ _ n1, a2.1 a n1 n4, u2_off _ _ _ n1]
    · rw [cpR_off _ _ _ _ _ (by omega), b2 k k1, u2k _ _ _ k6, u2k _ _ _ k3, a2.2 k k4 k5 k7, u2k _ _ _ k2]
    · rw [cpR_off _ _ _ _ _ (by omega), b2 8 (by decide), u2k _ _ _ (by decide), u2k _ _ _ (by decide), a2.2 8 (by decide) (by decide) (by decide), u2s]
    · rw [cpR_off _ _ _ _ _ (by omega), b2 10 (by decide), u2k _ _ _ (by decide), u2s]
    · rw [cpR_off _ _ _ _ _ (by omega), b2 13 (by decide), u2s]
    · rw [c1 a n1, b3 a n2]
    · rw [cpR_off _ _ _ _ _ (by omega)]
    · rw [cpR_off _ _ _ _ _ (by omega)]
    · rw [c1 _ (by omega)]
end MTJ

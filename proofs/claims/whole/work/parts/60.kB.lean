/-! the class: allowance, minimum, charges and credits set -/
theorem od3 (a b c : Nat) : OdL 4 0 [a, b, c] = decide (999 < c) := by
  show ((decide ((4 : Int32) >>> (nI 0 &&& 31) &&& 1 = 1) && decide (999 < a)) || ((decide ((4 : Int32) >>> (nI 1 &&& 31) &&& 1 = 1) && decide (999 < b)) || ((decide ((4 : Int32) >>> (nI 2 &&& 31) &&& 1 = 1) && decide (999 < c)) || false))) = _
  rw [show decide ((4 : Int32) >>> (nI 0 &&& 31) &&& 1 = 1) = false from by decide, show decide ((4 : Int32) >>> (nI 1 &&& 31) &&& 1 = 1) = false from by decide, show decide ((4 : Int32) >>> (nI 2 &&& 31) &&& 1 = 1) = true from by decide]
  simp
theorem od2 (a b : Nat) : OdL 2 0 [a, b] = decide (999 < b) := by
  show ((decide ((2 : Int32) >>> (nI 0 &&& 31) &&& 1 = 1) && decide (999 < a)) || ((decide ((2 : Int32) >>> (nI 1 &&& 31) &&& 1 = 1) && decide (999 < b)) || false)) = _
  rw [show decide ((2 : Int32) >>> (nI 0 &&& 31) &&& 1 = 1) = false from by decide, show decide ((2 : Int32) >>> (nI 1 &&& 31) &&& 1 = 1) = true from by decide]
  simp
theorem od0 (a b : Nat) : OdL 0 0 [a, b] = false := by
  show ((decide ((0 : Int32) >>> (nI 0 &&& 31) &&& 1 = 1) && decide (999 < a)) || ((decide ((0 : Int32) >>> (nI 1 &&& 31) &&& 1 = 1) && decide (999 < b)) || false)) = _
  rw [show decide ((0 : Int32) >>> (nI 0 &&& 31) &&& 1 = 1) = false from by decide, show decide ((0 : Int32) >>> (nI 1 &&& 31) &&& 1 = 1) = false from by decide]
  simp
theorem od10 (a b c e : Nat) : OdL 10 0 [a, b, c, e] = (decide (999 < b) || decide (999 < e)) := by
  show ((decide ((10 : Int32) >>> (nI 0 &&& 31) &&& 1 = 1) && decide (999 < a)) || ((decide ((10 : Int32) >>> (nI 1 &&& 31) &&& 1 = 1) && decide (999 < b)) || ((decide ((10 : Int32) >>> (nI 2 &&& 31) &&& 1 = 1) && decide (999 < c)) || ((decide ((10 : Int32) >>> (nI 3 &&& 31) &&& 1 = 1) && decide (999 < e)) || false)))) = _
  rw [show decide ((10 : Int32) >>> (nI 0 &&& 31) &&& 1 = 1) = false from by decide, show decide ((10 : Int32) >>> (nI 1 &&& 31) &&& 1 = 1) = true from by decide, show decide ((10 : Int32) >>> (nI 2 &&& 31) &&& 1 = 1) = false from by decide, show decide ((10 : Int32) >>> (nI 3 &&& 31) &&& 1 = 1) = true from by decide]
  simp
section KTB
variable {S N : Nat → Nat} {d : Nat} {I : IM} {J : JM} {P : PM} {Q : Option Value → IM → JM → PM → Prop} {r q : Nat} {π : Nat → Nat} {g t : Nat → Int32} {hF : Nat → Int64} {nb nc nk : Nat} {o : Bool} {l : List Nat}
theorem bI_nd {c : Prop} [Decidable c] : bI (!decide c) = if c then 0 else 1 := by
  by_cases h : c
  · rw [decide_eq_true h, if_pos h]; rfl
  · rw [decide_eq_false h, if_neg h]; rfl
/-- the settings' row written: from x on, the rest is as it was -/
theorem DS.sets {I' : IM} {J' : JM} {t' : Nat → Int32} (hd : DS I J r π o t hF) (hs : RuS S N P r π) (o' : Bool) (h0 : I' r = I r) (hI : ∀ a, a ≠ r + 3 → I' a = I a) (hJ : J' = J) (h3 : o = false → ∀ j, j < 5 → I' (r + 3) j = t' (13 + j)) (ht : ∀ y, y < 13 ∨ 18 ≤ y → t' y = t y) : DS I' J' r π (o || o') t' hF := by
  obtain ⟨d1, d2, d3⟩ := hd
  subst hJ
  refine ⟨by rw [h0]; exact d1, by rw [h0]; exact d2, fun z => ?_⟩
  have zo : o = false := by
    cases o
    · rfl
    · simp at z
  obtain ⟨nb, nc, nk, ⟨b1, b2, b3⟩, ⟨r1, r2, r3, r5, r6⟩, t0, t18, t27, tz⟩ := d3 zo
  refine ⟨nb, nc, nk, ⟨b1, b2, b3⟩, ⟨by rw [h0]; exact r1, fun k hk => ?_, h3 zo, fun k hk => ?_, fun k hk => ⟨fun x hx => ?_, (r6 k hk).2⟩⟩, ?_, ?_, ?_, tz⟩
  · rw [hI _ (by omega), hI _ (by omega), ht _ (by omega), ht _ (by omega)]; exact r2 k hk
  · rw [hI _ (by omega), hI _ (by omega), ht _ (by omega), ht _ (by omega)]; exact r5 k hk
  · rw [hI _ (by omega), ht _ (by omega)]; exact (r6 k hk).1 x hx
  · rw [ht _ (by omega)]; exact t0
  · rw [ht _ (by omega)]; exact t18
  · rw [ht _ (by omega)]; exact t27
theorem k_setAllowance (hs : RuS S N P r π) {a b c : Nat} (hc : c < 10000) {e : Bool} (hd : DS I J r π o t hF) (hq : DQ S N I J P r π o t hF 1 [a, b, c] e Q) : CWp S N d MX7_setAllowance [.ref r, .int (nI a), .int (nI b), .int (nI c)] I J P Q := by
  rw [c_X7_setAllowance]
  have hs' := hs.f
  have eO : ItO 1 [a, b, c] t = decide (999 < c) := od3 a b c
  have fin := hq (u2 (u2 (u2 I (r + 3) 0 (nI a)) (r + 3) 1 (nI b)) (r + 3) 2 (nI c)) J (!decide (999 < c)) (fun x hx => ⟨by rw [u2_off _ _ _ (by omega), u2_off _ _ _ (by omega), u2_off _ _ _ (by omega)], rfl⟩) (fun _ => by rw [eO])
    (hd.sets hs _ (by rw [u2_off _ _ _ (by omega), u2_off _ _ _ (by omega), u2_off _ _ _ (by omega)]) (fun x hx => by rw [u2_off _ _ _ hx, u2_off _ _ _ hx, u2_off _ _ _ hx]) rfl (fun z j hj => by
      obtain ⟨nb, nc, nk, -, ⟨-, -, r3, -, -⟩, -⟩ := hd.2.2 z
      show _ = (if 13 + j = 15 then nI c else if 13 + j = 14 then nI b else if 13 + j = 13 then nI a else t (13 + j))
      rcases (show j = 0 ∨ j = 1 ∨ j = 2 ∨ j = 3 ∨ j = 4 by omega) with rfl | rfl | rfl | rfl | rfl
      · simp [u2]
      · simp [u2]
      · simp [u2]
      · simpa [u2] using r3 3 (by decide)
      · simpa [u2] using r3 4 (by decide)) (fun y hy => by
      show (if y = 15 then nI c else if y = 14 then nI b else if y = 13 then nI a else t y) = t y
      rw [if_neg (by omega), if_neg (by omega), if_neg (by omega)]))
  rw [bI_nd] at fin
  by_cases h9 : 999 < c
  · have g1 : (999 : Int32) < nI c := nI_lt (a := 999) h9 (by omega)
    rw [if_pos h9] at fin
    simp only [e_X7_setAllowance_0, e_X7_setAllowance_1, e_X7_setAllowance_4, e_X7_setAllowance_5, e_X7_setAllowance_6, e_X7_setAllowance_7, e_X7_setAllowance_8, e_X7_setAllowance_11, e_X7_setAllowance_12, e_X7_setAllowance_13, e_X7_setAllowance_14, e_X7_setAllowance_15, e_X7_setAllowance_18, e_X7_setAllowance_19, e_X7_setAllowance_20, e_X7_setAllowance_21, e_X7_setAllowance_22, e_X7_setAllowance_25, e_X7_setAllowance_28, e_X7_setAllowance_29, e_X7_setAllowance_32, e_X7_setAllowance_33 isB0, e_X7_setAllowance_33 isB1, e_X7_setAllowance_33 isB_ite, hs', g1, cl_0, cl_1, cl_2, vl5_0, vl5_1, vl5_2, true_and, and_true, rf_s, not_true_eq_false, not_false_eq_true, true_implies, false_implies, kl_i, kl_n, kl_l, kl_r, Option.toList, List.cons_append, List.nil_append, if_true, if_false, u2s, lt00, lt01, lt02, lt03, le10, le20, le30, ne10, ne20, ne30, eq00]
    exact fin
  · have g1 : ¬ (999 : Int32) < nI c := nI_nlt (a := 999) (b := c) (by omega) (by decide)
    rw [if_neg h9] at fin
    simp only [e_X7_setAllowance_0, e_X7_setAllowance_1, e_X7_setAllowance_4, e_X7_setAllowance_5, e_X7_setAllowance_6, e_X7_setAllowance_7, e_X7_setAllowance_8, e_X7_setAllowance_11, e_X7_setAllowance_12, e_X7_setAllowance_13, e_X7_setAllowance_14, e_X7_setAllowance_15, e_X7_setAllowance_18, e_X7_setAllowance_19, e_X7_setAllowance_20, e_X7_setAllowance_21, e_X7_setAllowance_22, e_X7_setAllowance_25, e_X7_setAllowance_28, e_X7_setAllowance_29, e_X7_setAllowance_32, e_X7_setAllowance_33 isB0, e_X7_setAllowance_33 isB1, e_X7_setAllowance_33 isB_ite, hs', g1, cl_0, cl_1, cl_2, vl5_0, vl5_1, vl5_2, true_and, and_true, rf_s, not_true_eq_false, not_false_eq_true, true_implies, false_implies, kl_i, kl_n, kl_l, kl_r, Option.toList, List.cons_append, List.nil_append, if_true, if_false, u2s, lt00, lt01, lt02, lt03, le10, le20, le30, ne10, ne20, ne30, eq00]
    exact fin
theorem k_setMinimum (hs : RuS S N P r π) {a b : Nat} (hb : b < 10000) {e : Bool} (hd : DS I J r π o t hF) (hq : DQ S N I J P r π o t hF 2 [a, b] e Q) : CWp S N d MX7_setMinimum [.ref r, .int (nI a), .int (nI b)] I J P Q := by
  rw [c_X7_setMinimum]
  have hs' := hs.f
  have eO : ItO 2 [a, b] t = decide (999 < b) := od2 a b
  have fin := hq (u2 (u2 I (r + 3) 3 (nI a)) (r + 3) 4 (nI b)) J (!decide (999 < b)) (fun x hx => ⟨by rw [u2_off _ _ _ (by omega), u2_off _ _ _ (by omega)], rfl⟩) (fun _ => by rw [eO])
    (hd.sets hs _ (by rw [u2_off _ _ _ (by omega), u2_off _ _ _ (by omega)]) (fun x hx => by rw [u2_off _ _ _ hx, u2_off _ _ _ hx]) rfl (fun z j hj => by
      obtain ⟨nb, nc, nk, -, ⟨-, -, r3, -, -⟩, -⟩ := hd.2.2 z
      show _ = (if 13 + j = 17 then nI b else if 13 + j = 16 then nI a else t (13 + j))
      rcases (show j = 0 ∨ j = 1 ∨ j = 2 ∨ j = 3 ∨ j = 4 by omega) with rfl | rfl | rfl | rfl | rfl
      · simpa [u2] using r3 0 (by decide)
      · simpa [u2] using r3 1 (by decide)
      · simpa [u2] using r3 2 (by decide)
      · simp [u2]
      · simp [u2]) (fun y hy => by
      show (if y = 17 then nI b else if y = 16 then nI a else t y) = t y
      rw [if_neg (by omega), if_neg (by omega)]))
  rw [bI_nd] at fin
  by_cases h9 : 999 < b
  · have g1 : (999 : Int32) < nI b := nI_lt (a := 999) h9 (by omega)
    rw [if_pos h9] at fin
    simp only [e_X7_setMinimum_0, e_X7_setMinimum_1, e_X7_setMinimum_4, e_X7_setMinimum_5, e_X7_setMinimum_6, e_X7_setMinimum_7, e_X7_setMinimum_8, e_X7_setMinimum_11, e_X7_setMinimum_12, e_X7_setMinimum_13, e_X7_setMinimum_14, e_X7_setMinimum_15, e_X7_setMinimum_18, e_X7_setMinimum_21, e_X7_setMinimum_22, e_X7_setMinimum_25, e_X7_setMinimum_26 isB0, e_X7_setMinimum_26 isB1, e_X7_setMinimum_26 isB_ite, hs', g1, cl_3, cl_4, vl5_3, vl5_4, true_and, and_true, rf_s, not_true_eq_false, not_false_eq_true, true_implies, false_implies, kl_i, kl_n, kl_l, kl_r, Option.toList, List.cons_append, List.nil_append, if_true, if_false, u2s, lt00, lt01, lt02, lt03, le10, le20, le30, ne10, ne20, ne30, eq00]
    exact fin
  · have g1 : ¬ (999 : Int32) < nI b := nI_nlt (a := 999) (b := b) (by omega) (by decide)
    rw [if_neg h9] at fin
    simp only [e_X7_setMinimum_0, e_X7_setMinimum_1, e_X7_setMinimum_4, e_X7_setMinimum_5, e_X7_setMinimum_6, e_X7_setMinimum_7, e_X7_setMinimum_8, e_X7_setMinimum_11, e_X7_setMinimum_12, e_X7_setMinimum_13, e_X7_setMinimum_14, e_X7_setMinimum_15, e_X7_setMinimum_18, e_X7_setMinimum_21, e_X7_setMinimum_22, e_X7_setMinimum_25, e_X7_setMinimum_26 isB0, e_X7_setMinimum_26 isB1, e_X7_setMinimum_26 isB_ite, hs', g1, cl_3, cl_4, vl5_3, vl5_4, true_and, and_true, rf_s, not_true_eq_false, not_false_eq_true, true_implies, false_implies, kl_i, kl_n, kl_l, kl_r, Option.toList, List.cons_append, List.nil_append, if_true, if_false, u2s, lt00, lt01, lt02, lt03, le10, le20, le30, ne10, ne20, ne30, eq00]
    exact fin
theorem k_addCharge (hs : RuS S N P r π) {a b : Nat} {e : Bool} (hd : DS I J r π o t hF) (hq : DQ S N I J P r π o t hF 3 [a, b] e Q) : CWp S N d MX7_addCharge [.ref r, .int (nI a), .int (nI b)] I J P Q := by
  rw [c_X7_addCharge]
  have hs' := hs.f
  obtain ⟨⟨nc, hnc, e4⟩, d2, d3⟩ := hd
  have eO : ∀ {m : Nat}, t 18 = nI m → m ≤ 4 → ItO 3 [a, b] t = !decide (m < 4) := fun {m} h h4 => by
    show (OdL 0 0 [a, b] || !decide ((t 18).toNatClampNeg < 4)) = _
    rw [od0, h, nI_clamp (by omega), Bool.false_or]
  by_cases h4 : nc < 4
  · have g1 : nI nc < (4 : Int32) := nI_lt (b := 4) h4 (by decide)
    have q1 : ∀ v : Int32, (u2 I (r + 4) nc v) r 4 = nI nc := fun v => by rw [u2_off _ _ _ (by omega)]; exact e4
    have q2 : ∀ v w : Int32, (u2 (u2 I (r + 4) nc v) (r + 5) nc w) r 4 = nI nc := fun v w => by rw [u2_off _ _ _ (by omega)]; exact q1 v
    simp only [e_X7_addCharge_0, e_X7_addCharge_1, e_X7_addCharge_4, e_X7_addCharge_5, e_X7_addCharge_8, e_X7_addCharge_9 isB0, e_X7_addCharge_9 isB1, e_X7_addCharge_9 isB_ite, e_X7_addCharge_10, e_X7_addCharge_11, e_X7_addCharge_14, e_X7_addCharge_15, e_X7_addCharge_18, e_X7_addCharge_19, e_X7_addCharge_20, e_X7_addCharge_21, e_X7_addCharge_24, e_X7_addCharge_25, e_X7_addCharge_28, e_X7_addCharge_29, e_X7_addCharge_30, e_X7_addCharge_31, e_X7_addCharge_32, e_X7_addCharge_35, e_X7_addCharge_36, e_X7_addCharge_37, e_X7_addCharge_40, e_X7_addCharge_41 isB0, e_X7_addCharge_41 isB1, e_X7_addCharge_41 isB_ite, hs', e4, g1, q1, q2, nI_1, nI_clamp (show nc < 2 ^ 31 by omega), vpn h4 (by decide), true_and, and_true, rf_s, not_true_eq_false, not_false_eq_true, true_implies, false_implies, kl_i, kl_n, kl_l, kl_r, Option.toList, List.cons_append, List.nil_append, if_true, if_false, u2s, lt00, lt01, lt02, lt03, le10, le20, le30, ne10, ne20, ne30, eq00]
    refine hq _ J true (fun x hx => ⟨by rw [u2_off _ _ _ (by omega), u2_off _ _ _ (by omega), u2_off _ _ _ (by omega)], rfl⟩) (fun z => ?_) ⟨⟨nc + 1, by omega, u2s _ _ _ _⟩, ?_, fun z => ?_⟩
    · obtain ⟨nb, nc', nk, ⟨b1, b2, b3⟩, ⟨⟨r1, r4, r7⟩, -⟩, t0, t18, t27⟩ := d3 z
      have : nc' = nc := (nI_eq (by omega) (by omega)).mp (r4.symm.trans e4)
      subst this
      rw [eO t18 b2, decide_eq_true h4]; rfl
    · obtain ⟨nk, k1, k2⟩ := d2
      exact ⟨nk, k1, by rw [u2k _ _ _ (by decide), u2_off _ _ _ (by omega), u2_off _ _ _ (by omega)]; exact k2⟩
    · have zo : o = false := by
        cases o
        · rfl
        · simp at z
      obtain ⟨nb, nc', nk, ⟨b1, b2, b3⟩, ⟨⟨r1, r4, r7⟩, r2, r3, r5, r6⟩, t0, t18, t27, tz⟩ := d3 zo
      have : nc' = nc := (nI_eq (by omega) (by omega)).mp (r4.symm.trans e4)
      subst this
      have eG : ∀ y, ItG 3 [a, b] e t y = if y = 18 then nI (nc' + 1) else if y = 20 + 2 * nc' then nI b else if y = 19 + 2 * nc' then nI a else t y := fun y => by
        unfold ItG
        rw [if_neg (by decide), if_neg (by decide), if_neg (by decide), if_pos rfl, t18, nI_clamp (by omega), if_pos h4]
        show (if y = 18 then nI (nc' + 1) else if y = 19 + 2 * nc' + 1 then nI b else if y = 19 + 2 * nc' then nI a else t y) = _
        rw [show 19 + 2 * nc' + 1 = 20 + 2 * nc' by omega]
      refine ⟨nb, nc' + 1, nk, ⟨b1, by omega, b3⟩, ⟨⟨?_, u2s _ _ _ _, ?_⟩, fun k hk => ?_, fun j hj => ?_, fun k hk => ?_, fun k hk => ⟨fun x hx => ?_, (r6 k hk).2⟩⟩, ?_, ?_, ?_, tz⟩
      · rw [u2k _ _ _ (by decide), u2_off _ _ _ (by omega), u2_off _ _ _ (by omega)]; exact r1
      · rw [u2k _ _ _ (by decide), u2_off _ _ _ (by omega), u2_off _ _ _ (by omega)]; exact r7
      · rw [u2_off _ _ _ (show r + 1 ≠ r by omega), u2_off _ _ _ (show r + 1 ≠ r + 5 by omega), u2_off _ _ _ (show r + 1 ≠ r + 4 by omega), u2_off _ _ _ (show r + 2 ≠ r by omega), u2_off _ _ _ (show r + 2 ≠ r + 5 by omega), u2_off _ _ _ (show r + 2 ≠ r + 4 by omega), eG, eG, if_neg (by omega), if_neg (by omega), if_neg (by omega), if_neg (by omega), if_neg (by omega), if_neg (by omega)]
        exact r2 k hk
      · rw [u2_off _ _ _ (by omega), u2_off _ _ _ (by omega), u2_off _ _ _ (by omega), eG, if_neg (by omega), if_neg (by omega), if_neg (by omega)]
        exact r3 j hj
      · by_cases hkn : k = nc'
        · subst hkn
          constructor
          · rw [u2_off _ _ _ (show r + 4 ≠ r by omega), u2_off _ _ _ (show r + 4 ≠ r + 5 by omega), u2s, eG, if_neg (by omega), if_neg (by omega), if_pos rfl]
          · rw [u2_off _ _ _ (show r + 5 ≠ r by omega), u2s, eG, if_neg (by omega), if_pos rfl]
        · constructor
          · rw [u2_off _ _ _ (show r + 4 ≠ r by omega), u2_off _ _ _ (show r + 4 ≠ r + 5 by omega), u2k _ _ _ hkn, eG, if_neg (by omega), if_neg (by omega), if_neg (by omega)]
            exact (r5 k (by omega)).1
          · rw [u2_off _ _ _ (show r + 5 ≠ r by omega), u2k _ _ _ hkn, u2_off _ _ _ (show r + 5 ≠ r + 4 by omega), eG, if_neg (by omega), if_neg (by omega), if_neg (by omega)]
            exact (r5 k (by omega)).2
      · rw [u2_off _ _ _ (by omega), u2_off _ _ _ (by omega), u2_off _ _ _ (by omega), eG, if_neg (by omega), if_neg (by omega), if_neg (by omega)]
        exact (r6 k hk).1 x hx
      · rw [eG, if_neg (by decide), if_neg (by omega), if_neg (by omega)]; exact t0
      · rw [eG, if_pos rfl]
      · rw [eG, if_neg (by decide), if_neg (by omega), if_neg (by omega)]; exact t27
  · have g1 : ¬ nI nc < (4 : Int32) := nI_nlt (b := 4) (a := nc) (by omega) (by omega)
    simp only [e_X7_addCharge_0, e_X7_addCharge_1, e_X7_addCharge_4, e_X7_addCharge_5, e_X7_addCharge_8, e_X7_addCharge_9 isB0, e_X7_addCharge_9 isB1, e_X7_addCharge_9 isB_ite, hs', e4, g1, true_and, and_true, rf_s, not_true_eq_false, not_false_eq_true, true_implies, false_implies, kl_i, kl_n, kl_l, kl_r, Option.toList, List.cons_append, List.nil_append, if_true, if_false, u2s, lt00, lt01, lt02, lt03, le10, le20, le30, ne10, ne20, ne30, eq00]
    refine hq I J false (fun _ _ => ⟨rfl, rfl⟩) (fun z => ?_) ⟨⟨nc, hnc, e4⟩, d2, fun z => ?_⟩
    · obtain ⟨nb, nc', nk, ⟨b1, b2, b3⟩, ⟨⟨r1, r4, r7⟩, -⟩, t0, t18, t27⟩ := d3 z
      have : nc' = nc := (nI_eq (by omega) (by omega)).mp (r4.symm.trans e4)
      subst this
      rw [eO t18 b2, decide_eq_false h4]; rfl
    · exfalso
      have zo : o = false := by
        cases o
        · rfl
        · simp at z
      obtain ⟨nb, nc', nk, ⟨b1, b2, b3⟩, ⟨⟨r1, r4, r7⟩, -⟩, t0, t18, t27⟩ := d3 zo
      have : nc' = nc := (nI_eq (by omega) (by omega)).mp (r4.symm.trans e4)
      subst this
      rw [zo, eO t18 b2, decide_eq_false h4] at z
      cases z
theorem ac_loop (hs : RuS S N P r π) {k : Nat} (hk : k < 6) {x1 x2 x3 : Option Value} : ∀ (n i : Nat), i + n = 6 → ∀ (J : JM), (∀ J', (∀ a, a ≠ r + 9 + 3 * π k → J' a = J a) → (∀ j, i ≤ j → j < 6 → J' (r + 9 + 3 * π k) j = 0) → (∀ j, j < i → J' (r + 9 + 3 * π k) j = J (r + 9 + 3 * π k) j) → Wp S N d MX7_addCredit 111 [some (.ref r), x1, x2, x3, some (.ref (r + 7 + 3 * π k)), some (.int (nI 6))] [] I J' P Q) →
    Wp S N d MX7_addCredit 89 [some (.ref r), x1, x2, x3, some (.ref (r + 7 + 3 * π k)), some (.int (nI i))] [] I J P Q := by
  have hs' := hs.f
  have c1 := cr_row hs hk
  intro n
  induction n with
  | zero =>
    intro i hi J hq
    have hi : i = 6 := by omega
    subst hi
    have g1 : (6 : Int32) ≤ nI 6 := by decide
    simp only [e_X7_addCredit_89, e_X7_addCredit_91, e_X7_addCredit_93, g1, true_and, and_true, rf_s, not_true_eq_false, not_false_eq_true, true_implies, false_implies, kl_i, kl_n, kl_l, kl_r, Option.toList, List.cons_append, List.nil_append, if_true, if_false, u2s, lt00, lt01, lt02, lt03, le10, le20, le30, ne10, ne20, ne30, eq00]
    exact hq J (fun _ _ => rfl) (fun j h1 h2 => by omega) (fun _ _ => rfl)
  | succ n ih =>
    intro i hi J hq
    have g1 : ¬ (6 : Int32) ≤ nI i := nI_ge (b := 6) (by omega) (by decide)
    rw [e_X7_addCredit_89]
    simp only [e_X7_addCredit_91, e_X7_addCredit_93, e_X7_addCredit_96, e_X7_addCredit_98, e_X7_addCredit_101, e_X7_addCredit_103, e_X7_addCredit_104, e_X7_addCredit_105, e_X7_addCredit_108, c1, g1, nI_1, nI_clamp (show i < 2 ^ 31 by omega), vpn (show i < 6 by omega) (by decide), true_and, and_true, rf_s, not_true_eq_false, not_false_eq_true, true_implies, false_implies, kl_i, kl_n, kl_l, kl_r, Option.toList, List.cons_append, List.nil_append, if_true, if_false, u2s, lt00, lt01, lt02, lt03, le10, le20, le30, ne10, ne20, ne30, eq00]
    rw [show r + 7 + 3 * π k + 2 = r + 9 + 3 * π k by omega]
    refine ih (i + 1) (by omega) _ (fun J' a1 a2 a3 => hq J' (fun a ha => (a1 a ha).trans (u2_off _ _ _ ha)) (fun j h1 h2 => ?_) (fun j hj => by rw [a3 j (by omega), u2k _ _ _ (by omega)]))
    by_cases hj : j = i
    · subst hj
      rw [a3 j (by omega), u2s]
    · exact a2 j (by omega) h2
theorem k_addCredit (hs : RuS S N P r π) (hq1 : S q = 10) (hq2 : N q = 80) (hdis : q < r ∨ r + 25 ≤ q) {a b c e' kd : Nat} (hkd : kd < 3) (hb9 : b < 10000) (he9 : e' < 10000) (n0 : I q 0 = nI a) (n1 : I q 1 = nI b) (n2 : I q 2 = nI c) (n3 : I q 3 = nI e') {e : Bool} (hd : DS I J r π o t hF) (hq : DQ S N I J P r π o t hF (4 + kd) [a, b, c, e'] e Q) :
    CWp S N d MX7_addCredit [.ref r, .int (nI kd), .ref q, .int (bI e)] I J P Q := by
  rw [c_X7_addCredit]
  have hs' := hs.f
  obtain ⟨d1, ⟨nk, hnk, e7⟩, d3⟩ := hd
  have eO : ∀ {m : Nat}, t 27 = nI m → m ≤ 6 → ItO (4 + kd) [a, b, c, e'] t = ((decide (999 < b) || decide (999 < e')) || !decide (m < 6)) := fun {m} h h4 => by
    unfold ItO
    rw [if_neg (by omega), if_neg (by omega), if_neg (by omega), if_neg (by omega), od10, h, nI_clamp (by omega)]
  by_cases h6 : nk < 6
  · have g1 : nI nk < (6 : Int32) := nI_lt (b := 6) h6 (by decide)
    obtain ⟨p1, p2⟩ := hs.2.2.2.2.1 nk h6
    have c1 := cr_row hs h6
    have hqd : q ≠ r + 7 + 3 * π nk + 1 := by omega
    have m1 : ∀ v : Int32, (u2 I (r + 7 + 3 * π nk + 1) 0 v) q 0 = nI a := fun v => by rw [u2_off _ _ _ hqd]; exact n0
    have m2 : ∀ v w : Int32, (u2 (u2 I (r + 7 + 3 * π nk + 1) 0 v) (r + 7 + 3 * π nk + 1) 1 w) q 1 = nI b := fun v w => by rw [u2_off _ _ _ hqd, u2_off _ _ _ hqd]; exact n1
    have m3 : ∀ v w x : Int32, (u2 (u2 (u2 I (r + 7 + 3 * π nk + 1) 0 v) (r + 7 + 3 * π nk + 1) 1 w) (r + 7 + 3 * π nk + 1) 2 x) q 2 = nI c := fun v w x => by rw [u2_off _ _ _ hqd, u2_off _ _ _ hqd, u2_off _ _ _ hqd]; exact n2
    have m4 : ∀ v w x y : Int32, (u2 (u2 (u2 (u2 I (r + 7 + 3 * π nk + 1) 0 v) (r + 7 + 3 * π nk + 1) 1 w) (r + 7 + 3 * π nk + 1) 2 x) (r + 7 + 3 * π nk + 1) 3 y) q 3 = nI e' := fun v w x y => by rw [u2_off _ _ _ hqd, u2_off _ _ _ hqd, u2_off _ _ _ hqd, u2_off _ _ _ hqd]; exact n3
    have main : Wp S N d MX7_addCredit 86 [some (.ref r), some (.int (nI kd)), some (.ref q), some (.int (bI e)), some (.ref (r + 7 + 3 * π nk)), none] [] (u2 (u2 (u2 (u2 (u2 (u2 I (r + 7 + 3 * π nk + 1) 0 (nI kd)) (r + 7 + 3 * π nk + 1) 1 (nI a)) (r + 7 + 3 * π nk + 1) 2 (nI b)) (r + 7 + 3 * π nk + 1) 3 (nI c)) (r + 7 + 3 * π nk + 1) 4 (nI e')) (r + 7 + 3 * π nk + 1) 5 (bI e)) J P Q := by
      obtain ⟨I5, hI5⟩ : ∃ I5, I5 = u2 (u2 (u2 (u2 (u2 (u2 I (r + 7 + 3 * π nk + 1) 0 (nI kd)) (r + 7 + 3 * π nk + 1) 1 (nI a)) (r + 7 + 3 * π nk + 1) 2 (nI b)) (r + 7 + 3 * π nk + 1) 3 (nI c)) (r + 7 + 3 * π nk + 1) 4 (nI e')) (r + 7 + 3 * π nk + 1) 5 (bI e) := ⟨_, rfl⟩
      rw [← hI5]
      have f5 : ∀ x, x ≠ r + 7 + 3 * π nk + 1 → I5 x = I x := fun x hx => by rw [hI5, u2_off _ _ _ hx, u2_off _ _ _ hx, u2_off _ _ _ hx, u2_off _ _ _ hx, u2_off _ _ _ hx, u2_off _ _ _ hx]
      have v0 : I5 (r + 7 + 3 * π nk + 1) 0 = nI kd := by rw [hI5]; simp [u2]
      have v1 : I5 (r + 7 + 3 * π nk + 1) 1 = nI a := by rw [hI5]; simp [u2]
      have v2 : I5 (r + 7 + 3 * π nk + 1) 2 = nI b := by rw [hI5]; simp [u2]
      have v3 : I5 (r + 7 + 3 * π nk + 1) 3 = nI c := by rw [hI5]; simp [u2]
      have v4 : I5 (r + 7 + 3 * π nk + 1) 4 = nI e' := by rw [hI5]; simp [u2]
      have v5 : I5 (r + 7 + 3 * π nk + 1) 5 = bI e := by rw [hI5]; simp [u2]
      simp only [e_X7_addCredit_86, e_X7_addCredit_87, true_and, and_true, rf_s, not_true_eq_false, not_false_eq_true, true_implies, false_implies, kl_i, kl_n, kl_l, kl_r, Option.toList, List.cons_append, List.nil_append, if_true, if_false, u2s, lt00, lt01, lt02, lt03, le10, le20, le30, ne10, ne20, ne30, eq00]
      refine ac_loop hs h6 6 0 rfl J (fun J1 a1 a2 _ => ?_)
      have e7' : I5 r 7 = nI nk := by rw [f5 r (by omega)]; exact e7
      have w2 : ∀ v : Int32, (u2 I5 r 7 v) (r + 7 + 3 * π nk + 1) 2 = nI b := fun v => by rw [u2_off _ _ _ (by omega)]; exact v2
      have w4 : ∀ v : Int32, (u2 I5 r 7 v) (r + 7 + 3 * π nk + 1) 4 = nI e' := fun v => by rw [u2_off _ _ _ (by omega)]; exact v4
      have fin := hq (u2 I5 r 7 (nI (nk + 1))) J1 (!(decide (999 < b) || decide (999 < e'))) (fun x hx => ⟨by rw [u2_off _ _ _ (by omega), f5 x (by omega)], a1 x (by omega)⟩) (fun z => ?_) ⟨?_, ⟨nk + 1, by omega, u2s _ _ _ _⟩, fun z => ?_⟩
      · by_cases hb : 999 < b
        · have g2 : (999 : Int32) < nI b := nI_lt (a := 999) hb (by omega)
          rw [decide_eq_true hb, Bool.true_or] at fin
          simp only [e_X7_addCredit_111, e_X7_addCredit_112, e_X7_addCredit_113, e_X7_addCredit_116, e_X7_addCredit_117, e_X7_addCredit_118, e_X7_addCredit_121, e_X7_addCredit_123, e_X7_addCredit_126, e_X7_addCredit_127, e_X7_addCredit_128, e_X7_addCredit_131, e_X7_addCredit_134, e_X7_addCredit_136, e_X7_addCredit_139, e_X7_addCredit_140, e_X7_addCredit_141, e_X7_addCredit_144, e_X7_addCredit_147, e_X7_addCredit_148, e_X7_addCredit_151, e_X7_addCredit_152 isB0, e_X7_addCredit_152 isB1, e_X7_addCredit_152 isB_ite, hs', c1, e7', w2, g2, nI_1, cl_2, cl_4, vl6_2, vl6_4, true_and, and_true, rf_s, not_true_eq_false, not_false_eq_true, true_implies, false_implies, kl_i, kl_n, kl_l, kl_r, Option.toList, List.cons_append, List.nil_append, if_true, if_false, u2s, lt00, lt01, lt02, lt03, le10, le20, le30, ne10, ne20, ne30, eq00]
          exact fin
        · have g2 : ¬ (999 : Int32) < nI b := nI_nlt (a := 999) (b := b) (by omega) (by decide)
          rw [decide_eq_false hb, Bool.false_or] at fin
          by_cases he : 999 < e'
          · have g3 : (999 : Int32) < nI e' := nI_lt (a := 999) he (by omega)
            rw [decide_eq_true he] at fin
            simp only [e_X7_addCredit_111, e_X7_addCredit_112, e_X7_addCredit_113, e_X7_addCredit_116, e_X7_addCredit_117, e_X7_addCredit_118, e_X7_addCredit_121, e_X7_addCredit_123, e_X7_addCredit_126, e_X7_addCredit_127, e_X7_addCredit_128, e_X7_addCredit_131, e_X7_addCredit_134, e_X7_addCredit_136, e_X7_addCredit_139, e_X7_addCredit_140, e_X7_addCredit_141, e_X7_addCredit_144, e_X7_addCredit_147, e_X7_addCredit_148, e_X7_addCredit_151, e_X7_addCredit_152 isB0, e_X7_addCredit_152 isB1, e_X7_addCredit_152 isB_ite, hs', c1, e7', w2, w4, g2, g3, nI_1, cl_2, cl_4, vl6_2, vl6_4, true_and, and_true, rf_s, not_true_eq_false, not_false_eq_true, true_implies, false_implies, kl_i, kl_n, kl_l, kl_r, Option.toList, List.cons_append, List.nil_append, if_true, if_false, u2s, lt00, lt01, lt02, lt03, le10, le20, le30, ne10, ne20, ne30, eq00]
            exact fin
          · have g3 : ¬ (999 : Int32) < nI e' := nI_nlt (a := 999) (b := e') (by omega) (by decide)
            rw [decide_eq_false he] at fin
            simp only [e_X7_addCredit_111, e_X7_addCredit_112, e_X7_addCredit_113, e_X7_addCredit_116, e_X7_addCredit_117, e_X7_addCredit_118, e_X7_addCredit_121, e_X7_addCredit_123, e_X7_addCredit_126, e_X7_addCredit_127, e_X7_addCredit_128, e_X7_addCredit_131, e_X7_addCredit_134, e_X7_addCredit_136, e_X7_addCredit_139, e_X7_addCredit_140, e_X7_addCredit_141, e_X7_addCredit_144, e_X7_addCredit_147, e_X7_addCredit_148, e_X7_addCredit_151, e_X7_addCredit_152 isB0, e_X7_addCredit_152 isB1, e_X7_addCredit_152 isB_ite, hs', c1, e7', w2, w4, g2, g3, nI_1, cl_2, cl_4, vl6_2, vl6_4, true_and, and_true, rf_s, not_true_eq_false, not_false_eq_true, true_implies, false_implies, kl_i, kl_n, kl_l, kl_r, Option.toList, List.cons_append, List.nil_append, if_true, if_false, u2s, lt00, lt01, lt02, lt03, le10, le20, le30, ne10, ne20, ne30, eq00]
            exact fin
      · obtain ⟨nb, nc', nk', ⟨b1, b2, b3⟩, ⟨⟨r1, r4, r7⟩, -⟩, t0, t18, t27⟩ := d3 z
        have : nk' = nk := (nI_eq (by omega) (by omega)).mp (r7.symm.trans e7)
        subst this
        rw [eO t27.1 b3, decide_eq_true h6, Bool.not_true, Bool.or_false]
      · obtain ⟨nc, k1, k2⟩ := d1
        exact ⟨nc, k1, by rw [u2k _ _ _ (by decide), f5 r (by omega)]; exact k2⟩
      · have zo : o = false := by
          cases o
          · rfl
          · simp at z
        obtain ⟨nb, nc', nk', ⟨b1, b2, b3⟩, hrul, t0, t18, t27, tz⟩ := d3 zo
        obtain ⟨⟨r1, r4, r7⟩, r2, r3, r5, r6⟩ := id hrul
        have : nk' = nk := (nI_eq (by omega) (by omega)).mp (r7.symm.trans e7)
        subst this
        have eG : ∀ y, ItG (4 + kd) [a, b, c, e'] e t y = if y = 27 then nI (nk' + 1) else if y = 33 + 6 * nk' then bI e else if y = 28 + 6 * nk' then nI kd else if y = 29 + 6 * nk' + 3 then nI e' else if y = 29 + 6 * nk' + 2 then nI c else if y = 29 + 6 * nk' + 1 then nI b else if y = 29 + 6 * nk' then nI a else t y := fun y => by
          unfold ItG
          rw [if_neg (by omega), if_neg (by omega), if_neg (by omega), if_neg (by omega), t27, nI_clamp (by omega), if_pos h6, Nat.add_sub_cancel_left]
          rfl
        have eG0 : ∀ y, y < 27 ∨ (27 < y ∧ y < 28 + 6 * nk') → ItG (4 + kd) [a, b, c, e'] e t y = t y := fun y hy => by
          rw [eG, if_neg (by omega), if_neg (by omega), if_neg (by omega), if_neg (by omega), if_neg (by omega), if_neg (by omega), if_neg (by omega)]
        refine ⟨nb, nc', nk' + 1, ⟨b1, b2, by omega⟩, ⟨⟨?_, ?_, u2s _ _ _ _⟩, fun k hk => ?_, fun j hj => ?_, fun k hk => ?_, fun k hk => ⟨fun x hx => ?_, fun p hp => ?_⟩⟩, ?_, ?_, ?_, fun p k h1 h2 h3 => tz p k h1 (by omega) h3⟩
        · rw [u2k _ _ _ (by decide), f5 r (by omega)]; exact r1
        · rw [u2k _ _ _ (by decide), f5 r (by omega)]; exact r4
        · rw [u2_off _ _ _ (show r + 1 ≠ r by omega), u2_off _ _ _ (show r + 2 ≠ r by omega), f5 _ (by omega), f5 _ (by omega), eG0 _ (by omega), eG0 _ (by omega)]; exact r2 k hk
        · rw [u2_off _ _ _ (by omega), f5 _ (by omega), eG0 _ (by omega)]; exact r3 j hj
        · rw [u2_off _ _ _ (show r + 4 ≠ r by omega), u2_off _ _ _ (show r + 5 ≠ r by omega), f5 _ (by omega), f5 _ (by omega), eG0 _ (by omega), eG0 _ (by omega)]; exact r5 k hk
        · have pk := (hs.2.2.2.2.1 k (by omega)).1
          by_cases hkn : k = nk'
          · subst hkn
            rw [u2_off _ _ _ (by omega), show r + 8 + 3 * π k = r + 7 + 3 * π k + 1 by omega, eG]
            rcases (show x = 0 ∨ x = 1 ∨ x = 2 ∨ x = 3 ∨ x = 4 ∨ x = 5 by omega) with rfl | rfl | rfl | rfl | rfl | rfl
            · rw [v0, if_neg (by omega), if_neg (by omega), if_pos (by omega)]
            · rw [v1, if_neg (by omega), if_neg (by omega), if_neg (by omega), if_neg (by omega), if_neg (by omega), if_neg (by omega), if_pos (by omega)]
            · rw [v2, if_neg (by omega), if_neg (by omega), if_neg (by omega), if_neg (by omega), if_neg (by omega), if_pos (by omega)]
            · rw [v3, if_neg (by omega), if_neg (by omega), if_neg (by omega), if_neg (by omega), if_pos (by omega)]
            · rw [v4, if_neg (by omega), if_neg (by omega), if_neg (by omega), if_pos (by omega)]
            · rw [v5, if_neg (by omega), if_pos (by omega)]
          · have hpi : π k ≠ π nk' := fun z => hkn (hs.2.2.2.2.2.1 k nk' (by omega) h6 z)
            rw [u2_off _ _ _ (by omega), f5 _ (by omega), eG0 _ (by omega)]
            exact (r6 k (by omega)).1 x hx
        · have pk := (hs.2.2.2.2.1 k (by omega)).1
          by_cases hkn : k = nk'
          · subst hkn
            rw [a2 p (Nat.zero_le _) hp]
            exact (tz p k hp (Nat.le_refl k) (by omega)).symm
          · have hpi : π k ≠ π nk' := fun z => hkn (hs.2.2.2.2.2.1 k nk' (by omega) h6 z)
            rw [a1 _ (by omega)]
            exact (r6 k (by omega)).2 p hp
        · rw [eG0 _ (by omega)]; exact t0
        · rw [eG0 _ (by omega)]; exact t18
        · rw [eG, if_pos rfl]
    cases e with
    | true =>
      have e8 : bI true = 1 := rfl
      rw [e8] at main ⊢
      simp only [e_X7_addCredit_0, e_X7_addCredit_1, e_X7_addCredit_4, e_X7_addCredit_6, e_X7_addCredit_9, e_X7_addCredit_10 isB0, e_X7_addCredit_10 isB1, e_X7_addCredit_10 isB_ite, e_X7_addCredit_11, e_X7_addCredit_12, e_X7_addCredit_15, e_X7_addCredit_16, e_X7_addCredit_19, e_X7_addCredit_20, e_X7_addCredit_22, e_X7_addCredit_24, e_X7_addCredit_27, e_X7_addCredit_28, e_X7_addCredit_29, e_X7_addCredit_30, e_X7_addCredit_32, e_X7_addCredit_35, e_X7_addCredit_36, e_X7_addCredit_37, e_X7_addCredit_38, e_X7_addCredit_39, e_X7_addCredit_40, e_X7_addCredit_42, e_X7_addCredit_45, e_X7_addCredit_46, e_X7_addCredit_47, e_X7_addCredit_48, e_X7_addCredit_49, e_X7_addCredit_50, e_X7_addCredit_52, e_X7_addCredit_55, e_X7_addCredit_56, e_X7_addCredit_57, e_X7_addCredit_58, e_X7_addCredit_59, e_X7_addCredit_60, e_X7_addCredit_62, e_X7_addCredit_65, e_X7_addCredit_66, e_X7_addCredit_67, e_X7_addCredit_68, e_X7_addCredit_69, e_X7_addCredit_70, e_X7_addCredit_72, e_X7_addCredit_75, e_X7_addCredit_76, e_X7_addCredit_77, e_X7_addCredit_80, e_X7_addCredit_81, e_X7_addCredit_84, e_X7_addCredit_85, hs', hq1, hq2, c1, p2, e7, g1, ne10, n0, n1, n2, n3, m1, m2, m3, m4, cl_0, cl_1, cl_2, cl_3, cl_4, cl_5, vl6_0, vl6_1, vl6_2, vl6_3, vl6_4, vl6_5, vl80_0, vl80_1, vl80_2, vl80_3, nI_clamp (show nk < 2 ^ 31 by omega), vpn h6 (by decide), true_or, or_true, true_and, and_true, rf_s, not_true_eq_false, not_false_eq_true, true_implies, false_implies, kl_i, kl_n, kl_l, kl_r, Option.toList, List.cons_append, List.nil_append, if_true, if_false, u2s, lt00, lt01, lt02, lt03, le10, le20, le30, ne10, ne20, ne30, eq00]
      exact main
    | false =>
      have e8 : bI false = 0 := rfl
      rw [e8] at main ⊢
      simp only [e_X7_addCredit_0, e_X7_addCredit_1, e_X7_addCredit_4, e_X7_addCredit_6, e_X7_addCredit_9, e_X7_addCredit_10 isB0, e_X7_addCredit_10 isB1, e_X7_addCredit_10 isB_ite, e_X7_addCredit_11, e_X7_addCredit_12, e_X7_addCredit_15, e_X7_addCredit_16, e_X7_addCredit_19, e_X7_addCredit_20, e_X7_addCredit_22, e_X7_addCredit_24, e_X7_addCredit_27, e_X7_addCredit_28, e_X7_addCredit_29, e_X7_addCredit_30, e_X7_addCredit_32, e_X7_addCredit_35, e_X7_addCredit_36, e_X7_addCredit_37, e_X7_addCredit_38, e_X7_addCredit_39, e_X7_addCredit_40, e_X7_addCredit_42, e_X7_addCredit_45, e_X7_addCredit_46, e_X7_addCredit_47, e_X7_addCredit_48, e_X7_addCredit_49, e_X7_addCredit_50, e_X7_addCredit_52, e_X7_addCredit_55, e_X7_addCredit_56, e_X7_addCredit_57, e_X7_addCredit_58, e_X7_addCredit_59, e_X7_addCredit_60, e_X7_addCredit_62, e_X7_addCredit_65, e_X7_addCredit_66, e_X7_addCredit_67, e_X7_addCredit_68, e_X7_addCredit_69, e_X7_addCredit_70, e_X7_addCredit_72, e_X7_addCredit_75, e_X7_addCredit_76, e_X7_addCredit_77, e_X7_addCredit_80, e_X7_addCredit_81, e_X7_addCredit_84, e_X7_addCredit_85, hs', hq1, hq2, c1, p2, e7, g1, ne10, n0, n1, n2, n3, m1, m2, m3, m4, cl_0, cl_1, cl_2, cl_3, cl_4, cl_5, vl6_0, vl6_1, vl6_2, vl6_3, vl6_4, vl6_5, vl80_0, vl80_1, vl80_2, vl80_3, nI_clamp (show nk < 2 ^ 31 by omega), vpn h6 (by decide), true_or, or_true, true_and, and_true, rf_s, not_true_eq_false, not_false_eq_true, true_implies, false_implies, kl_i, kl_n, kl_l, kl_r, Option.toList, List.cons_append, List.nil_append, if_true, if_false, u2s, lt00, lt01, lt02, lt03, le10, le20, le30, ne10, ne20, ne30, eq00]
      exact main
  · have g1 : ¬ nI nk < (6 : Int32) := nI_nlt (b := 6) (a := nk) (by omega) (by omega)
    simp only [e_X7_addCredit_0, e_X7_addCredit_1, e_X7_addCredit_4, e_X7_addCredit_6, e_X7_addCredit_9, e_X7_addCredit_10 isB0, e_X7_addCredit_10 isB1, e_X7_addCredit_10 isB_ite, hs', e7, g1, true_and, and_true, rf_s, not_true_eq_false, not_false_eq_true, true_implies, false_implies, kl_i, kl_n, kl_l, kl_r, Option.toList, List.cons_append, List.nil_append, if_true, if_false, u2s, lt00, lt01, lt02, lt03, le10, le20, le30, ne10, ne20, ne30, eq00]
    refine hq I J false (fun _ _ => ⟨rfl, rfl⟩) (fun z => ?_) ⟨d1, ⟨nk, hnk, e7⟩, fun z => ?_⟩
    · obtain ⟨nb, nc', nk', ⟨b1, b2, b3⟩, ⟨⟨r1, r4, r7⟩, -⟩, t0, t18, t27⟩ := d3 z
      have : nk' = nk := (nI_eq (by omega) (by omega)).mp (r7.symm.trans e7)
      subst this
      rw [eO t27.1 b3, decide_eq_false h6, Bool.not_false, Bool.or_true]; rfl
    · exfalso
      have zo : o = false := by
        cases o
        · rfl
        · simp at z
      obtain ⟨nb, nc', nk', ⟨b1, b2, b3⟩, ⟨⟨r1, r4, r7⟩, -⟩, t0, t18, t27⟩ := d3 zo
      have : nk' = nk := (nI_eq (by omega) (by omega)).mp (r7.symm.trans e7)
      subst this
      rw [zo, eO t27.1 b3, decide_eq_false h6, Bool.not_false, Bool.or_true] at z
      cases z
end KTB

/-! the workbench closes a year -/
theorem Trs_cg {g : Nat → Int32} {nb nc : Nat} {br br' : Nat → Int64} {e x dd f : Int32} : ∀ n, (∀ k, k < n → br k = br' k) → Trs g nb nc br e x dd f n = Trs g nb nc br' e x dd f n
  | 0, _ => rfl
  | n + 1, h => by
    rw [Trs, Trs, Trs_cg n (fun k hk => h k (by omega))]
    unfold Tuse Tmay
    rw [h n (by omega)]
theorem Tun_cg {g : Nat → Int32} {nb nc : Nat} {br br' : Nat → Int64} {e x dd f : Int32} {k kind : Nat} (h : ∀ j, j ≤ k → br j = br' j) : Tun g nb nc br e x dd f k kind = Tun g nb nc br' e x dd f k kind := by
  unfold Tun
  rw [Trs_cg k (fun j hj => h j (by omega)), h k (Nat.le_refl k)]
  unfold Tuse Tmay
  rw [h k (Nat.le_refl k)]
def HN (g : Nat → Int32) (h : Nat → Int64) (nb nc nk p : Nat) : Nat → Int64 := fun y => if Fst g (y / 6) < p then Nx g h nb nc nk (y / 6) (y % 6) else h y
theorem HN_at {g : Nat → Int32} {h : Nat → Int64} {nb nc nk p r k : Nat} (hk : k < 6) : HN g h nb nc nk p (6 * r + k) = if Fst g r < p then Nx g h nb nc nk r k else h (6 * r + k) := by
  unfold HN
  rw [show (6 * r + k) / 6 = r by omega, show (6 * r + k) % 6 = k by omega]
theorem HN_1 {g : Nat → Int32} {h : Nat → Int64} {nb nc nk p r k : Nat} (hk : k < 6) (hr : ¬ Fst g r < p) : Br1 (HN g h nb nc nk p) r k = Br1 h r k := by
  unfold Br1
  rw [HN_at hk, if_neg hr]
theorem HN_2 {g : Nat → Int32} {h : Nat → Int64} {nb nc nk p r q k : Nat} (hk : k < 6) (hr : ¬ Fst g r < p) (hq : ¬ Fst g q < p) : Br2 (HN g h nb nc nk p) r q k = Br2 h r q k := by
  unfold Br2
  rw [HN_at hk, HN_at hk, if_neg hr, if_neg hq]
theorem HN_A {g : Nat → Int32} {h : Nat → Int64} {nb nc nk p r : Nat} {dd : Int32} (hnk : nk ≤ 6) (hr : ¬ Fst g r < p) : TxA g (HN g h nb nc nk p) nb nc nk r dd = TxA g h nb nc nk r dd := Trs_cg nk (fun k hk => HN_1 (by omega) hr)
theorem HN_J {g : Nat → Int32} {h : Nat → Int64} {nb nc nk p r q : Nat} (hnk : nk ≤ 6) (hr : ¬ Fst g r < p) (hq : ¬ Fst g q < p) : TxJ g (HN g h nb nc nk p) nb nc nk r q = TxJ g h nb nc nk r q := Trs_cg nk (fun k hk => HN_2 (by omega) hr hq)
theorem HN_D {g : Nat → Int32} {h : Nat → Int64} {nb nc nk p r q : Nat} (hnk : nk ≤ 6) (hr : ¬ Fst g r < p) (hq : ¬ Fst g q < p) : Tdv g (HN g h nb nc nk p) nb nc nk r q = Tdv g h nb nc nk r q := by
  unfold Tdv
  congr 1
  funext i
  unfold TxS
  rw [HN_A hnk hr, HN_A hnk hq]
section WT5
variable {S N : Nat → Nat} {d : Nat} {I : IM} {J : JM} {P : PM} {Q : Option Value → IM → JM → PM → Prop} {x : Nat} {πd π πs : Nat → Nat} {πh : Nat → Nat → Nat} {g : Nat → Int32} {h : Nat → Int64} {nb nc nk pn o : Nat} {G : Nat → Nat → Int32} {H : Nat → Nat → Int64}
def Fz (x : Nat) (I I' : IM) (J J' : JM) : Prop := ∀ a, a < x + 29 ∨ (x + 59 ≤ a ∧ a < x + 271) ∨ x + 303 ≤ a → I' a = I a ∧ J' a = J a
theorem Fz.tr {I I' I'' : IM} {J J' J'' : JM} (h1 : Fz x I I' J J') (h2 : Fz x I' I'' J' J'') : Fz x I I'' J J'' := fun a ha => ⟨(h2 a ha).1.trans (h1 a ha).1, (h2 a ha).2.trans (h1 a ha).2⟩
theorem Fz.y {I I' : IM} {J J' : JM} (h : Fz x I I' J J') : Fy x I I' J J' := fun a ha => h a (by omega)
theorem cl_step {I' : IM} {J' : JM} (hw : WbS S N P x πd π πs πh) (hg : Gd g nb nc nk) (hA : CpA g) {p : Nat} (hp : p < 6) (hr : Led I' J' (x + 29) π g (HN g h nb nc nk p) nb nc nk) (hno : ∀ r, r < 6 → Fst g r ≠ p) : Led I' J' (x + 29) π g (HN g h nb nc nk (p + 1)) nb nc nk := by
  refine hr.cg hg.cb (fun _ _ => rfl) (fun r k hr6 hk => ?_)
  have hnk := hg.1.2.2.1
  rw [HN_at (by omega), HN_at (by omega)]
  have := hno r hr6
  by_cases hf : Fst g r < p
  · rw [if_pos hf, if_pos (by omega)]
  · rw [if_neg hf, if_neg (by omega)]
theorem cy8_loop (hw : WbS S N P x πd π πs πh) (hg : Gd g nb nc nk) : ∀ (n p : Nat), p + n = 6 → ∀ (I : IM) (J : JM), Led I J (x + 29) π g (HN g h nb nc nk p) nb nc nk → (∀ I' J', Fz x I I' J J' → Led I' J' (x + 29) π g (HN g h nb nc nk 6) nb nc nk → Wp S N (d + 5) MX8_closeYear 97 [some (.ref x), some (.int (nI 6))] [] I' J' P Q) →
    Wp S N (d + 5) MX8_closeYear 13 [some (.ref x), some (.int (nI p))] [] I J P Q := by
  have hw' := hw.f
  have hl' := hw.le.f
  have hA := hg.2.1
  have hnk := hg.1.2.2.1
  intro n
  induction n with
  | zero =>
    intro p hp I J hr hq
    have hp : p = 6 := by omega
    subst hp
    have g1 : (6 : Int32) ≤ nI 6 := by decide
    simp only [e_X8_closeYear_13, e_X8_closeYear_14, e_X8_closeYear_16, g1, true_and, and_true, rf_s, not_true_eq_false, not_false_eq_true, true_implies, false_implies, kl_i, kl_n, kl_l, kl_r, Option.toList, List.cons_append, List.nil_append, if_true, if_false, u2s, lt00, lt01, lt02, lt03, le10, le20, le30, ne10, ne20, ne30, eq00]
    exact hq I J (fun _ _ => ⟨rfl, rfl⟩) hr
  | succ n ih =>
    intro p hp I J hr hq
    have hp6 : p < 6 := by omega
    have g1 : ¬ (6 : Int32) ≤ nI p := nI_ge (b := 6) hp6 (by decide)
    have hpt := led_partner hr hp6
    rw [e_X8_closeYear_13]
    rcases hA p hp6 with h1 | ⟨q, hcp⟩
    · have hF : Fst g p = p := by unfold Fst; rw [if_pos (by rw [h1]; decide)]
      have hlt : g (82 + p) < 0 := by rw [h1]; decide
      have hs7 := hw.le.r.1
      simp only [e_X8_closeYear_14, e_X8_closeYear_16, e_X8_closeYear_19, e_X8_closeYear_20, e_X8_closeYear_23, e_X8_closeYear_26, e_X8_closeYear_27, e_X8_closeYear_28, e_X8_closeYear_29, e_X8_closeYear_32, e_X8_closeYear_33, e_X8_closeYear_36, e_X8_closeYear_39, e_X8_closeYear_40, e_X8_closeYear_41, e_X8_closeYear_42, g1, hw', hl', nI_clamp (show p < 2 ^ 31 by omega), vpn hp6 (by decide), hpt, h1, true_and, and_true, rf_s, not_true_eq_false, not_false_eq_true, true_implies, false_implies, kl_i, kl_n, kl_l, kl_r, Option.toList, List.cons_append, List.nil_append, if_true, if_false, u2s, lt00, lt01, lt02, lt03, le10, le20, le30, ne10, ne20, ne30, eq00]
      refine k_assess (d := d + 1) hw hg hr hp6 (fun I1 J1 f1 f2 f3 f4 f5 => ?_)
      simp only [e_X8_closeYear_45, hs7, true_and, and_true, rf_s, not_true_eq_false, not_false_eq_true, true_implies, false_implies, kl_i, kl_n, kl_l, kl_r, Option.toList, List.cons_append, List.nil_append, if_true, if_false, u2s, lt00, lt01, lt02, lt03, le10, le20, le30, ne10, ne20, ne30, eq00]
      refine k_carryOn (d := d + 4) hw.le.r hw.as (by omega) hnk f5.1.1.2.2 hp6 (fun J2 a1 a2 => ?_)
      simp only [e_X8_closeYear_48, e_X8_closeYear_91, e_X8_closeYear_94, nI_1, true_and, and_true, rf_s, not_true_eq_false, not_false_eq_true, true_implies, false_implies, kl_i, kl_n, kl_l, kl_r, Option.toList, List.cons_append, List.nil_append, if_true, if_false, u2s, lt00, lt01, lt02, lt03, le10, le20, le30, ne10, ne20, ne30, eq00]
      refine ih (p + 1) (by omega) I1 J2 (f5.carry hw.le hg.cb hp6 (v := fun k => J1 (x + 271 + 4 + k) 3) (fun j q hj hq6 => a2 j q hj hq6) (fun r k hr6 hk => ?_)) (fun I3 J3 b1 b2 => hq I3 J3 (Fz.tr (fun a ha => ⟨(f1 a (by omega)).1, (a1 a (by omega)).trans (f1 a (by omega)).2⟩) b1) b2)
      rw [HN_at (by omega), HN_at (by omega)]
      by_cases hrp : r = p
      · subst hrp
        rw [if_pos (by omega), if_pos rfl, f4 k 3 hk (by decide)]
        have e3 : ∀ (br : Nat → Int64) (e x dd f : Int32), Tct g nb nc br e x dd f k 3 = Tun g nb nc br e x dd f k 2 := fun _ _ _ _ _ => rfl
        rw [e3]
        unfold Nx
        rw [if_pos hlt]
        exact (Tun_cg (fun j hj => HN_1 (by omega) (by omega))).symm
      · rw [if_neg hrp]
        have hne : Fst g r ≠ p := fun z => by
          have := (Fst_other hA hr6 hp6 hrp z).1.ge
          rw [h1] at this
          exact absurd this (by decide)
        by_cases hf : Fst g r < p
        · rw [if_pos hf, if_pos (by omega)]
        · rw [if_neg hf, if_neg (by omega)]
    · have hge := hcp.ge
      have hlt : ¬ g (82 + p) < 0 := Int32.not_lt.mpr hge
      have hgq := hcp.2.2.2.1
      have hq6 := hcp.2.1
      have hne : ¬ nI q = -1 := fun z => by
        rw [hgq, z] at hlt
        exact hlt (by decide)
      have hFp : Fst g p = lo p q := by unfold Fst; rw [if_neg hlt, hcp.to]
      by_cases hqp : q < p
      · have e1 : ¬ Fst g p = p := by rw [hFp]; unfold lo; rw [if_pos hqp]; omega
        simp only [e_X8_closeYear_14, e_X8_closeYear_16, e_X8_closeYear_19, e_X8_closeYear_20, e_X8_closeYear_23, e_X8_closeYear_26, e_X8_closeYear_27, e_X8_closeYear_28, e_X8_closeYear_29, e_X8_closeYear_51, e_X8_closeYear_52, e_X8_closeYear_53, g1, hw', hl', nI_clamp (show p < 2 ^ 31 by omega), vpn hp6 (by decide), hpt, hgq, hne, k_isSecond hw hg hr hp6, true_and, and_true, rf_s, not_true_eq_false, not_false_eq_true, true_implies, false_implies, kl_i, kl_n, kl_l, kl_r, Option.toList, List.cons_append, List.nil_append, if_true, if_false, u2s, lt00, lt01, lt02, lt03, le10, le20, le30, ne10, ne20, ne30, eq00]
        simp only [e_X8_closeYear_56, e_X8_closeYear_91, e_X8_closeYear_94, if_neg e1, ne10, nI_1, true_and, and_true, rf_s, not_true_eq_false, not_false_eq_true, true_implies, false_implies, kl_i, kl_n, kl_l, kl_r, Option.toList, List.cons_append, List.nil_append, if_true, if_false, u2s, lt00, lt01, lt02, lt03, le10, le20, le30, ne10, ne20, ne30, eq00]
        refine ih (p + 1) (by omega) I J (cl_step hw hg hA hp6 hr (fun r hr6 z => ?_)) hq
        by_cases hrp : r = p
        · exact e1 (hrp ▸ z)
        · obtain ⟨c1, c2⟩ := Fst_other hA hr6 hp6 hrp z
          exact e1 (Fst_cp c1 c2).1
      · have e1 : Fst g p = p := by rw [hFp]; unfold lo; rw [if_neg hqp]
        have hpq : p < q := by have := hcp.2.2.1; omega
        obtain ⟨-, eq2⟩ := Fst_cp hcp hpq
        have hlo : lo p q = p := by unfold lo; rw [if_neg hqp]
        have hhi : hi p q = q := by unfold hi; rw [if_neg hqp]
        have nfp : ¬ Fst g p < p := by omega
        have nfq : ¬ Fst g q < p := by omega
        have hco := hw.co.1
        simp only [e_X8_closeYear_14, e_X8_closeYear_16, e_X8_closeYear_19, e_X8_closeYear_20, e_X8_closeYear_23, e_X8_closeYear_26, e_X8_closeYear_27, e_X8_closeYear_28, e_X8_closeYear_29, e_X8_closeYear_51, e_X8_closeYear_52, e_X8_closeYear_53, g1, hw', hl', nI_clamp (show p < 2 ^ 31 by omega), vpn hp6 (by decide), hpt, hgq, hne, k_isSecond hw hg hr hp6, true_and, and_true, rf_s, not_true_eq_false, not_false_eq_true, true_implies, false_implies, kl_i, kl_n, kl_l, kl_r, Option.toList, List.cons_append, List.nil_append, if_true, if_false, u2s, lt00, lt01, lt02, lt03, le10, le20, le30, ne10, ne20, ne30, eq00]
        simp only [e_X8_closeYear_56, e_X8_closeYear_59, e_X8_closeYear_60, e_X8_closeYear_63, e_X8_closeYear_64, e_X8_closeYear_67, e_X8_closeYear_68, e_X8_closeYear_69, e_X8_closeYear_72, e_X8_closeYear_75, e_X8_closeYear_76, e_X8_closeYear_77, if_pos e1, g1, hw', hl', hco, nI_clamp (show p < 2 ^ 31 by omega), vpn hp6 (by decide), hpt, hgq, true_and, and_true, rf_s, not_true_eq_false, not_false_eq_true, true_implies, false_implies, kl_i, kl_n, kl_l, kl_r, Option.toList, List.cons_append, List.nil_append, if_true, if_false, u2s, lt00, lt01, lt02, lt03, le10, le20, le30, ne10, ne20, ne30, eq00]
        refine k_settleC (d := d) hw hg hr hcp (fun I1 J1 f1 f2 f3 => ?_)
        rw [hlo, hhi] at f3
        simp only [e_X8_closeYear_80, e_X8_closeYear_81, e_X8_closeYear_84, e_X8_closeYear_85, e_X8_closeYear_88, hw', hco, true_and, and_true, rf_s, not_true_eq_false, not_false_eq_true, true_implies, false_implies, kl_i, kl_n, kl_l, kl_r, Option.toList, List.cons_append, List.nil_append, if_true, if_false, u2s, lt00, lt01, lt02, lt03, le10, le20, le30, ne10, ne20, ne30, eq00]
        refine k_carryBoth (d := d + 1) (h' := HN g h nb nc nk (p + 1)) hw.co hw.le (by omega) hg f2 hp6 hq6 hcp.2.2.1 f3 (fun r k hr6 hk => ?_) (fun I2 J2 a1 a2 => ?_)
        · rw [HN_J hnk nfp nfq, HN_D hnk nfp nfq, HN_at (by omega)]
          have hcs := hcp.2.2.2.2.1
          have hgep : 0 ≤ g (82 + q) := by rw [hcs]; exact nI_pos' (by omega)
          have hltq : ¬ g (82 + q) < 0 := Int32.not_lt.mpr hgep
          have htoq : (g (82 + q)).toNatClampNeg = p := by rw [hcs]; exact nI_clamp (by omega)
          have hloq : lo q p = p := by unfold lo; rw [if_pos hpq]
          have hhiq : hi q p = q := by unfold hi; rw [if_pos hpq]
          by_cases hrp : r = p
          · subst hrp
            rw [if_pos (by omega)]
            unfold Nx
            rw [if_neg hlt, hcp.to, hlo, hhi, if_pos e1, if_pos e1]
            by_cases ht : TxJ g h nb nc nk r q < (Tdv g h nb nc nk r q).1
            · rw [if_pos ht, if_pos ht, if_pos rfl]
              exact Tun_cg (fun j hj => (HN_2 (by omega) nfp nfq).symm)
            · rw [if_neg ht, if_neg ht, if_pos rfl]
              exact Tun_cg (fun j hj => (HN_1 (by omega) nfp).symm)
          · by_cases hrq : r = q
            · subst hrq
              rw [if_pos (by omega)]
              unfold Nx
              rw [if_neg hltq, htoq, hloq, hhiq, if_neg (show ¬ Fst g r = r by omega), if_neg (show ¬ Fst g r = r by omega)]
              by_cases ht : TxJ g h nb nc nk p r < (Tdv g h nb nc nk p r).1
              · rw [if_pos ht, if_pos ht, if_neg hrp, if_pos rfl]
              · rw [if_neg ht, if_neg ht, if_neg hrp, if_pos rfl]
                exact Tun_cg (fun j hj => (HN_1 (by omega) nfq).symm)
            · have hne2 : Fst g r ≠ p := fun z => by
                obtain ⟨c1, c2⟩ := Fst_other hA hr6 hp6 hrp z
                have c3 := c1.2.2.2.1
                rw [hgq] at c3
                exact hrq ((nI_eq (by omega) (by omega)).mp c3).symm
              have e5 : (if Fst g r < p + 1 then Nx g h nb nc nk r k else h (6 * r + k)) = HN g h nb nc nk p (6 * r + k) := by
                rw [HN_at (by omega)]
                by_cases hf : Fst g r < p
                · rw [if_pos hf, if_pos (by omega)]
                · rw [if_neg hf, if_neg (by omega)]
              rw [e5]
              by_cases ht : TxJ g h nb nc nk p q < (Tdv g h nb nc nk p q).1
              · rw [if_pos ht, if_neg hrp, if_neg hrq]
              · rw [if_neg ht, if_neg hrp, if_neg hrq]
        · simp only [e_X8_closeYear_91, e_X8_closeYear_94, nI_1, true_and, and_true, rf_s, not_true_eq_false, not_false_eq_true, true_implies, false_implies, kl_i, kl_n, kl_l, kl_r, Option.toList, List.cons_append, List.nil_append, if_true, if_false, u2s, lt00, lt01, lt02, lt03, le10, le20, le30, ne10, ne20, ne30, eq00]
          exact ih (p + 1) (by omega) I2 J2 a2 (fun I3 J3 b1 b2 => hq I3 J3 (Fz.tr (fun a ha => ⟨(a1 a (by omega) (by omega)).1.trans (f1 a (by omega)).1, (a1 a (by omega) (by omega)).2.trans (f1 a (by omega)).2⟩) b1) b2)
theorem w_closeYear (hw : WbS S N P x πd π πs πh) (hg : Gd g nb nc nk) (hr : Led I J (x + 29) π g h nb nc nk) (hH : Hst I J (x + 89) πh pn o G H)
    (hq : ∀ I' J' o', Fy x I I' J J' → Hst I' J' (x + 89) πh (psn pn) o' (psh pn G g) (psh pn H h) → (∀ (g' : Nat → Int32) (h' : Nat → Int64), (∀ k, g' k = if k = 88 then g 88 + 1 else g k) → (∀ r k, r < 6 → k < nk → h' (6 * r + k) = Nx g h nb nc nk r k) → Led I' J' (x + 29) π g' h' nb nc nk) → Q (some (.int (g 88 + 1))) I' J' P) : CWp S N (d + 5) MX8_closeYear [.ref x] I J P Q := by
  rw [c_X8_closeYear]
  have hw' := hw.f
  have hl' := hw.le.f
  have hs := hw.hi.1
  have z0 : (0 : Int32) = nI 0 := rfl
  have hnk := hg.1.2.2.1
  simp only [e_X8_closeYear_0, e_X8_closeYear_1, e_X8_closeYear_4, e_X8_closeYear_5, e_X8_closeYear_8, hw', hs, true_and, and_true, rf_s, not_true_eq_false, not_false_eq_true, true_implies, false_implies, kl_i, kl_n, kl_l, kl_r, Option.toList, List.cons_append, List.nil_append, if_true, if_false, u2s, lt00, lt01, lt02, lt03, le10, le20, le30, ne10, ne20, ne30, eq00]
  refine k_rem (d := d) hw hg hr hH (fun I1 J1 o1 f1 f2 f3 => ?_)
  simp only [e_X8_closeYear_11, e_X8_closeYear_12, true_and, and_true, rf_s, not_true_eq_false, not_false_eq_true, true_implies, false_implies, kl_i, kl_n, kl_l, kl_r, Option.toList, List.cons_append, List.nil_append, if_true, if_false, u2s, lt00, lt01, lt02, lt03, le10, le20, le30, ne10, ne20, ne30, eq00]
  rw [z0]
  refine cy8_loop (h := h) hw hg 6 0 (by decide) I1 J1 (f3.cg hg.cb (fun _ _ => rfl) (fun r k hr6 hk => by rw [HN_at (by omega), if_neg (Nat.not_lt_zero _)])) (fun I2 J2 a1 a2 => ?_)
  have h5 := a2.2.1
  simp only [e_X8_closeYear_97, e_X8_closeYear_98, e_X8_closeYear_101, e_X8_closeYear_102, e_X8_closeYear_105, e_X8_closeYear_106, e_X8_closeYear_107, e_X8_closeYear_110, e_X8_closeYear_111, e_X8_closeYear_114, e_X8_closeYear_117, hw', hl', h5, true_and, and_true, rf_s, not_true_eq_false, not_false_eq_true, true_implies, false_implies, kl_i, kl_n, kl_l, kl_r, Option.toList, List.cons_append, List.nil_append, if_true, if_false, u2s, lt00, lt01, lt02, lt03, le10, le20, le30, ne10, ne20, ne30, eq00]
  refine hq _ J2 o1 ((Fy.hi f1).tr (a1.y.tr (Fy.uI (by omega) (by omega) _ _))) (f2.on hw.hi (fun a b1 b2 => by rw [u2_off _ _ _ (by omega)]; exact (a1 a (by omega)).1) (fun a b1 b2 => (a1 a (by omega)).2)) (fun g' h' b1 b2 => ?_)
  refine ⟨(a2.1.on hw.le.r hg.cb (fun a c1 c2 => u2_off _ _ _ (by omega)) (fun _ _ _ => rfl)).cg hg.cb (fun k hk => by rw [b1 k, if_neg (by omega)]) (fun r k hr6 hk => ?_), by rw [u2s, b1 88, if_pos rfl], fun r hr6 => ?_⟩
  · rw [b2 r k hr6 hk, HN_at (by omega), if_pos (Fst_le hg.2.1 hr6).2]
  · rw [u2_off _ _ _ (by omega), u2_off _ _ _ (by omega), u2_off _ _ _ (by omega), u2_off _ _ _ (by omega), b1, b1, b1, b1, if_neg (by omega), if_neg (by omega), if_neg (by omega), if_neg (by omega)]
    exact a2.2.2 r hr6
end WT5

/-! the class: its items read, a whole text -/
theorem PrF_len {c : Nat → Int32} {n : Nat} : ∀ (f s : Nat) (l : List Nat) (s' : Nat), s ≤ n → PrF c n f s = (some l, s') → s + 2 * l.length ≤ s' + 1
  | 0, s, l, s', _, h => by rw [PrF] at h; cases h
  | f + 1, s, l, s', hs, h => by
    rw [PrF] at h
    cases e : NumF c n s with
    | mk o1 s1 =>
      rw [e] at h
      cases o1 with
      | none => cases h
      | some a =>
        obtain ⟨q1, q2, -⟩ := NumF_lt hs e
        dsimp only at h
        by_cases hy : s1 < n ∧ c s1 = 58
        · rw [if_pos hy] at h
          cases e2 : NumF c n (s1 + 1) with
          | mk o2 s2 =>
            rw [e2] at h
            cases o2 with
            | none => cases h
            | some b =>
              obtain ⟨q3, q4, -⟩ := NumF_lt (show s1 + 1 ≤ n by omega) e2
              dsimp only at h
              by_cases hz : s2 < n ∧ c s2 = 44
              · rw [if_pos hz] at h
                cases e3 : PrF c n f (s2 + 1) with
                | mk o3 s3 =>
                  rw [e3] at h
                  cases o3 with
                  | none => cases h
                  | some l3 =>
                    cases h
                    have := PrF_len f (s2 + 1) l3 _ hz.1 e3
                    simp only [List.length_cons]
                    omega
              · rw [if_neg hz] at h
                cases h
                simp only [List.length_cons, List.length_nil]
                omega
        · rw [if_neg hy] at h
          cases h
theorem RT.k {I : IM} {x n s : Nat} {c : Nat → Int32} (h : RT I x c n s) {k : Nat} (hk : 1 ≠ k) (hk5 : 5 ≠ k) (v : Int32) : RT (u2 I x k v) x c n s := ⟨by rw [u2_off _ _ _ (by omega)]; exact h.1, by rw [u2k _ _ _ hk]; exact h.2.1, by rw [u2k _ _ _ hk5]; exact h.2.2.1, h.2.2.2⟩
theorem DS.on {S N : Nat → Nat} {P : PM} {I I' : IM} {J J' : JM} {r : Nat} {π : Nat → Nat} {o : Bool} {t : Nat → Int32} {hF : Nat → Int64} (hs : RuS S N P r π) (hd : DS I J r π o t hF) (hI : ∀ a, r ≤ a → a < r + 25 → I' a = I a) (hJ : ∀ a, r ≤ a → a < r + 25 → J' a = J a) : DS I' J' r π o t hF := by
  obtain ⟨⟨nc, h1, h2⟩, ⟨nk, h3, h4⟩, h5⟩ := hd
  refine ⟨⟨nc, h1, by rw [hI r (by omega) (by omega)]; exact h2⟩, ⟨nk, h3, by rw [hI r (by omega) (by omega)]; exact h4⟩, fun ho => ?_⟩
  obtain ⟨nb, nc, nk, a1, a2, a3⟩ := h5 ho
  exact ⟨nb, nc, nk, a1, a2.on hs a1 hI hJ, a3⟩
def Fx (x r : Nat) (I I' : IM) (J J' : JM) : Prop := (∀ a, a ≠ x → a ≠ x + 2 → a < r ∨ r + 25 ≤ a → I' a = I a) ∧ ∀ a, a < r ∨ r + 25 ≤ a → J' a = J a
theorem Fx.rf {x r : Nat} {I : IM} {J : JM} : Fx x r I I J J := ⟨fun _ _ _ _ => rfl, fun _ _ => rfl⟩
theorem Fx.tr {x r : Nat} {I I' I'' : IM} {J J' J'' : JM} (h : Fx x r I I' J J') (h2 : Fx x r I' I'' J' J'') : Fx x r I I'' J J'' := ⟨fun a h3 h4 h5 => (h2.1 a h3 h4 h5).trans (h.1 a h3 h4 h5), fun a h3 => (h2.2 a h3).trans (h.2 a h3)⟩
theorem Fx.t {x r : Nat} {I I' : IM} {J : JM} (h : Tf x I I') : Fx x r I I' J J := ⟨fun a h1 h2 _ => h.1 a h1 h2, fun _ _ => rfl⟩
theorem Fx.u {x r : Nat} {I : IM} {J : JM} (k : Nat) (v : Int32) : Fx x r I (u2 I x k v) J J := ⟨fun a h1 _ _ => u2_off _ _ _ h1, fun _ _ => rfl⟩
theorem DS.tf {S N : Nat → Nat} {P : PM} {I I' : IM} {J : JM} {x r : Nat} {π : Nat → Nat} {o : Bool} {t : Nat → Int32} {hF : Nat → Int64} (hs : RuS S N P r π) (hd : DS I J r π o t hF) (hdis : x + 3 ≤ r ∨ r + 25 ≤ x) (h : Tf x I I') : DS I' J r π o t hF := hd.on hs (fun a h1 h2 => h.1 a (by omega) (by omega)) (fun _ _ _ => rfl)
theorem DS.u {S N : Nat → Nat} {P : PM} {I : IM} {J : JM} {x r : Nat} {π : Nat → Nat} {o : Bool} {t : Nat → Int32} {hF : Nat → Int64} (hs : RuS S N P r π) (hd : DS I J r π o t hF) (hdis : x + 3 ≤ r ∨ r + 25 ≤ x) (k : Nat) (v : Int32) : DS (u2 I x k v) J r π o t hF := hd.on hs (fun a h1 h2 => u2_off _ _ _ (by omega)) (fun _ _ _ => rfl)
section KTE
variable {S N : Nat → Nat} {d : Nat} {I : IM} {J : JM} {P : PM} {Q : Option Value → IM → JM → PM → Prop} {x n s r : Nat} {c : Nat → Int32} {l : List Nat} {π : Nat → Nat} {o : Bool} {t : Nat → Int32} {hF : Nat → Int64}
/-- from an item's numbers on: it is carried out -/
theorem ri_tail (hx : RtS S N P x) (hs : RuS S N P r π) (hdis : x + 3 ≤ r ∨ r + 25 ≤ x) {w : Int32} {a it : Nat} {e : Bool} {x3 x4 : Option Value} (hco : CO S N P x r π hF w a l) (ht : RT I x c n s) (hl : NL I x l) (hd : DS I J r π o t hF) (h4 : I x 4 = bI (!o)) (h3 : I x 3 = nI it)
    (hq : ∀ I' J', RT I' x c n s → DS I' J' r π (o || ItO a l t) (ItG a l e t) hF → I' x 4 = bI (!(o || ItO a l t)) → I' x 3 = nI (it + 1) → Fx x r I I' J J' → Q (some (.int 1)) I' J' P) :
    Wp S N (d + 4) MX6_readItem 80 [some (.ref x), some (.ref r), some (.int w), x3, x4] [.int (bI e)] I J P Q := by
  have hx0 := hx
  unfold RtS at hx
  simp only [e_X6_readItem_80, e_X6_readItem_82, e_X6_readItem_83, e_X6_readItem_84, e_X6_readItem_87, e_X6_readItem_88, e_X6_readItem_89, e_X6_readItem_92, e_X6_readItem_93, e_X6_readItem_94, e_X6_readItem_95, e_X6_readItem_97, hx, h3, nI_1, true_and, and_true, rf_s, not_true_eq_false, not_false_eq_true, true_implies, false_implies, kl_i, kl_n, kl_l, kl_r, Option.toList, List.cons_append, List.nil_append, if_true, if_false, u2s, lt00, lt01, lt02, lt03, le10, le20, le30, ne10, ne20, ne30, eq00]
  refine hco (d + 2) _ J o t e _ ⟨by rw [u2k _ _ _ (by decide)]; exact hl.1, fun j hj => by rw [u2_off _ _ _ (by omega)]; exact hl.2 j hj⟩ (hd.u hs hdis _ _) (fun I' J' b f1 f2 f3 => ?_)
  have ex : I' x = u2 I x 3 (nI (it + 1)) x := (f1 x (by omega)).1
  have e1 : I' (x + 1) = I (x + 1) := by rw [(f1 (x + 1) (by omega)).1, u2_off _ _ _ (by omega)]
  have htr : RT I' x c n s := ⟨by rw [e1]; exact ht.1, by rw [ex, u2k _ _ _ (by decide)]; exact ht.2.1, by rw [ex, u2k _ _ _ (by decide)]; exact ht.2.2.1, ht.2.2.2⟩
  have hfx : Fx x r I I' J J' := ⟨fun y h1 h2 h5 => by rw [(f1 y h5).1, u2_off _ _ _ h1], fun y h5 => (f1 y h5).2⟩
  have e3 : I' x 3 = nI (it + 1) := by rw [ex]; exact u2s _ _ _ _
  have e4 : I' x 4 = bI (!o) := by rw [ex, u2k _ _ _ (by decide)]; exact h4
  cases b with
  | true =>
    have e8 : bI true = 1 := rfl
    have h9 := hq I' J' htr f3 (by
      rw [e4]
      cases o with
      | true => rfl
      | false =>
        have := f2 rfl
        cases hh : ItO a l t with
        | true => rw [hh] at this; cases this
        | false => rfl) e3 hfx
    rw [e8]
    simp only [e_X6_readItem_100, e_X6_readItem_103, e_X6_readItem_104, e_X6_readItem_105 isB0, e_X6_readItem_105 isB1, e_X6_readItem_105 isB_ite, e_X6_readItem_108, e_X6_readItem_109 isB0, e_X6_readItem_109 isB1, e_X6_readItem_109 isB_ite, ne10, true_and, and_true, rf_s, not_true_eq_false, not_false_eq_true, true_implies, false_implies, kl_i, kl_n, kl_l, kl_r, Option.toList, List.cons_append, List.nil_append, if_true, if_false, u2s, lt00, lt01, lt02, lt03, le10, le20, le30, ne10, ne20, ne30, eq00]
    exact h9
  | false =>
    have e8 : bI false = 0 := rfl
    have h9 := hq (u2 I' x 4 0) J' (htr.k (by decide) (by decide) _) (f3.u hs hdis _ _) (by
      rw [u2s]
      cases o with
      | true => rfl
      | false =>
        have := f2 rfl
        cases hh : ItO a l t with
        | true => rfl
        | false => rw [hh] at this; cases this) (by rw [u2k _ _ _ (by decide)]; exact e3) (hfx.tr (Fx.u _ _))
    rw [e8]
    simp only [e_X6_readItem_100, e_X6_readItem_103, e_X6_readItem_104, e_X6_readItem_105 isB0, e_X6_readItem_105 isB1, e_X6_readItem_105 isB_ite, e_X6_readItem_108, e_X6_readItem_109 isB0, e_X6_readItem_109 isB1, e_X6_readItem_109 isB_ite, hx, true_and, and_true, rf_s, not_true_eq_false, not_false_eq_true, true_implies, false_implies, kl_i, kl_n, kl_l, kl_r, Option.toList, List.cons_append, List.nil_append, if_true, if_false, u2s, lt00, lt01, lt02, lt03, le10, le20, le30, ne10, ne20, ne30, eq00]
    exact h9
/-- a letter with a list of numbers -/
theorem ri_list (hx : RtS S N P x) (hs : RuS S N P r π) (hdis : x + 3 ≤ r ∨ r + 25 ≤ x) {w kv : Int32} {a want it : Nat} {cred : Bool} {x4 : Option Value} (hsn : s < n) (h0 : 0 < want) (hw4 : want ≤ 4) (h98 : ¬ w = 98)
    (hk : ∀ (d : Nat) (I : IM) (J : JM) (Q : Option Value → IM → JM → PM → Prop), CWp S N d MX6_kindOf [.ref x, .int w] I J P Q ↔ Q (some (.int kv)) I J P) (hkv : (kv < 0) = (cred = false))
    (hco : ∀ l : List Nat, l.length = want → (∀ v ∈ l, v < 10000) → CO S N P x r π hF w a l) (ht : RT I x c n s) (hd : DS I J r π o t hF) (h4 : I x 4 = bI (!o)) (h3 : I x 3 = nI it)
    (hN : ∀ s', LsF c n 0 want (s + 1) = (none, s') → ∀ I', RT I' x c n s' → Fx x r I I' J J → Q (some (.int 0)) I' J P)
    (hS : ∀ l s' e s2, LsF c n 0 want (s + 1) = (some l, s') → ((cred = true ∧ (s' < n ∧ c s' = 42)) ∧ e = true ∧ s2 = s' + 1) ∨ (¬ (cred = true ∧ (s' < n ∧ c s' = 42)) ∧ e = false ∧ s2 = s') → ∀ I' J', RT I' x c n s2 → DS I' J' r π (o || ItO a l t) (ItG a l e t) hF → I' x 4 = bI (!(o || ItO a l t)) → I' x 3 = nI (it + 1) → Fx x r I I' J J' → Q (some (.int 1)) I' J' P) :
    Wp S N (d + 4) MX6_readItem 17 [some (.ref x), some (.ref r), some (.int w), some (.int (nI want)), x4] [] I J P Q := by
  have hx0 := hx
  unfold RtS at hx
  have h5 := ht.2.2.1
  have hn80 := ht.2.2.2.2
  have b0 : bI false = 0 := rfl
  have b1' : bI true = 1 := rfl
  simp only [e_X6_readItem_17, e_X6_readItem_18, e_X6_readItem_19, e_X6_readItem_22, e_X6_readItem_23, e_X6_readItem_24, e_X6_readItem_27, e_X6_readItem_28, e_X6_readItem_29, e_X6_readItem_32, e_X6_readItem_33, e_X6_readItem_35, e_X6_readItem_38, e_X6_readItem_39, e_X6_readItem_42, e_X6_readItem_45, e_X6_readItem_48, e_X6_readItem_49, e_X6_readItem_50, hx, h5, h98, nI_1, true_and, and_true, rf_s, not_true_eq_false, not_false_eq_true, true_implies, false_implies, kl_i, kl_n, kl_l, kl_r, Option.toList, List.cons_append, List.nil_append, if_true, if_false, u2s, lt00, lt01, lt02, lt03, le10, le20, le30, ne10, ne20, ne30, eq00]
  refine k_readList (d := d + 1) hx0 hw4 h0 ((ht.s (s' := s + 1) (by omega)).k (by decide) (by decide) _) ⟨by rw [u2s]; rfl, fun j hj => absurd hj (Nat.not_lt_zero _)⟩ (fun s' e I' c1 c2 => ?_) (fun l' s' e I' c1 c2 c3 => ?_)
  · simp only [e_X6_readItem_53, e_X6_readItem_56, e_X6_readItem_57 isB0, e_X6_readItem_57 isB1, e_X6_readItem_57 isB_ite, true_and, and_true, rf_s, not_true_eq_false, not_false_eq_true, true_implies, false_implies, kl_i, kl_n, kl_l, kl_r, Option.toList, List.cons_append, List.nil_append, if_true, if_false, u2s, lt00, lt01, lt02, lt03, le10, le20, le30, ne10, ne20, ne30, eq00]
    exact hN s' e I' c1 (((Fx.u _ _).tr (Fx.u _ _)).tr (Fx.t c2))
  · obtain ⟨g1, g2, g3, g4⟩ := LsF_ok want 0 (s + 1) l' s' (by omega) e
    have d1 : DS I' J r π o t hF := (((hd.u hs hdis _ _).u hs hdis _ _).tf hs hdis c2)
    have f4 : I' x 4 = bI (!o) := by rw [c2.2 4 (by decide) (by decide), u2k _ _ _ (by decide), u2k _ _ _ (by decide)]; exact h4
    have f3 : I' x 3 = nI it := by rw [c2.2 3 (by decide) (by decide), u2k _ _ _ (by decide), u2k _ _ _ (by decide)]; exact h3
    have fx : Fx x r I I' J J := ((Fx.u _ _).tr (Fx.u _ _)).tr (Fx.t c2)
    simp only [e_X6_readItem_53, e_X6_readItem_56, e_X6_readItem_57 isB0, e_X6_readItem_57 isB1, e_X6_readItem_57 isB_ite, e_X6_readItem_58, e_X6_readItem_59, e_X6_readItem_60, ne10, hx, hk, true_and, and_true, rf_s, not_true_eq_false, not_false_eq_true, true_implies, false_implies, kl_i, kl_n, kl_l, kl_r, Option.toList, List.cons_append, List.nil_append, if_true, if_false, u2s, lt00, lt01, lt02, lt03, le10, le20, le30, ne10, ne20, ne30, eq00]
    cases cred with
    | false =>
      have kv0 : kv < 0 := by rw [hkv]
      simp only [e_X6_readItem_63, e_X6_readItem_79, kv0, true_and, and_true, rf_s, not_true_eq_false, not_false_eq_true, true_implies, false_implies, kl_i, kl_n, kl_l, kl_r, Option.toList, List.cons_append, List.nil_append, if_true, if_false, u2s, lt00, lt01, lt02, lt03, le10, le20, le30, ne10, ne20, ne30, eq00]
      have h9 := ri_tail (d := d) (e := false) (Q := Q) (x3 := some (.int (nI want))) (x4 := x4) hx0 hs hdis (hco l' g1 g2) c1 c3 d1 f4 f3 (fun I2 J2 a1 a2 a3 a4 a5 => hS l' s' false s' e (Or.inr ⟨fun z => absurd z.1 (by decide), rfl, rfl⟩) I2 J2 a1 a2 a3 a4 (fx.tr a5))
      rw [b0] at h9
      exact h9
    | true =>
      have kv0 : ¬ kv < 0 := by rw [hkv]; decide
      simp only [e_X6_readItem_63, e_X6_readItem_66, e_X6_readItem_67, e_X6_readItem_69, kv0, hx, true_and, and_true, rf_s, not_true_eq_false, not_false_eq_true, true_implies, false_implies, kl_i, kl_n, kl_l, kl_r, Option.toList, List.cons_append, List.nil_append, if_true, if_false, u2s, lt00, lt01, lt02, lt03, le10, le20, le30, ne10, ne20, ne30, eq00]
      by_cases hy : s' < n ∧ c s' = 42
      · rw [k_skipY hx0 c1 hy]
        simp only [e_X6_readItem_72, e_X6_readItem_75, e_X6_readItem_76, ne10, true_and, and_true, rf_s, not_true_eq_false, not_false_eq_true, true_implies, false_implies, kl_i, kl_n, kl_l, kl_r, Option.toList, List.cons_append, List.nil_append, if_true, if_false, u2s, lt00, lt01, lt02, lt03, le10, le20, le30, ne10, ne20, ne30, eq00]
        have h9 := ri_tail (d := d) (e := true) (Q := Q) (x3 := some (.int (nI want))) (x4 := x4) hx0 hs hdis (hco l' g1 g2) (c1.s (s' := s' + 1) (by omega)) (c3.s _) (d1.u hs hdis 5 (nI (s' + 1))) (by rw [u2k _ _ _ (by decide)]; exact f4) (by rw [u2k _ _ _ (by decide)]; exact f3) (fun I2 J2 a1 a2 a3 a4 a5 => hS l' s' true (s' + 1) e (Or.inl ⟨⟨rfl, hy⟩, rfl, rfl⟩) I2 J2 a1 a2 a3 a4 ((fx.tr (Fx.u _ _)).tr a5))
        rw [b1'] at h9
        exact h9
      · rw [k_skipN hx0 c1 (by decide) hy]
        simp only [e_X6_readItem_72, e_X6_readItem_79, true_and, and_true, rf_s, not_true_eq_false, not_false_eq_true, true_implies, false_implies, kl_i, kl_n, kl_l, kl_r, Option.toList, List.cons_append, List.nil_append, if_true, if_false, u2s, lt00, lt01, lt02, lt03, le10, le20, le30, ne10, ne20, ne30, eq00]
        have h9 := ri_tail (d := d) (e := false) (Q := Q) (x3 := some (.int (nI want))) (x4 := x4) hx0 hs hdis (hco l' g1 g2) c1 c3 d1 f4 f3 (fun I2 J2 a1 a2 a3 a4 a5 => hS l' s' false s' e (Or.inr ⟨fun z => hy z.2, rfl, rfl⟩) I2 J2 a1 a2 a3 a4 (fx.tr a5))
        rw [b0] at h9
        exact h9
theorem k_readItem (hx : RtS S N P x) (hs : RuS S N P r π) (hdis : x + 3 ≤ r ∨ r + 25 ≤ x) {it : Nat} (ht : RT I x c n s) (hd : DS I J r π o t hF) (h4 : I x 4 = bI (!o)) (h3 : I x 3 = nI it)
    (hN : ∀ s', ItF c n s = (none, s') → ∀ I', RT I' x c n s' → Fx x r I I' J J → Q (some (.int 0)) I' J P)
    (hS : ∀ i s', ItF c n s = (some i, s') → ∀ I' J', RT I' x c n s' → DS I' J' r π (o || ItO i.1 i.2.1 t) (ItG i.1 i.2.1 i.2.2 t) hF → I' x 4 = bI (!(o || ItO i.1 i.2.1 t)) → I' x 3 = nI (it + 1) → Fx x r I I' J J' → Q (some (.int 1)) I' J' P) :
    CWp S N (d + 4) MX6_readItem [.ref x, .ref r] I J P Q := by
  rw [c_X6_readItem]
  have hx0 := hx
  unfold RtS at hx
  unfold ItF at hN hS
  have hn80 := ht.2.2.2.2
  have z2 : ¬ nI 2 = 0 := by decide
  have z3 : ¬ nI 3 = 0 := by decide
  have z4 : ¬ nI 4 = 0 := by decide
  have z0 : nI 0 = 0 := rfl
  simp only [e_X6_readItem_0, e_X6_readItem_1, e_X6_readItem_4, e_X6_readItem_5, e_X6_readItem_6, e_X6_readItem_7, e_X6_readItem_10, e_X6_readItem_11, hx, k_peek hx0 ht, k_wanted, true_and, and_true, rf_s, not_true_eq_false, not_false_eq_true, true_implies, false_implies, kl_i, kl_n, kl_l, kl_r, Option.toList, List.cons_append, List.nil_append, if_true, if_false, u2s, lt00, lt01, lt02, lt03, le10, le20, le30, ne10, ne20, ne30, eq00]
  by_cases hsn : s < n
  · simp only [if_pos hsn] at hN hS ⊢
    by_cases hb : c s = 98
    · simp only [if_pos hb] at hN hS
      rw [hb, show Wn 98 = 2 from by decide]
      have h5 := ht.2.2.1
      have b0 : bI false = 0 := rfl
      have m1 : ((-1 : Int32) < 0) = True := by decide
      simp only [e_X6_readItem_12, e_X6_readItem_17, e_X6_readItem_18, e_X6_readItem_19, e_X6_readItem_22, e_X6_readItem_23, e_X6_readItem_24, e_X6_readItem_27, e_X6_readItem_28, e_X6_readItem_29, e_X6_readItem_32, e_X6_readItem_33, e_X6_readItem_35, e_X6_readItem_38, e_X6_readItem_39, z2, hx, h5, nI_1, true_and, and_true, rf_s, not_true_eq_false, not_false_eq_true, true_implies, false_implies, kl_i, kl_n, kl_l, kl_r, Option.toList, List.cons_append, List.nil_append, if_true, if_false, u2s, lt00, lt01, lt02, lt03, le10, le20, le30, ne10, ne20, ne30, eq00]
      refine k_readPairs (d := d) hx0 ((ht.s (s' := s + 1) (by omega)).k (by decide) (by decide) _) ⟨by rw [u2s]; rfl, fun j hj => absurd hj (Nat.not_lt_zero _)⟩ (fun s' e I' c1 c2 => ?_) (fun l' s' e I' c1 c2 c3 => ?_)
      · simp only [e_X6_readItem_42, e_X6_readItem_56, e_X6_readItem_57 isB0, e_X6_readItem_57 isB1, e_X6_readItem_57 isB_ite, true_and, and_true, rf_s, not_true_eq_false, not_false_eq_true, true_implies, false_implies, kl_i, kl_n, kl_l, kl_r, Option.toList, List.cons_append, List.nil_append, if_true, if_false, u2s, lt00, lt01, lt02, lt03, le10, le20, le30, ne10, ne20, ne30, eq00]
        rw [e] at hN
        exact hN s' rfl I' c1 (((Fx.u _ _).tr (Fx.u _ _)).tr (Fx.t c2))
      · obtain ⟨g1, g2, g3, j, g4, g5⟩ := PrF_ok 81 (s + 1) l' s' (by omega) e
        have g6 := PrF_len 81 (s + 1) l' s' (by omega) e
        rw [e] at hS
        simp only [e_X6_readItem_42, e_X6_readItem_45, e_X6_readItem_48, e_X6_readItem_49, e_X6_readItem_50, e_X6_readItem_53, e_X6_readItem_56, e_X6_readItem_57 isB0, e_X6_readItem_57 isB1, e_X6_readItem_57 isB_ite, e_X6_readItem_58, e_X6_readItem_59, e_X6_readItem_60, ne10, hx, k_kind98, m1, true_and, and_true, rf_s, not_true_eq_false, not_false_eq_true, true_implies, false_implies, kl_i, kl_n, kl_l, kl_r, Option.toList, List.cons_append, List.nil_append, if_true, if_false, u2s, lt00, lt01, lt02, lt03, le10, le20, le30, ne10, ne20, ne30, eq00]
        simp only [e_X6_readItem_63, e_X6_readItem_79, m1, true_and, and_true, rf_s, not_true_eq_false, not_false_eq_true, true_implies, false_implies, kl_i, kl_n, kl_l, kl_r, Option.toList, List.cons_append, List.nil_append, if_true, if_false, u2s, lt00, lt01, lt02, lt03, le10, le20, le30, ne10, ne20, ne30, eq00]
        have h9 := ri_tail (d := d) (e := false) (Q := Q) (x3 := some (.int (nI 2))) (x4 := none) hx0 hs hdis (co_b hx0 hs hdis g5 (by omega) g4 g1) c1 c3 (((hd.u hs hdis _ _).u hs hdis _ _).tf hs hdis c2) (by rw [c2.2 4 (by decide) (by decide), u2k _ _ _ (by decide), u2k _ _ _ (by decide)]; exact h4) (by rw [c2.2 3 (by decide) (by decide), u2k _ _ _ (by decide), u2k _ _ _ (by decide)]; exact h3) (fun I2 J2 a1 a2 a3 a4 a5 => hS (0, l', false) s' rfl I2 J2 a1 a2 a3 a4 ((((Fx.u _ _).tr (Fx.u _ _)).tr (Fx.t c2)).tr a5))
        rw [b0] at h9
        exact h9
    · simp only [if_neg hb] at hN hS
      by_cases ha : c s = 97
      · simp only [if_pos ha] at hN hS
        rw [ha, show Wn 97 = 3 from by decide]
        simp only [e_X6_readItem_12, z3, true_and, and_true, rf_s, not_true_eq_false, not_false_eq_true, true_implies, false_implies, kl_i, kl_n, kl_l, kl_r, Option.toList, List.cons_append, List.nil_append, if_true, if_false, u2s, lt00, lt01, lt02, lt03, le10, le20, le30, ne10, ne20, ne30, eq00]
        refine ri_list (cred := false) (kv := -1) (a := 1) hx0 hs hdis hsn (by decide) (by decide) (by decide) (fun d I J Q => k_kind97) (by decide) (fun l h1 h2 => co_a hx0 hs h1 h2) ht hd h4 h3 (fun s' e I' c1 c2 => ?_) (fun l s' e s2 e1 hh I' J' a1 a2 a3 a4 a5 => ?_)
        · rw [e] at hN
          exact hN s' rfl I' c1 c2
        · rw [e1] at hS
          rcases hh with ⟨z, -⟩ | ⟨-, rfl, rfl⟩
          · exact absurd z.1 (by decide)
          · exact hS (1, l, false) _ rfl I' J' a1 a2 a3 a4 a5
      · simp only [if_neg ha] at hN hS
        by_cases hm : c s = 109
        · simp only [if_pos hm] at hN hS
          rw [hm, show Wn 109 = 2 from by decide]
          simp only [e_X6_readItem_12, z2, true_and, and_true, rf_s, not_true_eq_false, not_false_eq_true, true_implies, false_implies, kl_i, kl_n, kl_l, kl_r, Option.toList, List.cons_append, List.nil_append, if_true, if_false, u2s, lt00, lt01, lt02, lt03, le10, le20, le30, ne10, ne20, ne30, eq00]
          refine ri_list (cred := false) (kv := -1) (a := 2) hx0 hs hdis hsn (by decide) (by decide) (by decide) (fun d I J Q => k_kind109) (by decide) (fun l h1 h2 => co_m hx0 hs h1 h2) ht hd h4 h3 (fun s' e I' c1 c2 => ?_) (fun l s' e s2 e1 hh I' J' a1 a2 a3 a4 a5 => ?_)
          · rw [e] at hN
            exact hN s' rfl I' c1 c2
          · rw [e1] at hS
            rcases hh with ⟨z, -⟩ | ⟨-, rfl, rfl⟩
            · exact absurd z.1 (by decide)
            · exact hS (2, l, false) _ rfl I' J' a1 a2 a3 a4 a5
        · simp only [if_neg hm] at hN hS
          by_cases hc : c s = 99
          · simp only [if_pos hc] at hN hS
            rw [hc, show Wn 99 = 2 from by decide]
            simp only [e_X6_readItem_12, z2, true_and, and_true, rf_s, not_true_eq_false, not_false_eq_true, true_implies, false_implies, kl_i, kl_n, kl_l, kl_r, Option.toList, List.cons_append, List.nil_append, if_true, if_false, u2s, lt00, lt01, lt02, lt03, le10, le20, le30, ne10, ne20, ne30, eq00]
            refine ri_list (cred := false) (kv := -1) (a := 3) hx0 hs hdis hsn (by decide) (by decide) (by decide) (fun d I J Q => k_kind99) (by decide) (fun l h1 h2 => co_c hx0 hs h1) ht hd h4 h3 (fun s' e I' c1 c2 => ?_) (fun l s' e s2 e1 hh I' J' a1 a2 a3 a4 a5 => ?_)
            · rw [e] at hN
              exact hN s' rfl I' c1 c2
            · rw [e1] at hS
              rcases hh with ⟨z, -⟩ | ⟨-, rfl, rfl⟩
              · exact absurd z.1 (by decide)
              · exact hS (3, l, false) _ rfl I' J' a1 a2 a3 a4 a5
          · simp only [if_neg hc] at hN hS
            by_cases hor : c s = 110 ∨ c s = 114 ∨ c s = 107
            · simp only [if_pos hor] at hN hS
              have cr : ∀ (w kv : Int32) (kd : Nat), c s = w → Wn w = 4 → KdF w = kd → ¬ w = 98 → (∀ (d : Nat) (I : IM) (J : JM) (Q : Option Value → IM → JM → PM → Prop), CWp S N d MX6_kindOf [.ref x, .int w] I J P Q ↔ Q (some (.int kv)) I J P) → (kv < 0) = (true = false) → (∀ l : List Nat, l.length = 4 → (∀ v ∈ l, v < 10000) → CO S N P x r π hF w (4 + kd) l) → Wp S N (d + 4) MX6_readItem 12 [some (.ref x), some (.ref r), some (.int (c s)), some (.int (nI (Wn (c s)))), none] [.int (nI (Wn (c s)))] I J P Q := by
                intro w kv kd e1 e2 e3 e4 e5 e6 e7
                rw [e1, e3] at hS
                rw [e1, e2]
                simp only [e_X6_readItem_12, z4, true_and, and_true, rf_s, not_true_eq_false, not_false_eq_true, true_implies, false_implies, kl_i, kl_n, kl_l, kl_r, Option.toList, List.cons_append, List.nil_append, if_true, if_false, u2s, lt00, lt01, lt02, lt03, le10, le20, le30, ne10, ne20, ne30, eq00]
                refine ri_list (cred := true) (kv := kv) (a := 4 + kd) hx0 hs hdis hsn (by decide) (by decide) e4 e5 e6 e7 ht hd h4 h3 (fun s' e I' c1 c2 => ?_) (fun l s' e s2 e1 hh I' J' a1 a2 a3 a4 a5 => ?_)
                · rw [e] at hN
                  exact hN s' rfl I' c1 c2
                · rw [e1] at hS
                  dsimp only at hS
                  rcases hh with ⟨⟨-, z⟩, rfl, rfl⟩ | ⟨z, rfl, rfl⟩
                  · rw [if_pos z] at hS
                    exact hS (4 + kd, l, true) (s' + 1) rfl I' J' a1 a2 a3 a4 a5
                  · rw [if_neg (fun y => z ⟨rfl, y⟩)] at hS
                    exact hS (4 + kd, l, false) s2 rfl I' J' a1 a2 a3 a4 a5
              rcases hor with h | h | h
              · exact cr 110 0 0 h (by decide) (by decide) (by decide) (fun d I J Q => k_kind110) (by decide) (fun l h1 h2 => co_110 hx0 hs hdis h1 h2)
              · exact cr 114 1 1 h (by decide) (by decide) (by decide) (fun d I J Q => k_kind114) (by decide) (fun l h1 h2 => co_114 hx0 hs hdis h1 h2)
              · exact cr 107 2 2 h (by decide) (by decide) (by decide) (fun d I J Q => k_kind107) (by decide) (fun l h1 h2 => co_107 hx0 hs hdis h1 h2)
            · simp only [if_neg hor] at hN hS
              have e0 : Wn (c s) = 0 := by
                unfold Wn
                rw [if_neg (fun z => by rcases z with z | z | z; exact hb z; exact hc z; exact hm z), if_neg ha, if_neg hor]
              rw [e0, z0]
              simp only [e_X6_readItem_12, e_X6_readItem_15, e_X6_readItem_16 isB0, e_X6_readItem_16 isB1, e_X6_readItem_16 isB_ite, true_and, and_true, rf_s, not_true_eq_false, not_false_eq_true, true_implies, false_implies, kl_i, kl_n, kl_l, kl_r, Option.toList, List.cons_append, List.nil_append, if_true, if_false, u2s, lt00, lt01, lt02, lt03, le10, le20, le30, ne10, ne20, ne30, eq00]
              exact hN s rfl I ht Fx.rf
  · simp only [if_neg hsn] at hN hS ⊢
    rw [show Wn 0 = 0 from by decide, z0]
    simp only [e_X6_readItem_12, e_X6_readItem_15, e_X6_readItem_16 isB0, e_X6_readItem_16 isB1, e_X6_readItem_16 isB_ite, true_and, and_true, rf_s, not_true_eq_false, not_false_eq_true, true_implies, false_implies, kl_i, kl_n, kl_l, kl_r, Option.toList, List.cons_append, List.nil_append, if_true, if_false, u2s, lt00, lt01, lt02, lt03, le10, le20, le30, ne10, ne20, ne30, eq00]
    exact hN s rfl I ht Fx.rf
/-- what comes behind an item -/
def ItsR (c : Nat → Int32) (n f s : Nat) : Option (List ItT) × Nat := if s < n ∧ c s = 59 then ItsF c n f (s + 1) else if s < n then (none, s) else (some [], s)
theorem ItsF_R {f : Nat} : ItsF c n (f + 1) s = (match ItF c n s with
    | (none, s1) => (none, s1)
    | (some i, s1) => match ItsR c n f s1 with
      | (none, s2) => (none, s2)
      | (some l, s2) => (some (i :: l), s2)) := by
  rw [ItsF]
  cases ItF c n s with
  | mk o1 s1 =>
    cases o1 with
    | none => rfl
    | some i =>
      dsimp only
      unfold ItsR
      by_cases h1 : s1 < n ∧ c s1 = 59
      · rw [if_pos h1, if_pos h1]
        rfl
      · rw [if_neg h1, if_neg h1]
        by_cases h2 : s1 < n
        · rw [if_pos h2, if_pos h2]
        · rw [if_neg h2, if_neg h2]
theorem in_end (hx : RtS S N P x) {v : Int32} {b : Bool} {x1 x3 : Option Value} (hv : v = if b then -1 else I x 5) (hq : Q none (u2 (u2 I x 2 v) x 1 0) J P) : Wp S N (d + 5) MX6_readInto 73 [some (.ref x), x1, some (.int (bI b)), x3] [] I J P Q := by
  have hx0 := hx
  unfold RtS at hx
  cases b with
  | true =>
    have e8 : bI true = 1 := rfl
    have e9 : v = -1 := hv
    rw [e8]
    rw [e9] at hq
    simp only [e_X6_readInto_73, e_X6_readInto_74, e_X6_readInto_75, e_X6_readInto_78, e_X6_readInto_79, e_X6_readInto_82, e_X6_readInto_83, e_X6_readInto_86, e_X6_readInto_89, e_X6_readInto_90, e_X6_readInto_91, e_X6_readInto_94, hx, ne10, true_and, and_true, rf_s, not_true_eq_false, not_false_eq_true, true_implies, false_implies, kl_i, kl_n, kl_l, kl_r, Option.toList, List.cons_append, List.nil_append, if_true, if_false, u2s, lt00, lt01, lt02, lt03, le10, le20, le30, ne10, ne20, ne30, eq00]
    exact hq
  | false =>
    have e8 : bI false = 0 := rfl
    have e9 : v = I x 5 := hv
    rw [e8]
    rw [e9] at hq
    simp only [e_X6_readInto_73, e_X6_readInto_74, e_X6_readInto_75, e_X6_readInto_78, e_X6_readInto_79, e_X6_readInto_82, e_X6_readInto_83, e_X6_readInto_86, e_X6_readInto_89, e_X6_readInto_90, e_X6_readInto_91, e_X6_readInto_94, hx, true_and, and_true, rf_s, not_true_eq_false, not_false_eq_true, true_implies, false_implies, kl_i, kl_n, kl_l, kl_r, Option.toList, List.cons_append, List.nil_append, if_true, if_false, u2s, lt00, lt01, lt02, lt03, le10, le20, le30, ne10, ne20, ne30, eq00]
    exact hq
theorem in_loop (hx : RtS S N P x) (hs : RuS S N P r π) (hdis : x + 3 ≤ r ∨ r + 25 ≤ x) : ∀ (f i : Nat) (I : IM) (J : JM) (s it : Nat) (o : Bool) (t : Nat → Int32), RT I x c n s → DS I J r π o t hF → I x 4 = bI (!o) → I x 3 = nI it → i < s → n < s + f + 1 →
    (∀ s', ItsR c n f s = (none, s') → ∀ I' J', Fx x r I I' J J' → I' x 1 = 0 → I' x 2 = nI s' → Q none I' J' P) →
    (∀ l s', ItsR c n f s = (some l, s') → ∀ I' J', Fx x r I I' J J' → I' x 1 = 0 → I' x 2 = -1 → I' x 3 = nI (it + l.length) → I' x 4 = bI (!(o || ItsO l t)) → DS I' J' r π (o || ItsO l t) (ItsG l t) hF → Q none I' J' P) →
    Wp S N (d + 5) MX6_readInto 23 [some (.ref x), some (.ref r), some (.int 1), some (.int (nI i))] [] I J P Q := by
  have hx0 := hx
  unfold RtS at hx
  have key : ∀ (i : Nat) (I : IM) (J : JM) (s it : Nat) (o : Bool) (t : Nat → Int32), RT I x c n s → DS I J r π o t hF → I x 4 = bI (!o) → I x 3 = nI it → ¬ s < n → (∀ I' J', Fx x r I I' J J' → I' x 1 = 0 → I' x 2 = -1 → I' x 3 = nI (it + 0) → I' x 4 = bI (!(o || ItsO [] t)) → DS I' J' r π (o || ItsO [] t) (ItsG [] t) hF → Q none I' J' P) → Wp S N (d + 5) MX6_readInto 23 [some (.ref x), some (.ref r), some (.int 1), some (.int (nI i))] [] I J P Q := by
    intro i I J s it o t ht hd h4 h3 hsn hq
    have h5 := ht.2.2.1
    have h1 := ht.2.1
    have fin : ∀ x3 : Option Value, Wp S N (d + 5) MX6_readInto 73 [some (.ref x), some (.ref r), some (.int 1), x3] [] I J P Q := fun x3 => in_end (b := true) (v := -1) hx0 rfl (hq _ J ((Fx.u _ _).tr (Fx.u _ _)) (u2s _ _ _ _) (by rw [u2k _ _ _ (by decide)]; exact u2s _ _ _ _) (by rw [u2k _ _ _ (by decide), u2k _ _ _ (by decide)]; exact h3) (by rw [u2k _ _ _ (by decide), u2k _ _ _ (by decide), ItsO, Bool.or_false]; exact h4) (by rw [ItsO, Bool.or_false, ItsG]; exact (hd.u hs hdis _ _).u hs hdis _ _))
    by_cases hi : 80 ≤ nI i
    · simp only [e_X6_readInto_23, e_X6_readInto_24, e_X6_readInto_26, hi, true_and, and_true, rf_s, not_true_eq_false, not_false_eq_true, true_implies, false_implies, kl_i, kl_n, kl_l, kl_r, Option.toList, List.cons_append, List.nil_append, if_true, if_false, u2s, lt00, lt01, lt02, lt03, le10, le20, le30, ne10, ne20, ne30, eq00]
      exact fin _
    · have g1 : nI n ≤ nI s := nI_le (by omega) (by have := ht.2.2.2; omega)
      simp only [e_X6_readInto_23, e_X6_readInto_24, e_X6_readInto_26, e_X6_readInto_29, e_X6_readInto_30, e_X6_readInto_33, e_X6_readInto_34, e_X6_readInto_37, e_X6_readInto_38, e_X6_readInto_41, hi, ne10, hx, h5, h1, g1, true_and, and_true, rf_s, not_true_eq_false, not_false_eq_true, true_implies, false_implies, kl_i, kl_n, kl_l, kl_r, Option.toList, List.cons_append, List.nil_append, if_true, if_false, u2s, lt00, lt01, lt02, lt03, le10, le20, le30, ne10, ne20, ne30, eq00]
      exact fin _
  intro f
  induction f with
  | zero =>
    intro i I J s it o t ht hd h4 h3 hi hf hN hS
    have hsn : ¬ s < n := by omega
    refine key i I J s it o t ht hd h4 h3 hsn (hS [] s ?_)
    unfold ItsR
    rw [if_neg (fun z => hsn z.1), if_neg hsn]
  | succ f ih =>
    intro i I J s it o t ht hd h4 h3 hi hf hN hS
    by_cases hsn : s < n
    · have hn80 := ht.2.2.2.2
      have h5 := ht.2.2.1
      have h1 := ht.2.1
      have g1 : ¬ (80 : Int32) ≤ nI i := nI_ge (b := 80) (by omega) (by decide)
      have g2 : ¬ nI n ≤ nI s := nI_ge hsn (by omega)
      rw [e_X6_readInto_23]
      simp only [e_X6_readInto_24, e_X6_readInto_26, e_X6_readInto_29, e_X6_readInto_30, e_X6_readInto_33, e_X6_readInto_34, e_X6_readInto_37, e_X6_readInto_38, e_X6_readInto_41, e_X6_readInto_44, e_X6_readInto_45, e_X6_readInto_47, g1, ne10, hx, h5, h1, g2, true_and, and_true, rf_s, not_true_eq_false, not_false_eq_true, true_implies, false_implies, kl_i, kl_n, kl_l, kl_r, Option.toList, List.cons_append, List.nil_append, if_true, if_false, u2s, lt00, lt01, lt02, lt03, le10, le20, le30, ne10, ne20, ne30, eq00]
      by_cases hy : s < n ∧ c s = 59
      · have eR : ItsR c n (f + 1) s = ItsF c n (f + 1) (s + 1) := by unfold ItsR; rw [if_pos hy]
        rw [eR] at hN hS
        rw [ItsF_R] at hN hS
        rw [k_skipY hx0 ht hy]
        simp only [e_X6_readInto_50, e_X6_readInto_53, e_X6_readInto_54, e_X6_readInto_55, ne10, hx, true_and, and_true, rf_s, not_true_eq_false, not_false_eq_true, true_implies, false_implies, kl_i, kl_n, kl_l, kl_r, Option.toList, List.cons_append, List.nil_append, if_true, if_false, u2s, lt00, lt01, lt02, lt03, le10, le20, le30, ne10, ne20, ne30, eq00]
        refine k_readItem (d := d) hx0 hs hdis (ht.s (s' := s + 1) (by omega)) (hd.u hs hdis _ _) (by rw [u2k _ _ _ (by decide)]; exact h4) (by rw [u2k _ _ _ (by decide)]; exact h3) (fun s' e I' c1 c2 => ?_) (fun i' s' e I' J' a1 a2 a3 a4 a5 => ?_)
        · rw [e] at hN
          have h5' := c1.2.2.1
          have fin : ∀ x3 : Option Value, Wp S N (d + 5) MX6_readInto 73 [some (.ref x), some (.ref r), some (.int 0), x3] [] I' J P Q := fun x3 => in_end (b := false) (v := nI s') hx0 h5'.symm (hN s' rfl _ J (((Fx.u _ _).tr c2).tr ((Fx.u _ _).tr (Fx.u _ _))) (u2s _ _ _ _) (by rw [u2k _ _ _ (by decide)]; exact u2s _ _ _ _))
          simp only [e_X6_readInto_58, e_X6_readInto_65, e_X6_readInto_66, e_X6_readInto_67, e_X6_readInto_70, nI_1, true_and, and_true, rf_s, not_true_eq_false, not_false_eq_true, true_implies, false_implies, kl_i, kl_n, kl_l, kl_r, Option.toList, List.cons_append, List.nil_append, if_true, if_false, u2s, lt00, lt01, lt02, lt03, le10, le20, le30, ne10, ne20, ne30, eq00]
          by_cases hi2 : (80 : Int32) ≤ nI (i + 1)
          · simp only [e_X6_readInto_23, e_X6_readInto_24, e_X6_readInto_26, hi2, true_and, and_true, rf_s, not_true_eq_false, not_false_eq_true, true_implies, false_implies, kl_i, kl_n, kl_l, kl_r, Option.toList, List.cons_append, List.nil_append, if_true, if_false, u2s, lt00, lt01, lt02, lt03, le10, le20, le30, ne10, ne20, ne30, eq00]
            exact fin _
          · simp only [e_X6_readInto_23, e_X6_readInto_24, e_X6_readInto_26, e_X6_readInto_29, e_X6_readInto_30, hi2, true_and, and_true, rf_s, not_true_eq_false, not_false_eq_true, true_implies, false_implies, kl_i, kl_n, kl_l, kl_r, Option.toList, List.cons_append, List.nil_append, if_true, if_false, u2s, lt00, lt01, lt02, lt03, le10, le20, le30, ne10, ne20, ne30, eq00]
            exact fin _
        · obtain ⟨q1, q2, q3⟩ := ItF_ok e
          rw [e] at hN hS
          dsimp only at hN hS
          simp only [e_X6_readInto_58, e_X6_readInto_61, e_X6_readInto_62, e_X6_readInto_65, e_X6_readInto_66, e_X6_readInto_67, e_X6_readInto_70, ne10, nI_1, true_and, and_true, rf_s, not_true_eq_false, not_false_eq_true, true_implies, false_implies, kl_i, kl_n, kl_l, kl_r, Option.toList, List.cons_append, List.nil_append, if_true, if_false, u2s, lt00, lt01, lt02, lt03, le10, le20, le30, ne10, ne20, ne30, eq00]
          refine ih (i + 1) I' J' s' (it + 1) _ _ a1 a2 a3 a4 (by omega) (by omega) (fun s2 e2 I2 J2 b1 b2 b3 => ?_) (fun l s2 e2 I2 J2 b1 b2 b3 b4 b5 b6 => ?_)
          · rw [e2] at hN
            exact hN s2 rfl I2 J2 (((Fx.u _ _).tr a5).tr b1) b2 b3
          · rw [e2] at hS
            refine hS (i' :: l) s2 rfl I2 J2 (((Fx.u _ _).tr a5).tr b1) b2 b3 ?_ ?_ ?_
            · rw [b4, List.length_cons, show it + 1 + l.length = it + (l.length + 1) by omega]
            · rw [b5, ItsO, Bool.or_assoc]
            · rw [ItsO, ItsG, ← Bool.or_assoc]
              exact b6
      · have eR : ItsR c n (f + 1) s = (none, s) := by unfold ItsR; rw [if_neg hy, if_pos hsn]
        rw [k_skipN hx0 ht (by decide) hy]
        have fin : ∀ x3 : Option Value, Wp S N (d + 5) MX6_readInto 73 [some (.ref x), some (.ref r), some (.int 0), x3] [] I J P Q := fun x3 => in_end (b := false) (v := nI s) hx0 h5.symm (hN s eR _ J ((Fx.u _ _).tr (Fx.u _ _)) (u2s _ _ _ _) (by rw [u2k _ _ _ (by decide)]; exact u2s _ _ _ _))
        simp only [e_X6_readInto_50, e_X6_readInto_65, e_X6_readInto_66, e_X6_readInto_67, e_X6_readInto_70, nI_1, true_and, and_true, rf_s, not_true_eq_false, not_false_eq_true, true_implies, false_implies, kl_i, kl_n, kl_l, kl_r, Option.toList, List.cons_append, List.nil_append, if_true, if_false, u2s, lt00, lt01, lt02, lt03, le10, le20, le30, ne10, ne20, ne30, eq00]
        by_cases hi2 : (80 : Int32) ≤ nI (i + 1)
        · simp only [e_X6_readInto_23, e_X6_readInto_24, e_X6_readInto_26, hi2, true_and, and_true, rf_s, not_true_eq_false, not_false_eq_true, true_implies, false_implies, kl_i, kl_n, kl_l, kl_r, Option.toList, List.cons_append, List.nil_append, if_true, if_false, u2s, lt00, lt01, lt02, lt03, le10, le20, le30, ne10, ne20, ne30, eq00]
          exact fin _
        · simp only [e_X6_readInto_23, e_X6_readInto_24, e_X6_readInto_26, e_X6_readInto_29, e_X6_readInto_30, hi2, true_and, and_true, rf_s, not_true_eq_false, not_false_eq_true, true_implies, false_implies, kl_i, kl_n, kl_l, kl_r, Option.toList, List.cons_append, List.nil_append, if_true, if_false, u2s, lt00, lt01, lt02, lt03, le10, le20, le30, ne10, ne20, ne30, eq00]
          exact fin _
    · refine key i I J s it o t ht hd h4 h3 hsn (hS [] s ?_)
      unfold ItsR
      rw [if_neg (fun z => hsn z.1), if_neg hsn]
/-- a whole text read -/
theorem k_readInto (hx : RtS S N P x) (hs : RuS S N P r π) (hdis : x + 3 ≤ r ∨ r + 25 ≤ x) (hc : I (x + 1) = c) (h1 : I x 1 = nI n) (hn : n ≤ 80) (hd : DS I J r π false t hF)
    (hN : ∀ s', ItsF c n 81 0 = (none, s') → ∀ I' J', Fx x r I I' J J' → I' x 1 = 0 → I' x 2 = nI s' → Q none I' J' P)
    (hS : ∀ l s', ItsF c n 81 0 = (some l, s') → ∀ I' J', Fx x r I I' J J' → I' x 1 = 0 → I' x 2 = -1 → I' x 3 = nI l.length → I' x 4 = bI (!(ItsO l t)) → DS I' J' r π (ItsO l t) (ItsG l t) hF → Q none I' J' P) :
    CWp S N (d + 5) MX6_readInto [.ref x, .ref r] I J P Q := by
  rw [c_X6_readInto]
  have hx0 := hx
  unfold RtS at hx
  rw [ItsF_R] at hN hS
  have fx0 : Fx x r I (u2 (u2 (u2 I x 5 0) x 3 0) x 4 1) J J := ((Fx.u _ _).tr (Fx.u _ _)).tr (Fx.u _ _)
  have ht : RT (u2 (u2 (u2 I x 5 0) x 3 0) x 4 1) x c n 0 := ⟨by rw [u2_off _ _ _ (by omega), u2_off _ _ _ (by omega), u2_off _ _ _ (by omega)]; exact hc, by rw [u2k _ _ _ (by decide), u2k _ _ _ (by decide), u2k _ _ _ (by decide)]; exact h1, by rw [u2k _ _ _ (by decide), u2k _ _ _ (by decide)]; exact u2s _ _ _ _, Nat.zero_le _, hn⟩
  simp only [e_X6_readInto_0, e_X6_readInto_1, e_X6_readInto_2, e_X6_readInto_5, e_X6_readInto_6, e_X6_readInto_7, e_X6_readInto_10, e_X6_readInto_11, e_X6_readInto_12 isB0, e_X6_readInto_12 isB1, e_X6_readInto_12 isB_ite, e_X6_readInto_15, e_X6_readInto_16, e_X6_readInto_17, hx, true_and, and_true, rf_s, not_true_eq_false, not_false_eq_true, true_implies, false_implies, kl_i, kl_n, kl_l, kl_r, Option.toList, List.cons_append, List.nil_append, if_true, if_false, u2s, lt00, lt01, lt02, lt03, le10, le20, le30, ne10, ne20, ne30, eq00]
  refine k_readItem (d := d) (it := 0) hx0 hs hdis ht (((hd.u hs hdis _ _).u hs hdis _ _).u hs hdis _ _) (by rw [u2s]; rfl) (by rw [u2k _ _ _ (by decide)]; exact u2s _ _ _ _) (fun s' e I' c1 c2 => ?_) (fun i' s' e I' J' a1 a2 a3 a4 a5 => ?_)
  · rw [e] at hN
    have h5' := c1.2.2.1
    have g1 : ¬ (80 : Int32) ≤ 0 := by decide
    have fin : ∀ x3 : Option Value, Wp S N (d + 5) MX6_readInto 73 [some (.ref x), some (.ref r), some (.int 0), x3] [] I' J P Q := fun x3 => in_end (b := false) (v := nI s') hx0 h5'.symm (hN s' rfl _ J ((fx0.tr c2).tr ((Fx.u _ _).tr (Fx.u _ _))) (u2s _ _ _ _) (by rw [u2k _ _ _ (by decide)]; exact u2s _ _ _ _))
    simp only [e_X6_readInto_20, e_X6_readInto_21, e_X6_readInto_22, e_X6_readInto_23, e_X6_readInto_24, e_X6_readInto_26, e_X6_readInto_29, e_X6_readInto_30, g1, true_and, and_true, rf_s, not_true_eq_false, not_false_eq_true, true_implies, false_implies, kl_i, kl_n, kl_l, kl_r, Option.toList, List.cons_append, List.nil_append, if_true, if_false, u2s, lt00, lt01, lt02, lt03, le10, le20, le30, ne10, ne20, ne30, eq00]
    exact fin _
  · obtain ⟨q1, q2, q3⟩ := ItF_ok e
    rw [e] at hN hS
    dsimp only at hN hS
    have z0 : (0 : Int32) = nI 0 := rfl
    simp only [e_X6_readInto_20, e_X6_readInto_21, e_X6_readInto_22, true_and, and_true, rf_s, not_true_eq_false, not_false_eq_true, true_implies, false_implies, kl_i, kl_n, kl_l, kl_r, Option.toList, List.cons_append, List.nil_append, if_true, if_false, u2s, lt00, lt01, lt02, lt03, le10, le20, le30, ne10, ne20, ne30, eq00]
    rw [z0]
    refine in_loop hx0 hs hdis 80 0 I' J' s' 1 _ _ a1 a2 a3 a4 (by omega) (by omega) (fun s2 e2 I2 J2 b1 b2 b3 => ?_) (fun l s2 e2 I2 J2 b1 b2 b3 b4 b5 b6 => ?_)
    · rw [e2] at hN
      exact hN s2 rfl I2 J2 ((fx0.tr a5).tr b1) b2 b3
    · rw [e2] at hS
      refine hS (i' :: l) s2 rfl I2 J2 ((fx0.tr a5).tr b1) b2 b3 ?_ ?_ ?_
      · rw [b4, List.length_cons, Nat.add_comm]
      · rw [b5, Bool.false_or, ItsO]
      · rw [ItsO, ItsG]
        rw [Bool.false_or] at b6
        exact b6
end KTE

/-! the invariant at the start -/
def fI9 : DL Int32 := [[(13, (-1))], [(87, (-1)), (86, (-1)), (85, (-1)), (84, (-1)), (83, (-1)), (82, (-1)), (0, 1)], [], [], [], [], [], [], [], [], [], [], [], [], []]
def fP9 : DL Nat := [[(22, 14), (20, 13), (19, 12), (18, 11), (17, 10), (16, 9), (15, 8), (9, 7), (6, 6), (5, 5), (3, 4), (2, 3), (1, 2), (0, 1)], [], [], [], [], [], [], [], [], [], [], [], [], [], []]
theorem cm9 {l : Launch} {E : tx_En} {a : Nat} (hs : ShL E a lMd) : CtM l E yX9_init cX9_init 2 1 a 14 1235 (fun I J P => I = IL a fI9 ∧ J = J0 ∧ P = PL a fP9) := cl9 hs
def sI : DL Int32 := ([] ++ wI8) ++ fI9
def sP : DL Nat := ([] ++ wP8.sh 0) ++ fP9.sh 303
def lAll : List (Nat × Nat) := lWb ++ lMd ++ [(11, 1)]
def iv (k : Nat) : Nat → Int32 := fun j => ((sI.getD k []).lookup j).getD 0
def SegP (P : PM) (r : Nat) (c : DL Nat) : Prop := ∀ k j o, (c.getD k []).lookup j = some o → P (r + k) j = some (r + o)
theorem SegP.sub {P : PM} {r q : Nat} {c c2 : DL Nat} (h : SegP P r c) (hc : (c.drop q).take c2.length = c2.sh q) : SegP P (r + q) c2 := by
  intro k j o hk
  have hlt : k < c2.length := by
    by_cases h9 : k < c2.length
    · exact h9
    · rw [List.getD_eq_getElem?_getD, List.getElem?_eq_none (by omega)] at hk
      cases hk
  have h1 : c.getD (q + k) [] = (c2.sh q).getD k [] := by
    rw [← hc, List.getD_eq_getElem?_getD, List.getD_eq_getElem?_getD, List.getElem?_take, if_pos hlt, List.getElem?_drop]
  have h2 : (c.getD (q + k) []).lookup j = some (o + q) := by
    rw [h1, getD_sh, lk_sh, hk]
    rfl
  have h3 := h (q + k) j (o + q) h2
  rw [Nat.add_assoc r q k, Nat.add_assoc r q o, Nat.add_comm q o]
  exact h3
theorem segP_PL {a : Nat} {d : DL Nat} : SegP (PL a d) a d := by
  intro k j o h
  unfold PL
  rw [if_pos (Nat.le_add_right _ _), Nat.add_sub_cancel_left, h]
  rfl
section SEG
variable {E : tx_En} {P : PM} {r : Nat}
theorem ruS0 (hS : ShL E r lRu) (hP : SegP P r fP7) : RuS E.2.2.1 E.2.2.2.1 P r (fun k => k) := by
  refine ⟨(hS 0 _ _ rfl).1, ⟨hP 0 1 1 rfl, hP 0 2 2 rfl, hP 0 3 3 rfl, hP 0 5 4 rfl, hP 0 6 5 rfl, hP 0 8 6 rfl⟩, ⟨(hS 1 _ _ rfl).1, (hS 2 _ _ rfl).1, (hS 3 _ _ rfl).1, (hS 4 _ _ rfl).1, (hS 5 _ _ rfl).1, (hS 6 _ _ rfl).1⟩, ⟨(hS 1 _ _ rfl).2, (hS 2 _ _ rfl).2, (hS 3 _ _ rfl).2, (hS 4 _ _ rfl).2, (hS 5 _ _ rfl).2, (hS 6 _ _ rfl).2⟩, fun k hk => ⟨hk, ?_⟩, fun j k _ _ h => h, fun j hj => ?_⟩
  · have h := hP 6 k (7 + 3 * k) ((by decide +kernel : ∀ k, k < 6 → (fP7.getD 6 []).lookup k = some (7 + 3 * k)) k hk)
    rwa [← Nat.add_assoc] at h
  · have a1 := hS (7 + 3 * j) 2 0 ((by decide +kernel : ∀ k, k < 6 → lRu[7 + 3 * k]? = some (2, 0)) j hj)
    have a2 := hS (8 + 3 * j) 10 6 ((by decide +kernel : ∀ k, k < 6 → lRu[8 + 3 * k]? = some (10, 6)) j hj)
    have a3 := hS (9 + 3 * j) 11 6 ((by decide +kernel : ∀ k, k < 6 → lRu[9 + 3 * k]? = some (11, 6)) j hj)
    have b1 := hP (7 + 3 * j) 0 (8 + 3 * j) ((by decide +kernel : ∀ k, k < 6 → (fP7.getD (7 + 3 * k) []).lookup 0 = some (8 + 3 * k)) j hj)
    have b2 := hP (7 + 3 * j) 1 (9 + 3 * j) ((by decide +kernel : ∀ k, k < 6 → (fP7.getD (7 + 3 * k) []).lookup 1 = some (9 + 3 * k)) j hj)
    rw [← Nat.add_assoc] at a1 a2 a3
    rw [← Nat.add_assoc, ← Nat.add_assoc] at b1 b2
    exact ⟨a1.1, b1, b2, a2.1, a3.1, a2.2, a3.2⟩
theorem leS0 (hS : ShL E r lLe) (hP : SegP P r fP5) : LeS E.2.2.1 E.2.2.2.1 P r (fun k => k) :=
  ⟨(hS 0 _ _ rfl).1, ⟨hP 0 0 1 rfl, hP 0 1 26 rfl, hP 0 2 27 rfl, hP 0 3 28 rfl, hP 0 4 29 rfl⟩, ⟨(hS 26 _ _ rfl).1, (hS 27 _ _ rfl).1, (hS 28 _ _ rfl).1, (hS 29 _ _ rfl).1⟩, ⟨(hS 26 _ _ rfl).2, (hS 27 _ _ rfl).2, (hS 28 _ _ rfl).2, (hS 29 _ _ rfl).2⟩, ruS0 (shl_sub hS (q := 1) (by decide +kernel)) (hP.sub (q := 1) (by decide +kernel))⟩
theorem hiS0 (hS : ShL E r lHi) (hP : SegP P r fP4) : HiS E.2.2.1 E.2.2.2.1 P r (fun _ k => k) := by
  refine ⟨(hS 0 _ _ rfl).1, hP 0 0 1 rfl, (hS 1 _ _ rfl).1, (hS 1 _ _ rfl).2, fun i hi => ⟨?_, ?_⟩⟩
  · have h := hP 1 i (2 + 30 * i) ((by decide +kernel : ∀ k, k < 6 → (fP4.getD 1 []).lookup k = some (2 + 30 * k)) i hi)
    rwa [← Nat.add_assoc] at h
  · have h := leS0 (P := P) (shl_sub hS (q := 2 + 30 * i) ((by decide +kernel : ∀ k, k < 6 → (lHi.drop (2 + 30 * k)).take lLe.length = lLe) i hi)) (hP.sub (q := 2 + 30 * i) ((by decide +kernel : ∀ k, k < 6 → (fP4.drop (2 + 30 * k)).take fP5.length = fP5.sh (2 + 30 * k)) i hi))
    rwa [← Nat.add_assoc] at h
theorem asS0 (hS : ShL E r lAs) (hP : SegP P r fP0) : AsS E.2.2.1 E.2.2.2.1 P r := by
  refine ⟨(hS 0 _ _ rfl).1, ⟨hP 0 4 1 rfl, hP 0 5 2 rfl, hP 0 6 3 rfl⟩, ⟨(hS 1 _ _ rfl).1, (hS 2 _ _ rfl).1, (hS 3 _ _ rfl).1⟩, ⟨(hS 1 _ _ rfl).2, (hS 2 _ _ rfl).2, (hS 3 _ _ rfl).2⟩, fun i hi => ?_⟩
  have a1 := hS (4 + i) 11 5 ((by decide +kernel : ∀ k, k < 6 → lAs[4 + k]? = some (11, 5)) i hi)
  have b1 := hP 3 i (4 + i) ((by decide +kernel : ∀ k, k < 6 → (fP0.getD 3 []).lookup k = some (4 + k)) i hi)
  rw [← Nat.add_assoc] at a1 b1
  exact ⟨b1, a1.1, a1.2⟩
theorem coS0 (hS : ShL E r lCo) (hP : SegP P r fP1) : CoS E.2.2.1 E.2.2.2.1 P r := ⟨(hS 0 _ _ rfl).1, hP 0 0 1 rfl, asS0 (shl_sub hS (q := 1) (by decide +kernel)) (hP.sub (q := 1) (by decide +kernel))⟩
theorem exS0 (hS : ShL E r lEx) (hP : SegP P r fP3) : ExS E.2.2.1 E.2.2.2.1 P r := ⟨(hS 0 _ _ rfl).1, hP 0 0 1 rfl, asS0 (shl_sub hS (q := 1) (by decide +kernel)) (hP.sub (q := 1) (by decide +kernel))⟩
theorem rtS0 (hS : ShL E r lRt) (hP : SegP P r fP6) : RtS E.2.2.1 E.2.2.2.1 P r := ⟨(hS 0 _ _ rfl).1, hP 0 0 1 rfl, hP 0 6 2 rfl, (hS 1 _ _ rfl).1, (hS 2 _ _ rfl).1, (hS 1 _ _ rfl).2, (hS 2 _ _ rfl).2⟩
theorem wbS0 (hS : ShL E r lAll) (hP : SegP P r sP) : WbS E.2.2.1 E.2.2.2.1 P r (fun k => k) (fun k => k) (fun k => k) (fun _ k => k) :=
  ⟨⟨(hS 0 _ _ rfl).1, hP 0 0 1 (by decide +kernel), hP 0 1 4 (by decide +kernel), hP 0 2 29 (by decide +kernel), hP 0 3 59 (by decide +kernel), hP 0 5 89 (by decide +kernel), hP 0 6 271 (by decide +kernel), hP 0 7 281 (by decide +kernel), hP 0 8 292 (by decide +kernel)⟩, rtS0 (shl_sub hS (q := 1) (by decide +kernel)) (hP.sub (q := 1) (by decide +kernel)), ruS0 (shl_sub hS (q := 4) (by decide +kernel)) (hP.sub (q := 4) (by decide +kernel)), leS0 (shl_sub hS (q := 29) (by decide +kernel)) (hP.sub (q := 29) (by decide +kernel)), leS0 (shl_sub hS (q := 59) (by decide +kernel)) (hP.sub (q := 59) (by decide +kernel)), hiS0 (shl_sub hS (q := 89) (by decide +kernel)) (hP.sub (q := 89) (by decide +kernel)), asS0 (shl_sub hS (q := 271) (by decide +kernel)) (hP.sub (q := 271) (by decide +kernel)), coS0 (shl_sub hS (q := 281) (by decide +kernel)) (hP.sub (q := 281) (by decide +kernel)), exS0 (shl_sub hS (q := 292) (by decide +kernel)) (hP.sub (q := 292) (by decide +kernel))⟩
theorem mdS0 (hS : ShL E r lMd) (hP : SegP P r fP9) : MdS E.2.2.1 E.2.2.2.1 P r := ⟨(hS 0 _ _ rfl).1, ⟨hP 0 0 1 (by decide +kernel), hP 0 1 2 (by decide +kernel), hP 0 2 3 (by decide +kernel), hP 0 3 4 (by decide +kernel), hP 0 5 5 (by decide +kernel), hP 0 6 6 (by decide +kernel), hP 0 9 7 (by decide +kernel), hP 0 15 8 (by decide +kernel), hP 0 16 9 (by decide +kernel), hP 0 17 10 (by decide +kernel), hP 0 18 11 (by decide +kernel), hP 0 19 12 (by decide +kernel), hP 0 20 13 (by decide +kernel), hP 0 22 14 (by decide +kernel)⟩, ⟨(hS 1 _ _ rfl).1, (hS 2 _ _ rfl).1, (hS 3 _ _ rfl).1, (hS 4 _ _ rfl).1, (hS 5 _ _ rfl).1, (hS 6 _ _ rfl).1, (hS 7 _ _ rfl).1, (hS 8 _ _ rfl).1, (hS 9 _ _ rfl).1, (hS 10 _ _ rfl).1, (hS 11 _ _ rfl).1, (hS 12 _ _ rfl).1, (hS 13 _ _ rfl).1, (hS 14 _ _ rfl).1⟩, ⟨(hS 1 _ _ rfl).2, (hS 2 _ _ rfl).2, (hS 3 _ _ rfl).2, (hS 4 _ _ rfl).2, (hS 5 _ _ rfl).2, (hS 6 _ _ rfl).2, (hS 7 _ _ rfl).2, (hS 8 _ _ rfl).2, (hS 9 _ _ rfl).2, (hS 10 _ _ rfl).2, (hS 11 _ _ rfl).2, (hS 12 _ _ rfl).2, (hS 13 _ _ rfl).2, (hS 14 _ _ rfl).2⟩⟩
end SEG
theorem bd_z {v : Int32} {n : Nat} (h : v = 0) : Bd v n := ⟨0, Nat.zero_le _, h⟩
theorem iv_z : ∀ k, k < 82 → 1 ≤ k → iv 304 k = 0 := by decide +kernel
theorem iv_m : ∀ p, p < 6 → iv 304 (82 + p) = -1 := by decide +kernel
theorem gd_0 : Gd (iv 304) 1 0 0 :=
  ⟨⟨by decide, by decide, by decide, by decide +kernel, by decide +kernel, by decide +kernel⟩, fun p hp => Or.inl (iv_m p hp), by decide, fun k hk => ⟨bd_z (iv_z _ (by omega) (by omega)), bd_z (iv_z _ (by omega) (by omega))⟩, fun j hj => bd_z (iv_z _ (by omega) (by omega)), ⟨bd_z (iv_z _ (by omega) (by omega)), bd_z (iv_z _ (by omega) (by omega))⟩, fun k hk => absurd hk (Nat.not_lt_zero _), fun k hk => absurd hk (Nat.not_lt_zero _), fun p hp => ⟨bd_z (iv_z _ (by omega) (by omega)), bd_z (iv_z _ (by omega) (by omega)), bd_z (iv_z _ (by omega) (by omega))⟩⟩
def Iini (x b : Nat) (xs : Nat → Int32) : IM := fun z => if z = b then xs else IL x sI z
section IV0
variable {E : tx_En} {x b : Nat} {xs : Nat → Int32}
theorem ini_at (hb : b < x) (k : Nat) : Iini x b xs (x + k) = iv k := by
  unfold Iini
  rw [if_neg (by omega)]
  funext j
  unfold IL iv
  rw [if_pos (Nat.le_add_right _ _), Nat.add_sub_cancel_left]
theorem led_0 (hb : b < x) : Led (Iini x b xs) J0 (x + 29) (fun k => k) (iv 304) (fun _ => 0) 1 0 0 := by
  have e : ∀ k, Iini x b xs (x + k) = iv k := ini_at hb
  refine ⟨⟨⟨?_, ?_, ?_⟩, fun k hk => ?_, fun j hj => ?_, fun k hk => absurd hk (Nat.not_lt_zero _), fun k hk => absurd hk (Nat.not_lt_zero _)⟩, ?_, fun p hp => ?_⟩
  · show Iini x b xs (x + 30) 0 = _
    rw [e]; decide +kernel
  · show Iini x b xs (x + 30) 4 = _
    rw [e]; decide +kernel
  · show Iini x b xs (x + 30) 7 = _
    rw [e]; decide +kernel
  · show Iini x b xs (x + 31) k = _ ∧ Iini x b xs (x + 32) k = _
    rw [e, e]
    exact (by decide +kernel : ∀ k, k < 1 → iv 31 k = iv 304 (1 + 2 * k) ∧ iv 32 k = iv 304 (2 + 2 * k)) k hk
  · show Iini x b xs (x + 33) j = _
    rw [e]
    exact (by decide +kernel : ∀ k, k < 5 → iv 33 k = iv 304 (13 + k)) j hj
  · show Iini x b xs (x + 29) 5 = _
    rw [e]; decide +kernel
  · show Iini x b xs (x + 55) p = _ ∧ Iini x b xs (x + 56) p = _ ∧ Iini x b xs (x + 57) p = _ ∧ Iini x b xs (x + 58) p = _
    rw [e, e, e, e]
    exact (by decide +kernel : ∀ p, p < 6 → iv 55 p = iv 304 (64 + 3 * p) ∧ iv 56 p = iv 304 (65 + 3 * p) ∧ iv 57 p = iv 304 (66 + 3 * p) ∧ iv 58 p = iv 304 (82 + p)) p hp
theorem iv_c : iv 310 = iv 2 := by
  have h : sI.getD 310 [] = sI.getD 2 [] := by decide +kernel
  unfold iv
  rw [h]
theorem iv_start (hS : ShL E x lAll) (hb : b < x) : Iv E.2.2.1 E.2.2.2.1 x (x + 303) (x + 318) b xs (PL x sP) (Iini x b xs) J0 := by
  have e : ∀ k, Iini x b xs (x + k) = iv k := ini_at hb
  refine ⟨⟨by omega, by omega, hb⟩, ⟨(hS 318 11 1 (by decide +kernel)).1, (hS 318 11 1 (by decide +kernel)).2⟩, if_pos rfl, iv 304, fun _ => 0, 1, 0, 0, 0, fun _ _ => 0, fun _ _ => 0, 0, iv 306, fun _ => 0, iv 2, 0, -1, gd_0, by decide, ?_, ?_⟩
  · refine ⟨fun k => k, fun k => k, fun k => k, fun _ k => k, 0, wbS0 hS segP_PL, led_0 hb, ⟨by decide, by decide, ?_, ?_, fun i hi => absurd hi (Nat.not_lt_zero _)⟩, ⟨?_, Or.inl rfl⟩, e 2, ?_, ?_⟩
    · rw [e]; decide +kernel
    · rw [e]; decide +kernel
    · show Iini x b xs (x + 0) 4 = _
      rw [e]; decide +kernel
    · rw [e]; decide +kernel
    · rw [e]; decide +kernel
  · refine ⟨mdS0 (shl_sub hS (q := 303) (by decide +kernel)) (segP_PL.sub (q := 303) (by decide +kernel)), e 304, rfl, ⟨by decide, ?_, fun i hi => absurd hi (Nat.not_lt_zero _)⟩, ⟨?_, e 306, rfl⟩, (e 310).trans iv_c, ?_, ?_⟩
    · rw [e]; decide +kernel
    · rw [e]; decide +kernel
    · rw [e]; decide +kernel
    · rw [e]; decide +kernel
end IV0

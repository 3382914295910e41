/-! memory by lists: what the cells of a growing world hold, relative to its first address -/
abbrev DL (α : Type) : Type := List (List (Nat × α))
def DL.up {α : Type} : DL α → Nat → Nat → α → DL α
  | [], _, _, _ => []
  | l :: d, 0, j, v => ((j, v) :: l) :: d
  | l :: d, k + 1, j, v => l :: DL.up d k j v
def PL (a : Nat) (d : DL Nat) : PM := fun z j => if a ≤ z then ((d.getD (z - a) []).lookup j).map (fun o => a + o) else none
def IL (a : Nat) (d : DL Int32) : IM := fun z j => if a ≤ z then ((d.getD (z - a) []).lookup j).getD 0 else 0
def DL.sh (n : Nat) (d : DL Nat) : DL Nat := d.map (fun l => l.map (fun q => (q.1, q.2 + n)))
theorem PL_nil {a : Nat} {d : DL Nat} (h : ∀ k, d.getD k [] = []) : PL a d = P0 := by
  funext z j
  unfold PL P0
  split
  · rw [h]; rfl
  · rfl
theorem IL_nil {a : Nat} {d : DL Int32} (h : ∀ k, d.getD k [] = []) : IL a d = I0 := by
  funext z j
  unfold IL I0
  split
  · rw [h]; rfl
  · rfl
theorem getD_up {α : Type} {j : Nat} {v : α} : ∀ (d : DL α) (k i : Nat), k < d.length → (d.up k j v).getD i [] = if i = k then (j, v) :: d.getD i [] else d.getD i []
  | [], _, _, h => absurd h (Nat.not_lt_zero _)
  | l :: d, 0, 0, _ => rfl
  | l :: d, 0, i + 1, _ => by
    rw [if_neg (by omega)]
    rfl
  | l :: d, k + 1, 0, _ => by
    rw [if_neg (by omega)]
    rfl
  | l :: d, k + 1, i + 1, h => by
    have h1 := getD_up (j := j) (v := v) d k i (by simpa using h)
    show (DL.up d k j v).getD i [] = _
    rw [h1]
    by_cases e : i = k
    · rw [if_pos e, if_pos (by omega)]
      rfl
    · rw [if_neg e, if_neg (by omega)]
      rfl
theorem PL_put {a k j v : Nat} {d : DL Nat} (hk : k < d.length) : u2 (PL a d) (a + k) j (some (a + v)) = PL a (d.up k j v) := by
  funext z i
  unfold u2 PL
  by_cases hz : a ≤ z
  · rw [if_pos hz, if_pos hz, getD_up d _ _ hk]
    by_cases h : z = a + k
    · subst h
      rw [show a + k - a = k by omega, if_pos rfl]
      by_cases hj : i = j
      · subst hj
        simp
      · rw [if_neg (fun q => hj q.2)]
        rw [List.lookup_cons, show (i == j) = false from beq_eq_false_iff_ne.mpr hj]
    · rw [if_neg (fun q => h q.1), if_neg (by omega)]
  · rw [if_neg (fun q => hz (by omega)), if_neg hz, if_neg hz]
theorem IL_put {a k j : Nat} {v : Int32} {d : DL Int32} (hk : k < d.length) : u2 (IL a d) (a + k) j v = IL a (d.up k j v) := by
  funext z i
  unfold u2 IL
  by_cases hz : a ≤ z
  · rw [if_pos hz, if_pos hz, getD_up d _ _ hk]
    by_cases h : z = a + k
    · subst h
      rw [show a + k - a = k by omega, if_pos rfl]
      by_cases hj : i = j
      · subst hj
        simp
      · rw [if_neg (fun q => hj q.2)]
        rw [List.lookup_cons, show (i == j) = false from beq_eq_false_iff_ne.mpr hj]
    · rw [if_neg (fun q => h q.1), if_neg (by omega)]
  · rw [if_neg (fun q => hz (by omega)), if_neg hz, if_neg hz]
theorem dl_app {α : Type} {d d2 : DL α} {i : Nat} : (d ++ d2).getD i [] = if i < d.length then d.getD i [] else d2.getD (i - d.length) [] := by
  rw [List.getD_eq_getElem?_getD]
  split
  · next h => rw [List.getElem?_append_left h, ← List.getD_eq_getElem?_getD]
  · next h => rw [List.getElem?_append_right (by omega), ← List.getD_eq_getElem?_getD]
/-- one cell more, blank -/
theorem PL_new {a : Nat} {d : DL Nat} : PL a d = PL a (d ++ [[]]) := by
  funext z j
  unfold PL
  by_cases hz : a ≤ z
  · rw [if_pos hz, if_pos hz, dl_app]
    split
    · rfl
    · next h =>
      rw [List.getD_eq_getElem?_getD, List.getElem?_eq_none (by omega)]
      cases h2 : z - a - d.length with
      | zero => rfl
      | succ n => rfl
  · rw [if_neg hz, if_neg hz]
theorem IL_new {a : Nat} {d : DL Int32} : IL a d = IL a (d ++ [[]]) := by
  funext z j
  unfold IL
  by_cases hz : a ≤ z
  · rw [if_pos hz, if_pos hz, dl_app]
    split
    · rfl
    · next h =>
      rw [List.getD_eq_getElem?_getD, List.getElem?_eq_none (by omega)]
      cases h2 : z - a - d.length with
      | zero => rfl
      | succ n => rfl
  · rw [if_neg hz, if_neg hz]
theorem lk_sh (n : Nat) : ∀ (l : List (Nat × Nat)) (j : Nat), (l.map (fun q => (q.1, q.2 + n))).lookup j = (l.lookup j).map (fun o => o + n)
  | [], _ => rfl
  | q :: l, j => by
    rw [List.map_cons, List.lookup_cons, List.lookup_cons, lk_sh n l j]
    cases h : j == q.1 <;> simp
theorem getD_sh {n i : Nat} {d : DL Nat} : (d.sh n).getD i [] = (d.getD i []).map (fun q => (q.1, q.2 + n)) := by
  unfold DL.sh
  rw [List.getD_eq_getElem?_getD, List.getD_eq_getElem?_getD, List.getElem?_map]
  cases d[i]? <;> rfl
/-- the world with what a constructor made behind it -/
theorem PL_mrg {a n : Nat} {d c : DL Nat} (hn : d.length = n) : mrg (a + n) (PL a d) (PL (a + n) c) = PL a (d ++ c.sh n) := by
  funext z j
  by_cases h : a + n ≤ z
  · rw [mrg_hi h]
    unfold PL
    rw [if_pos h, if_pos (by omega), dl_app, if_neg (by omega), getD_sh, lk_sh, hn, show z - a - n = z - (a + n) by omega]
    cases (c.getD (z - (a + n)) []).lookup j with
    | none => rfl
    | some o => show some (a + n + o) = some (a + (o + n)); congr 1; omega
  · rw [mrg_lo (by omega)]
    unfold PL
    by_cases hz : a ≤ z
    · rw [if_pos hz, if_pos hz, dl_app, if_pos (by omega)]
    · rw [if_neg hz, if_neg hz]
theorem IL_mrg {a n : Nat} {d c : DL Int32} (hn : d.length = n) : mrg (a + n) (IL a d) (IL (a + n) c) = IL a (d ++ c) := by
  funext z j
  by_cases h : a + n ≤ z
  · rw [mrg_hi h]
    unfold IL
    rw [if_pos h, if_pos (by omega), dl_app, if_neg (by omega), hn, show z - a - n = z - (a + n) by omega]
  · rw [mrg_lo (by omega)]
    unfold IL
    by_cases hz : a ≤ z
    · rw [if_pos hz, if_pos hz, dl_app, if_pos (by omega)]
    · rw [if_neg hz, if_neg hz]
theorem J0_mrg {b : Nat} : mrg b J0 J0 = J0 := by
  funext z
  unfold mrg
  split <;> rfl
/-- blank behind the last cell -/
theorem PL_end {a n : Nat} {d : DL Nat} (hn : d.length ≤ n) : PL a d (a + n) = fun _ => none := by
  funext j
  unfold PL
  rw [if_pos (by omega), show a + n - a = n by omega, List.getD_eq_getElem?_getD, List.getElem?_eq_none hn]
  rfl
theorem IL_end {a n : Nat} {d : DL Int32} (hn : d.length ≤ n) : IL a d (a + n) = fun _ => 0 := by
  funext j
  unfold IL
  rw [if_pos (by omega), show a + n - a = n by omega, List.getD_eq_getElem?_getD, List.getElem?_eq_none hn]
  rfl
/-- new long[6][5] in the lists -/
theorem PL_mu {a n : Nat} {d : DL Nat} (hn : d.length = n) : Pmu (PL a d) (a + n) = PL a (d ++ ([[(0, n + 1), (1, n + 2), (2, n + 3), (3, n + 4), (4, n + 5), (5, n + 6)]] ++ [[], [], [], [], [], []])) := by
  funext z j
  unfold Pmu
  by_cases h : z = a + n
  · subst h
    rw [if_pos rfl, show PL a (d ++ ([[(0, n + 1), (1, n + 2), (2, n + 3), (3, n + 4), (4, n + 5), (5, n + 6)]] ++ [[], [], [], [], [], []])) (a + n) j = (((([[(0, n + 1), (1, n + 2), (2, n + 3), (3, n + 4), (4, n + 5), (5, n + 6)]] ++ [[], [], [], [], [], []] : DL Nat)).getD 0 []).lookup j).map (fun o => a + o) from by
      unfold PL
      rw [if_pos (by omega), dl_app, if_neg (by omega), show a + n - a - d.length = 0 by omega]]
    match j with
    | 0 => rfl
    | 1 => rfl
    | 2 => rfl
    | 3 => rfl
    | 4 => rfl
    | 5 => rfl
    | j + 6 => 
      show (if j + 6 < 6 then some (a + n + 1 + (j + 6)) else none) = _
      rw [if_neg (by omega)]
      rfl
  · rw [if_neg h]
    unfold PL
    by_cases hz : a ≤ z
    · rw [if_pos hz, if_pos hz, dl_app]
      split
      · rfl
      · next h3 =>
        rw [List.getD_eq_getElem?_getD, List.getElem?_eq_none (by omega)]
        obtain ⟨q, hq⟩ : ∃ q, z - a - d.length = q + 1 := ⟨z - a - d.length - 1, by omega⟩
        rw [hq]
        match q with
        | 0 => rfl
        | 1 => rfl
        | 2 => rfl
        | 3 => rfl
        | 4 => rfl
        | 5 => rfl
        | q + 6 => rfl
    · rw [if_neg hz, if_neg hz]

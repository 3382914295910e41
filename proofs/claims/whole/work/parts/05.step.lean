/-! locals: a list of slots, what is known of each -/
def ents : Nat → List (Option Value) → List (Nat × Value)
  | _, [] => []
  | k, none :: r => ents (k + 1) r
  | k, some v :: r => (k, v) :: ents (k + 1) r
theorem ents_mem : ∀ (ll : List (Option Value)) (k i : Nat) (v : Value), (i, v) ∈ ents k ll ↔ ∃ j, i = k + j ∧ ll[j]? = some (some v)
  | [], k, i, v => by simp [ents]
  | none :: r, k, i, v => by
    simp only [ents]
    rw [ents_mem r (k + 1) i v]
    constructor
    · rintro ⟨j, h1, h2⟩
      exact ⟨j + 1, by omega, by simpa using h2⟩
    · rintro ⟨j, h1, h2⟩
      cases j with
      | zero => simp at h2
      | succ j => exact ⟨j, by omega, by simpa using h2⟩
  | some w :: r, k, i, v => by
    simp only [ents, List.mem_cons, Prod.mk.injEq]
    rw [ents_mem r (k + 1) i v]
    constructor
    · rintro (⟨h1, h2⟩ | ⟨j, h1, h2⟩)
      · exact ⟨0, by omega, by simp [h2]⟩
      · exact ⟨j + 1, by omega, by simpa using h2⟩
    · rintro ⟨j, h1, h2⟩
      cases j with
      | zero => simp at h2; exact Or.inl ⟨by omega, h2.symm⟩
      | succ j => exact Or.inr ⟨j, by omega, by simpa using h2⟩
def Lv (ls : Array Slot) (nL : Nat) (ll : List (Option Value)) : Prop := ll.length = nL ∧ lv_has ls nL (ents 0 ll)
theorem Lv.get {ls : Array Slot} {nL : Nat} {ll : List (Option Value)} (h : Lv ls nL ll) {k : Nat} {v : Value} (hk : ll[k]? = some (some v)) : ls[k]? = some (.val v) :=
  h.2.2.2 (k, v) ((ents_mem ll 0 k v).mpr ⟨k, by omega, hk⟩)
/-- a slot that a store into the next one ends -/
def kl (x : Option Value) : Option Value := match x with
  | some (.long _) => none
  | some (.double _) => none
  | y => y
def sl1 : List (Option Value) → Nat → Value → List (Option Value)
  | [], _, _ => []
  | _ :: r, 0, v => some v :: r
  | x :: r, 1, v => kl x :: sl1 r 0 v
  | x :: r, i + 2, v => x :: sl1 r (i + 1) v
def sl2 : List (Option Value) → Nat → Value → List (Option Value)
  | _ :: _ :: r, 0, v => some v :: none :: r
  | x :: r, 1, v => kl x :: sl2 r 0 v
  | x :: r, i + 2, v => x :: sl2 r (i + 1) v
  | l, _, _ => l
theorem kl_some {x : Option Value} {w : Value} (h : kl x = some w) : x = some w ∧ ¬ w.category = 2 := by
  unfold kl at h
  split at h
  · cases h
  · cases h
  · next h1 h2 =>
    refine ⟨h, fun hc => ?_⟩
    cases w with
    | long y => exact h1 y h
    | double y => exact h2 y h
    | int y => simp [Value.category] at hc
    | float y => simp [Value.category] at hc
    | null => simp [Value.category] at hc
    | ref y => simp [Value.category] at hc
    | retAddr y => simp [Value.category] at hc
theorem sl1_len : ∀ (ll : List (Option Value)) (i : Nat) (v : Value), (sl1 ll i v).length = ll.length
  | [], _, _ => by simp [sl1]
  | _ :: _, 0, _ => by simp [sl1]
  | _ :: r, 1, v => by simp [sl1, sl1_len r 0 v]
  | _ :: r, i + 2, v => by simp [sl1, sl1_len r (i + 1) v]
theorem sl2_len : ∀ (ll : List (Option Value)) (i : Nat) (v : Value), (sl2 ll i v).length = ll.length
  | [], i, _ => by unfold sl2; simp
  | [_], 0, _ => by unfold sl2; simp
  | _ :: _ :: _, 0, _ => by simp [sl2]
  | _ :: r, 1, v => by simp [sl2, sl2_len r 0 v]
  | _ :: r, i + 2, v => by simp [sl2, sl2_len r (i + 1) v]
theorem sl1_get : ∀ (ll : List (Option Value)) (i : Nat) (v : Value) (j : Nat) (w : Value), (sl1 ll i v)[j]? = some (some w) → (j = i ∧ w = v) ∨ (j ≠ i ∧ ll[j]? = some (some w) ∧ ¬ (j + 1 = i ∧ w.category = 2))
  | [], _, _, _, _, h => by simp [sl1] at h
  | x :: r, 0, v, j, w, h => by
    cases j with
    | zero => simp [sl1] at h; exact Or.inl ⟨rfl, h.symm⟩
    | succ j => simp [sl1] at h; exact Or.inr ⟨by omega, by simpa using h, by omega⟩
  | x :: r, 1, v, j, w, h => by
    cases j with
    | zero =>
      simp [sl1] at h
      obtain ⟨h1, h2⟩ := kl_some h
      exact Or.inr ⟨by omega, by simp [h1], fun q => h2 q.2⟩
    | succ j =>
      have h1 : (sl1 r 0 v)[j]? = some (some w) := by simpa [sl1] using h
      rcases sl1_get r 0 v j w h1 with ⟨e1, e2⟩ | ⟨e1, e2, e3⟩
      · exact Or.inl ⟨by omega, e2⟩
      · exact Or.inr ⟨by omega, by simpa using e2, by omega⟩
  | x :: r, i + 2, v, j, w, h => by
    cases j with
    | zero => simp [sl1] at h; exact Or.inr ⟨by omega, by simp [h], by omega⟩
    | succ j =>
      have h1 : (sl1 r (i + 1) v)[j]? = some (some w) := by simpa [sl1] using h
      rcases sl1_get r (i + 1) v j w h1 with ⟨e1, e2⟩ | ⟨e1, e2, e3⟩
      · exact Or.inl ⟨by omega, e2⟩
      · exact Or.inr ⟨by omega, by simpa using e2, fun q => e3 ⟨by omega, q.2⟩⟩
theorem sl2_get : ∀ (ll : List (Option Value)) (i : Nat) (v : Value) (j : Nat) (w : Value), i + 1 < ll.length → (sl2 ll i v)[j]? = some (some w) → (j = i ∧ w = v) ∨ (j ≠ i ∧ j ≠ i + 1 ∧ ll[j]? = some (some w) ∧ ¬ (j + 1 = i ∧ w.category = 2))
  | [], _, _, _, _, hl, _ => by simp at hl
  | [_], 0, _, _, _, hl, _ => by simp at hl
  | x :: y :: r, 0, v, j, w, _, h => by
    cases j with
    | zero => simp [sl2] at h; exact Or.inl ⟨rfl, h.symm⟩
    | succ j =>
      cases j with
      | zero => simp [sl2] at h
      | succ j => simp [sl2] at h; exact Or.inr ⟨by omega, by omega, by simpa using h, by omega⟩
  | x :: r, 1, v, j, w, hl, h => by
    cases j with
    | zero =>
      simp [sl2] at h
      obtain ⟨h1, h2⟩ := kl_some h
      exact Or.inr ⟨by omega, by omega, by simp [h1], fun q => h2 q.2⟩
    | succ j =>
      have h1 : (sl2 r 0 v)[j]? = some (some w) := by simpa [sl2] using h
      rcases sl2_get r 0 v j w (by simp at hl; omega) h1 with ⟨e1, e2⟩ | ⟨e1, e2, e3, e4⟩
      · exact Or.inl ⟨by omega, e2⟩
      · exact Or.inr ⟨by omega, by omega, by simpa using e3, by omega⟩
  | x :: r, i + 2, v, j, w, hl, h => by
    cases j with
    | zero => simp [sl2] at h; exact Or.inr ⟨by omega, by omega, by simp [h], by omega⟩
    | succ j =>
      have h1 : (sl2 r (i + 1) v)[j]? = some (some w) := by simpa [sl2] using h
      rcases sl2_get r (i + 1) v j w (by simp at hl; omega) h1 with ⟨e1, e2⟩ | ⟨e1, e2, e3, e4⟩
      · exact Or.inl ⟨by omega, e2⟩
      · exact Or.inr ⟨by omega, by omega, by simpa using e3, fun q => e4 ⟨by omega, q.2⟩⟩
theorem Lv.put1 {nL : Nat} {ll : List (Option Value)} {i : Nat} {v : Value} {ls' : Array Slot} (hll : ll.length = nL) (h : lv_has ls' nL ((i, v) :: (ents 0 ll).filter (fun q => !(q.1 == i) && !(q.1 + 1 == i && q.2.category == 2)))) : Lv ls' nL (sl1 ll i v) := by
  refine ⟨by rw [sl1_len]; exact hll, h.1, h.2.1, fun q hq => ?_⟩
  obtain ⟨j, w⟩ := q
  obtain ⟨j', e1, e2⟩ := (ents_mem _ 0 j w).mp hq
  have e1 : j = j' := by omega
  subst e1
  refine h.2.2 (j, w) ?_
  rcases sl1_get ll i v j w e2 with ⟨a1, a2⟩ | ⟨a1, a2, a3⟩
  · subst a1; subst a2; exact List.mem_cons_self
  · refine List.mem_cons_of_mem _ (List.mem_filter.mpr ⟨(ents_mem ll 0 j w).mpr ⟨j, by omega, a2⟩, ?_⟩)
    show (!(j == i) && !(j + 1 == i && w.category == 2)) = true
    rw [show (j == i) = false from beq_eq_false_iff_ne.mpr a1]
    cases h3 : (j + 1 == i && w.category == 2) with
    | false => rfl
    | true =>
      rw [Bool.and_eq_true] at h3
      exact absurd ⟨eq_of_beq h3.1, eq_of_beq h3.2⟩ a3
theorem Lv.put2 {nL : Nat} {ll : List (Option Value)} {i : Nat} {v : Value} {ls' : Array Slot} (hll : ll.length = nL) (hi : i + 1 < nL) (h : lv_has ls' nL ((i, v) :: (ents 0 ll).filter (fun q => !(q.1 == i) && (!(q.1 == i + 1) && !(q.1 + 1 == i && q.2.category == 2))))) : Lv ls' nL (sl2 ll i v) := by
  refine ⟨by rw [sl2_len]; exact hll, h.1, h.2.1, fun q hq => ?_⟩
  obtain ⟨j, w⟩ := q
  obtain ⟨j', e1, e2⟩ := (ents_mem _ 0 j w).mp hq
  have e1 : j = j' := by omega
  subst e1
  refine h.2.2 (j, w) ?_
  rcases sl2_get ll i v j w (by omega) e2 with ⟨a1, a2⟩ | ⟨a1, a2, a3, a4⟩
  · subst a1; subst a2; exact List.mem_cons_self
  · refine List.mem_cons_of_mem _ (List.mem_filter.mpr ⟨(ents_mem ll 0 j w).mpr ⟨j, by omega, a3⟩, ?_⟩)
    show (!(j == i) && (!(j == i + 1) && !(j + 1 == i && w.category == 2))) = true
    rw [show (j == i) = false from beq_eq_false_iff_ne.mpr a1, show (j == i + 1) = false from beq_eq_false_iff_ne.mpr a2]
    cases h3 : (j + 1 == i && w.category == 2) with
    | false => rfl
    | true =>
      rw [Bool.and_eq_true] at h3
      exact absurd ⟨eq_of_beq h3.1, eq_of_beq h3.2⟩ a4
/-! the locals at a method's entry -/
def entl : List Value → List (Option Value)
  | [] => []
  | v :: r => if v.category = 2 then some v :: none :: entl r else some v :: entl r
def entL (vs : List Value) (n : Nat) : List (Option Value) := entl vs ++ List.replicate (n - (entl vs).length) none
theorem ents_app : ∀ (a b : List (Option Value)) (k : Nat), ents k (a ++ b) = ents k a ++ ents (k + a.length) b
  | [], b, k => by simp [ents]
  | none :: r, b, k => by simp only [List.cons_append, ents, List.length_cons]; rw [ents_app r b (k + 1), show k + 1 + r.length = k + (r.length + 1) by omega]
  | some v :: r, b, k => by simp only [List.cons_append, ents, List.length_cons]; rw [ents_app r b (k + 1), show k + 1 + r.length = k + (r.length + 1) by omega]
theorem ents_none : ∀ (n k : Nat), ents k (List.replicate n none) = []
  | 0, _ => rfl
  | n + 1, k => by simp only [List.replicate_succ, ents]; exact ents_none n (k + 1)
theorem ents_entl : ∀ (vs : List Value) (k : Nat), ents k (entl vs) = lv_args k vs
  | [], _ => rfl
  | v :: r, k => by
    by_cases h : v.category = 2
    · simp only [entl, h, if_true, ents, lv_args]
      rw [ents_entl r (k + 1 + 1)]
    · simp only [entl, h, if_false, ents, lv_args]
      rw [ents_entl r (k + 1)]
theorem entl_len : ∀ (vs : List Value), (entl vs).length = (lg_sl vs).length
  | [] => rfl
  | v :: r => by
    have h9 : lg_sl (v :: r) = (if v.category = 2 then [.val v, .second] else [.val v]) ++ lg_sl r := rfl
    by_cases h : v.category = 2
    · rw [h9]; simp [entl, h, entl_len r]
    · rw [h9]; simp [entl, h, entl_len r]
theorem Lv_entry (vs : List Value) {n : Nat} (h : (entl vs).length ≤ n) : Lv ((lg_sl vs ++ List.replicate (n - (lg_sl vs).length) Slot.unset).toArray) n (entL vs n) := by
  refine ⟨by simp [entL]; omega, ?_⟩
  rw [entL, ents_app, ents_none, List.append_nil, ents_entl]
  exact lv_entry vs (by rw [← entl_len]; exact h)

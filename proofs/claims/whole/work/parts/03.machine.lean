/-! ===== A PURE MACHINE over typed memory (ints, longs, references by address and place), one relation a step; what it does, the JVM does ===== -/
abbrev IM : Type := Nat → Nat → Int32
abbrev JM : Type := Nat → Nat → Int64
abbrev PM : Type := Nat → Nat → Option Nat
def u2 {α : Type} (f : Nat → Nat → α) (a k : Nat) (v : α) : Nat → Nat → α := fun x y => if x = a ∧ y = k then v else f x y
def uA {α : Type} (f : Nat → Nat → α) (a : Nat) (g : Nat → α) : Nat → Nat → α := fun x => if x = a then g else f x
theorem u2_row {α : Type} (f : Nat → Nat → α) (a k : Nat) (v : α) : u2 f a k v a = fun y => if y = k then v else f a y := by funext y; simp [u2]
theorem u2_off {α : Type} (f : Nat → Nat → α) {a b : Nat} (k : Nat) (v : α) (h : b ≠ a) : u2 f a k v b = f b := by funext y; simp [u2, h]
theorem uA_row {α : Type} (f : Nat → Nat → α) (a : Nat) (g : Nat → α) : uA f a g a = g := by simp [uA]
theorem uA_off {α : Type} (f : Nat → Nat → α) {a b : Nat} (g : Nat → α) (h : b ≠ a) : uA f a g b = f b := by simp [uA, h]
/-! classes by number, their fields by kinds: 0 int, 1 long, 2 reference -/
def tx_R : Nat → String
  | 0 => RX0 | 1 => RX1 | 2 => RX2 | 3 => RX3 | 4 => RX4 | 5 => RX5 | 6 => RX6 | 7 => RX7 | 8 => RX8 | 9 => RX9 | _ => RL
def tx_T : Nat → u_T
  | 0 => TX0 | 1 => TX1 | 2 => TX2 | 3 => TX3 | 4 => TX4 | 5 => TX5 | 6 => TX6 | 7 => TX7 | 8 => TX8 | _ => TX9
def tx_ty : Nat → Nat → FieldType
  | 0 => tyX0 | 1 => tyX1 | 2 => tyX2 | 3 => tyX3 | 4 => tyX4 | 5 => tyX5 | 6 => tyX6 | 7 => tyX7 | 8 => tyX8 | _ => tyX9
def tx_n : Nat → Nat
  | 0 => 8 | 1 => 7 | 2 => 2 | 3 => 1 | 4 => 3 | 5 => 6 | 6 => 8 | 7 => 9 | 8 => 9 | 9 => 23 | _ => 0
def tx_fk : Nat → List Nat
  | 0 => [0, 0, 0, 0, 2, 2, 2, 1]
  | 1 => [2, 0, 0, 0, 1, 1, 0]
  | 2 => [2, 2]
  | 3 => [2]
  | 4 => [2, 0, 0]
  | 5 => [2, 2, 2, 2, 2, 0]
  | 6 => [2, 0, 0, 0, 0, 0, 2, 0]
  | 7 => [0, 2, 2, 2, 0, 2, 2, 0, 2]
  | 8 => [2, 2, 2, 2, 0, 2, 2, 2, 2]
  | 9 => [2, 2, 2, 2, 0, 2, 2, 0, 0, 2, 0, 0, 0, 0, 0, 2, 2, 2, 2, 2, 2, 0, 2]
  | _ => []
theorem tx_10 {P : Nat → Prop} (h0 : P 0) (h1 : P 1) (h2 : P 2) (h3 : P 3) (h4 : P 4) (h5 : P 5) (h6 : P 6) (h7 : P 7) (h8 : P 8) (h9 : P 9) : ∀ k, k < 10 → P k := by
  intro k hk
  rcases (show k = 0 ∨ k = 1 ∨ k = 2 ∨ k = 3 ∨ k = 4 ∨ k = 5 ∨ k = 6 ∨ k = 7 ∨ k = 8 ∨ k = 9 by omega) with rfl | rfl | rfl | rfl | rfl | rfl | rfl | rfl | rfl | rfl <;> assumption
theorem tx_cl : ∀ k, k < 10 → vwCl[k + 2]? = some (tx_R k, tx_T k, tx_n k) := tx_10 rfl rfl rfl rfl rfl rfl rfl rfl rfl rfl
theorem tx_len : ∀ k, k < 10 → (tx_fk k).length = tx_n k := tx_10 rfl rfl rfl rfl rfl rfl rfl rfl rfl rfl
theorem tx_tyok : ∀ k, k < 10 → ∀ j, j < tx_n k → parseFieldDescriptor (tx_T k j).2.2.1 = some (tx_ty k j) := tx_10 tyX0_ok tyX1_ok tyX2_ok tyX3_ok tyX4_ok tyX5_ok tyX6_ok tyX7_ok tyX8_ok tyX9_ok
theorem tx_nmok : ∀ k, k < 10 → ∀ a, a < tx_n k → ∀ b, b < tx_n k → a ≠ b → (tx_T k a).2.1 ≠ (tx_T k b).2.1 := tx_10 nmX0 nmX1 nmX2 nmX3 nmX4 nmX5 nmX6 nmX7 nmX8 nmX9
theorem tx_lay : ∀ k, k < 10 → ∀ w ∈ u_ws (tx_R k) (tx_T k) (tx_n k), w ∈ lw_tbl := tx_10 (by decide +kernel) (by decide +kernel) (by decide +kernel) (by decide +kernel) (by decide +kernel) (by decide +kernel) (by decide +kernel) (by decide +kernel) (by decide +kernel) (by decide +kernel)
def tx_v (i : Nat → Int32) (j : Nat → Int64) (q : Nat → Option Nat) (t k : Nat) : Value := if t = 0 then .int (i k) else if t = 1 then .long (j k) else va_rf (q k)
def tx_fs (i : Nat → Int32) (j : Nat → Int64) (q : Nat → Option Nat) : List Nat → Nat → List Value
  | [], _ => []
  | t :: r, k => tx_v i j q t k :: tx_fs i j q r (k + 1)
theorem tx_fs_get (i : Nat → Int32) (j : Nat → Int64) (q : Nat → Option Nat) : ∀ (ts : List Nat) (k n t : Nat), ts[n]? = some t → (tx_fs i j q ts k)[n]? = some (tx_v i j q t (k + n))
  | [], _, _, _, h => by simp at h
  | u :: r, k, 0, t, h => by
    simp at h
    subst h
    rfl
  | u :: r, k, n + 1, t, h => by
    have h2 := tx_fs_get i j q r (k + 1) n t (by simpa using h)
    rw [show k + (n + 1) = k + 1 + n by omega]
    simpa [tx_fs] using h2
theorem tx_fs_len (i : Nat → Int32) (j : Nat → Int64) (q : Nat → Option Nat) : ∀ (ts : List Nat) (k : Nat), (tx_fs i j q ts k).length = ts.length
  | [], _ => rfl
  | _ :: r, k => by simp [tx_fs, tx_fs_len i j q r (k + 1)]
theorem tx_fs_off (i i' : Nat → Int32) (j j' : Nat → Int64) (q q' : Nat → Option Nat) : ∀ (ts : List Nat) (k : Nat), (∀ n, k ≤ n → i n = i' n ∧ j n = j' n ∧ q n = q' n) → tx_fs i j q ts k = tx_fs i' j' q' ts k
  | [], _, _ => rfl
  | t :: r, k, h => by
    obtain ⟨h1, h2, h3⟩ := h k (Nat.le_refl k)
    simp only [tx_fs, tx_v, h1, h2, h3]
    rw [tx_fs_off i i' j j' q q' r (k + 1) (fun n hn => h n (by omega))]
theorem tx_fs_put (i i' : Nat → Int32) (j j' : Nat → Int64) (q q' : Nat → Option Nat) (v : Value) : ∀ (ts : List Nat) (k n t : Nat), ts[n]? = some t → tx_v i' j' q' t (k + n) = v → (∀ m, m ≠ k + n → i m = i' m ∧ j m = j' m ∧ q m = q' m) → (tx_fs i j q ts k).set n v = tx_fs i' j' q' ts k
  | [], _, _, _, h, _, _ => by simp at h
  | u :: r, k, 0, t, h, hv, ho => by
    simp at h
    subst h
    simp only [tx_fs, List.set_cons_zero]
    rw [← hv, tx_fs_off i i' j j' q q' r (k + 1) (fun m hm => ho m (by omega))]
    rfl
  | u :: r, k, n + 1, t, h, hv, ho => by
    obtain ⟨h1, h2, h3⟩ := ho k (by omega)
    simp only [tx_fs, List.set_cons_succ, tx_v, h1, h2, h3]
    rw [tx_fs_put i i' j j' q q' v r (k + 1) n t (by simpa using h) (by rw [← hv]; congr 1; omega) (fun m hm => ho m (by omega))]
/-! a cell out of its shape and its rows -/
abbrev tx_G : Type := ClassId × ClassId × ClassId × ClassId × ClassId
def tx_E (G : tx_G) (sh ln : Nat) (i : Nat → Int32) (j : Nat → Int64) (q : Nat → Option Nat) : va_E :=
  if sh < 10 then .inr (sh + 2, tx_fs i j q (tx_fk sh) 0)
  else if sh = 10 then .inl (G.1, ln, .inl i)
  else if sh = 11 then .inl (G.2.1, ln, .inr (.inl j))
  else if sh = 12 then .inl (G.2.2.1, ln, .inr (.inr (.inr (.inr q))))
  else if sh = 13 then .inl (G.2.2.2.1, ln, .inr (.inr (.inr (.inr q))))
  else .inl (G.2.2.2.2, ln, .inr (.inr (.inr (.inr q))))
def tx_tys (G : tx_G) : List (ClassId × FieldType) := [(G.1, .int), (G.2.1, .long), (G.2.2.1, .object RX2), (G.2.2.2.1, .object RX5), (G.2.2.2.2, .array .long)]
def tx_cell (G : tx_G) (S N : Nat → Nat) (I : IM) (J : JM) (P : PM) (a : Nat) : va_E := tx_E G (S a) (N a) (I a) (J a) (P a)
theorem tx_cell_up (G : tx_G) (S N : Nat → Nat) (I I' : IM) (J J' : JM) (P P' : PM) (a : Nat) (e : va_E) (he : tx_cell G S N I' J' P' a = e) (ho : ∀ b, b ≠ a → I b = I' b ∧ J b = J' b ∧ P b = P' b) : va_up (tx_cell G S N I J P) a e = tx_cell G S N I' J' P' := by
  funext b
  by_cases h : b = a
  · subst h
    simp [va_up, he]
  · obtain ⟨h1, h2, h3⟩ := ho b h
    simp [va_up, h, tx_cell, h1, h2, h3]
/-! the worlds: (D, G, shapes, lengths, addresses) -/
abbrev tx_En : Type := va_G × tx_G × (Nat → Nat) × (Nat → Nat) × List Nat
def tx_W (E : tx_En) (I : IM) (J : JM) (P : PM) : va_W := va_pl E.2.2.2.2 (tx_cell E.2.1 E.2.2.1 E.2.2.2.1 I J P)
def Wd (E : tx_En) (A : Nat → Prop) (H0 : Heap) (I : IM) (J : JM) (P : PM) (H : Heap) (locs : List Loc) : Prop := va_P E.1 vwCl (tx_W E I J P) H ∧ va_D A (tx_W E I J P) ∧ va_S A H0 H locs
def tx_ok (E : tx_En) : Prop := ∀ a, E.2.2.1 a < 15 → a ∈ E.2.2.2.2
theorem tx_D_any {A : Nat → Prop} {L : List Nat} {f g : Nat → va_E} (h : va_D A (va_pl L f)) : va_D A (va_pl L g) := by
  have key : ∀ (k : Nat) (q : Nat × va_E), (va_pl L g)[k]? = some q → (va_pl L f)[k]? = some (q.1, f q.1) := by
    intro k q hk
    simp only [va_pl, List.getElem?_map] at hk ⊢
    cases hL : L[k]? with
    | none => rw [hL] at hk; cases hk
    | some b => rw [hL] at hk; cases hk; rfl
  exact ⟨fun i j x y hi hj hxy => h.1 i j _ _ (key i x hi) (key j y hj) hxy, fun k q hk => h.2 k (q.1, f q.1) (key k q hk)⟩
theorem tx_at {E : tx_En} (hE : tx_ok E) {I : IM} {J : JM} {P : PM} {a : Nat} (h : E.2.2.1 a < 15) : ∃ q0 : Nat, (tx_W E I J P)[q0]? = some (a, tx_cell E.2.1 E.2.2.1 E.2.2.2.1 I J P a) := va_pl_get (X := []) (hE a h)
theorem tx_set {E : tx_En} {A : Nat → Prop} {I I' : IM} {J J' : JM} {P P' : PM} {a q0 : Nat} (hE : tx_ok E) (hD : va_D A (tx_W E I J P)) (h : E.2.2.1 a < 15) (hq : (tx_W E I J P)[q0]? = some (a, tx_cell E.2.1 E.2.2.1 E.2.2.2.1 I J P a)) (e : va_E) (he : tx_cell E.2.1 E.2.2.1 E.2.2.2.1 I' J' P' a = e) (ho : ∀ b, b ≠ a → I b = I' b ∧ J b = J' b ∧ P b = P' b) : (tx_W E I J P).set q0 (a, e) = tx_W E I' J' P' := by
  have h1 := va_pl_set (X := []) (e := e) hD (hE a h) hq
  rw [tx_cell_up _ _ _ _ I' _ J' _ P' a e he ho] at h1
  exact h1

/-! the rules in the forms that the instructions' own rules take -/
section WP2
variable {S N : Nat → Nat} {d : Nat} {M : MR} {pc len : Nat} {i : Instr} {ll : List (Option Value)} {st st' : List Value} {I I' : IM} {J J' : JM} {P P' : PM} {Q : Option Value → IM → JM → PM → Prop}
theorem wp_iconst {n : Int} {v : Int32} (hv : Int32.ofInt n = v) (hd : decode M.2.1 pc = .ok (.iconst n, 1)) : Wp S N d M pc ll st I J P Q ↔ Wp S N d M (pc + 1) ll (.int v :: st) I J P Q := by
  subst hv
  exact wp_alu rfl rfl rfl hd
theorem wp_bipush {n : Int} {v : Int32} (hv : (Int8.ofInt n).toInt32 = v) (hd : decode M.2.1 pc = .ok (.bipush n, 2)) : Wp S N d M pc ll st I J P Q ↔ Wp S N d M (pc + 2) ll (.int v :: st) I J P Q := by
  subst hv
  exact wp_alu rfl rfl rfl hd
theorem wp_sipush {n : Int} {v : Int32} (hv : (Int16.ofInt n).toInt32 = v) (hd : decode M.2.1 pc = .ok (.sipush n, 3)) : Wp S N d M pc ll st I J P Q ↔ Wp S N d M (pc + 3) ll (.int v :: st) I J P Q := by
  subst hv
  exact wp_alu rfl rfl rfl hd
theorem wp_lconst {n : Fin 2} {v : Int64} (hv : Int64.ofNat (n : Nat) = v) (hd : decode M.2.1 pc = .ok (.lconst n, 1)) : Wp S N d M pc ll st I J P Q ↔ Wp S N d M (pc + 1) ll (.long v :: st) I J P Q := by
  subst hv
  exact wp_alu rfl rfl rfl hd
theorem wp_ldc2 {n : Nat} {v : Int64} (hv : cres M.2.2.2.2.1 n = some v) (hd : decode M.2.1 pc = .ok (.ldc2_w n, 3)) : Wp S N d M pc ll st I J P Q ↔ Wp S N d M (pc + 3) ll (.long v :: st) I J P Q :=
  wp_alu rfl rfl (by show (cres _ n).map _ = _; rw [hv]; rfl) hd
theorem wp_brn {b : Prop} {off : Int} {tgt : Nat} (hk1 : tx_k i = 5) (h : tx_br i st = some (¬ b, off, st')) (ht : ((pc : Nat) : Int) + off = ((tgt : Nat) : Int)) (hd : decode M.2.1 pc = .ok (i, 3)) : Wp S N d M pc ll st I J P Q ↔ (¬ b → Wp S N d M tgt ll st' I J P Q) ∧ (b → Wp S N d M (pc + 3) ll st' I J P Q) := by
  rw [wp_br hk1 h ht hd]
  exact ⟨fun q => ⟨q.1, fun z => q.2 (fun y => y z)⟩, fun q => ⟨q.1, fun z => q.2 (Classical.not_not.mp z)⟩⟩
theorem wp_iret {v : Int32} (hr : M.2.2.2.1 = some .int) (hd : decode M.2.1 pc = .ok (.ireturn, 1)) : Wp S N d M pc ll [.int v] I J P Q ↔ Q (some (.int v)) I J P :=
  wp_ret hd rfl (fun r' => ⟨fun h => h.2, fun h => ⟨⟨.int, hr, rfl⟩, h⟩⟩)
theorem wp_lret {v : Int64} (hr : M.2.2.2.1 = some .long) (hd : decode M.2.1 pc = .ok (.lreturn, 1)) : Wp S N d M pc ll [.long v] I J P Q ↔ Q (some (.long v)) I J P :=
  wp_ret hd rfl (fun r' => ⟨fun h => h.2, fun h => ⟨hr, h⟩⟩)
theorem wp_aret {v : Nat} {n : String} (hr : M.2.2.2.1 = some (.object n)) (hd : decode M.2.1 pc = .ok (.areturn, 1)) : Wp S N d M pc ll [.ref v] I J P Q ↔ Q (some (.ref v)) I J P :=
  wp_ret hd rfl (fun r' => ⟨fun h => h.2, fun h => ⟨⟨n, hr⟩, h⟩⟩)
theorem wp_vret (hr : M.2.2.2.1 = none) (hd : decode M.2.1 pc = .ok (.return_, 1)) : Wp S N d M pc ll [] I J P Q ↔ Q none I J P :=
  wp_ret hd rfl (fun r' => ⟨fun h => h.2, fun h => ⟨hr, h⟩⟩)
/-- a boolean's end: 0 or 1 -/
def isB (v : Int32) : Prop := narrow .boolean (.int v) = .int v ∧ fits .boolean (.int v) = true
theorem isB0 : isB 0 := ⟨by decide, by decide⟩
theorem isB1 : isB 1 := ⟨by decide, by decide⟩
theorem isB_ite {c : Prop} [h : Decidable c] : isB (if c then 1 else 0) := by split <;> first | exact isB1 | exact isB0
theorem wp_zret {v : Int32} (hr : M.2.2.2.1 = some .boolean) (hd : decode M.2.1 pc = .ok (.ireturn, 1)) (hb : isB v) : Wp S N d M pc ll [.int v] I J P Q ↔ Q (some (.int v)) I J P :=
  wp_ret hd rfl (fun r' => ⟨fun h => h.2, fun h => ⟨⟨.boolean, hr, hb.1⟩, h⟩⟩)
theorem wp_putI {n k j a : Nat} {v : Int32} (hf : fres M.2.2.2.2.1 n = some (k, j)) (hfin : (tx_T k j).2.2.2 = false) (h0 : (tx_fk k)[j]? = some 0) (h1 : tx_ty k j = .int) (hd : decode M.2.1 pc = .ok (.putfield n, 3)) : Wp S N d M pc ll (.int v :: .ref a :: st) I J P Q ↔ S a = k ∧ Wp S N d M (pc + 3) ll st (u2 I a j v) J P Q :=
  (wp_putf hf rfl hfin rfl hd).trans ⟨fun h => ⟨h.1.1, h.2⟩, fun h => ⟨⟨h.1, h0, by rw [h1]; rfl, by rw [h1]; rfl⟩, h.2⟩⟩
theorem wp_putJ {n k j a : Nat} {v : Int64} (hf : fres M.2.2.2.2.1 n = some (k, j)) (hfin : (tx_T k j).2.2.2 = false) (h0 : (tx_fk k)[j]? = some 1) (h1 : tx_ty k j = .long) (hd : decode M.2.1 pc = .ok (.putfield n, 3)) : Wp S N d M pc ll (.long v :: .ref a :: st) I J P Q ↔ S a = k ∧ Wp S N d M (pc + 3) ll st I (u2 J a j v) P Q :=
  (wp_putf hf rfl hfin rfl hd).trans ⟨fun h => ⟨h.1.1, h.2⟩, fun h => ⟨⟨h.1, h0, by rw [h1]; rfl, by rw [h1]; rfl⟩, h.2⟩⟩
theorem wp_putZ {n k j a : Nat} {v : Int32} (hf : fres M.2.2.2.2.1 n = some (k, j)) (hfin : (tx_T k j).2.2.2 = false) (h0 : (tx_fk k)[j]? = some 0) (h1 : tx_ty k j = .boolean) (hd : decode M.2.1 pc = .ok (.putfield n, 3)) (hb : isB v) : Wp S N d M pc ll (.int v :: .ref a :: st) I J P Q ↔ S a = k ∧ Wp S N d M (pc + 3) ll st (u2 I a j v) J P Q :=
  (wp_putf hf rfl hfin rfl hd).trans ⟨fun h => ⟨h.1.1, h.2⟩, fun h => ⟨⟨h.1, h0, by rw [h1]; exact hb.1, by rw [h1]; exact hb.2⟩, h.2⟩⟩
theorem kl_i (v : Int32) : kl (some (.int v)) = some (.int v) := rfl
theorem kl_r (v : Nat) : kl (some (.ref v)) = some (.ref v) := rfl
theorem kl_n : kl none = none := rfl
theorem kl_l (v : Int64) : kl (some (.long v)) = none := rfl
theorem rf_s (q : Nat) : va_rf (some q) = .ref q := rfl
theorem wp_irem {x y : Int32} (h0 : ¬ y = 0) (hd : decode M.2.1 pc = .ok (.irem, 1)) : Wp S N d M pc ll (.int y :: .int x :: st) I J P Q ↔ Wp S N d M (pc + 1) ll (.int (x - x / y * y) :: st) I J P Q :=
  wp_alu (len := 1) rfl rfl (by show (if y = 0 then none else some _) = _; rw [if_neg h0]) hd
theorem wp_idiv {x y : Int32} (h0 : ¬ y = 0) (hd : decode M.2.1 pc = .ok (.idiv, 1)) : Wp S N d M pc ll (.int y :: .int x :: st) I J P Q ↔ Wp S N d M (pc + 1) ll (.int (x / y) :: st) I J P Q :=
  wp_alu (len := 1) rfl rfl (by show (if y = 0 then none else some _) = _; rw [if_neg h0]) hd
theorem wp_ldiv {x y : Int64} (h0 : ¬ y = 0) (hd : decode M.2.1 pc = .ok (.ldiv, 1)) : Wp S N d M pc ll (.long y :: .long x :: st) I J P Q ↔ Wp S N d M (pc + 1) ll (.long (x / y) :: st) I J P Q :=
  wp_alu (len := 1) rfl rfl (by show (if y = 0 then none else some _) = _; rw [if_neg h0]) hd
theorem wp_imax {n : Nat} {x y : Int32} (hm : mres M.2.2.2.2.1 n = none) (hw1 : nres M.2.2.2.2.1 n = some 1) (hsum : ((((.int 0 : Value) :: st)).map fun v => v.category).sum ≤ 8) (hd : decode M.2.1 pc = .ok (.invokestatic n, 3)) : Wp S N (d + 1) M pc ll (.int y :: .int x :: st) I J P Q ↔ Wp S N (d + 1) M (pc + 3) ll (.int (if x < y then y else x) :: st) I J P Q := by
  rw [wp_nat (w := 1) (b := True) (st' := .int (if x < y then y else x) :: st) (I' := I) (J' := J) hm hw1 rfl hsum hd]
  exact ⟨fun h => h.2, fun h => ⟨trivial, h⟩⟩
theorem wp_imin {n : Nat} {x y : Int32} (hm : mres M.2.2.2.2.1 n = none) (hw1 : nres M.2.2.2.2.1 n = some 2) (hsum : ((((.int 0 : Value) :: st)).map fun v => v.category).sum ≤ 8) (hd : decode M.2.1 pc = .ok (.invokestatic n, 3)) : Wp S N (d + 1) M pc ll (.int y :: .int x :: st) I J P Q ↔ Wp S N (d + 1) M (pc + 3) ll (.int (if y < x then y else x) :: st) I J P Q := by
  rw [wp_nat (w := 2) (b := True) (st' := .int (if y < x then y else x) :: st) (I' := I) (J' := J) hm hw1 rfl hsum hd]
  exact ⟨fun h => h.2, fun h => ⟨trivial, h⟩⟩
theorem wp_lmax {n : Nat} {x y : Int64} (hm : mres M.2.2.2.2.1 n = none) (hw1 : nres M.2.2.2.2.1 n = some 3) (hsum : ((((.long 0 : Value) :: st)).map fun v => v.category).sum ≤ 8) (hd : decode M.2.1 pc = .ok (.invokestatic n, 3)) : Wp S N (d + 1) M pc ll (.long y :: .long x :: st) I J P Q ↔ Wp S N (d + 1) M (pc + 3) ll (.long (if y < x then x else y) :: st) I J P Q := by
  rw [wp_nat (w := 3) (b := True) (st' := .long (if y < x then x else y) :: st) (I' := I) (J' := J) hm hw1 rfl hsum hd]
  exact ⟨fun h => h.2, fun h => ⟨trivial, h⟩⟩
theorem wp_lmin {n : Nat} {x y : Int64} (hm : mres M.2.2.2.2.1 n = none) (hw1 : nres M.2.2.2.2.1 n = some 4) (hsum : ((((.long 0 : Value) :: st)).map fun v => v.category).sum ≤ 8) (hd : decode M.2.1 pc = .ok (.invokestatic n, 3)) : Wp S N (d + 1) M pc ll (.long y :: .long x :: st) I J P Q ↔ Wp S N (d + 1) M (pc + 3) ll (.long (if y < x then y else x) :: st) I J P Q := by
  rw [wp_nat (w := 4) (b := True) (st' := .long (if y < x then y else x) :: st) (I' := I) (J' := J) hm hw1 rfl hsum hd]
  exact ⟨fun h => h.2, fun h => ⟨trivial, h⟩⟩
theorem wp_cpI {k : Nat} {n dp sp : Int32} {a a0 : Nat} (hm : mres M.2.2.2.2.1 k = none) (hw1 : nres M.2.2.2.2.1 k = some 5) (hS : S a = 10) (hsum : (st.map fun v => v.category).sum ≤ 8) (hd : decode M.2.1 pc = .ok (.invokestatic k, 3)) : Wp S N (d + 1) M pc ll (.int n :: .int dp :: .ref a :: .int sp :: .ref a0 :: st) I J P Q ↔ (S a0 = 10 ∧ ¬ sp < 0 ∧ ¬ dp < 0 ∧ ¬ n < 0 ∧ sp.toNatClampNeg + n.toNatClampNeg ≤ N a0 ∧ dp.toNatClampNeg + n.toNatClampNeg ≤ N a) ∧ Wp S N (d + 1) M (pc + 3) ll st (uA I a (va_cpy (I a0) (I a) sp.toNatClampNeg dp.toNatClampNeg n.toNatClampNeg)) J P Q :=
  wp_nat (w := 5) hm hw1 (by unfold tx_nat; exact if_pos hS) hsum hd
theorem wp_cpJ {k : Nat} {n dp sp : Int32} {a a0 : Nat} (hm : mres M.2.2.2.2.1 k = none) (hw1 : nres M.2.2.2.2.1 k = some 5) (hS : S a = 11) (hsum : (st.map fun v => v.category).sum ≤ 8) (hd : decode M.2.1 pc = .ok (.invokestatic k, 3)) : Wp S N (d + 1) M pc ll (.int n :: .int dp :: .ref a :: .int sp :: .ref a0 :: st) I J P Q ↔ (S a = 11 ∧ S a0 = 11 ∧ ¬ sp < 0 ∧ ¬ dp < 0 ∧ ¬ n < 0 ∧ sp.toNatClampNeg + n.toNatClampNeg ≤ N a0 ∧ dp.toNatClampNeg + n.toNatClampNeg ≤ N a) ∧ Wp S N (d + 1) M (pc + 3) ll st I (uA J a (va_cpy (J a0) (J a) sp.toNatClampNeg dp.toNatClampNeg n.toNatClampNeg)) P Q :=
  wp_nat (w := 5) hm hw1 (by unfold tx_nat; exact if_neg (by rw [hS]; decide)) hsum hd
end WP2

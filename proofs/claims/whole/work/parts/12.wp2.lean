/-! the rules in the forms that the instructions' own rules take -/
section WP2
variable {S N : Nat → Nat} {d : Nat} {M : MR} {pc len : Nat} {i : Instr} {ll : List (Option Value)} {st st' : List Value} {I I' : IM} {J J' : JM} {P P' : PM} {Q : Option Value → IM → JM → PM → Prop}
theorem wp_iconst {n : Int} {v : Int32} (hv : Int32.ofInt n = v) (hd : decode M.2.1 pc = .ok (.iconst n, 1)) : Wp S N d M pc ll st I J P Q ↔ Wp S N d M (pc + 1) ll (.int v :: st) I J P Q := by
  subst hv
  exact wp_alu rfl rfl rfl hd
theorem wp_bipush {n : Int} {v : Int32} (hv : (Int8.ofInt n).toInt32 = v) (hd : decode M.2.1 pc = .ok (.bipush n, 2)) : Wp S N d M pc ll st I J P Q ↔ Wp S N d M (pc + 2) ll (.int v :: st) I J P Q := by
  subst hv
  exact wp_alu rfl rfl rfl hd
theorem wp_sipush {n : Int} {v : Int32} (hv : (Int16.ofInt n).toInt32 = v) (hd : decode M.2.1 pc = .ok (.sipush n, 3)) : Wp S N d M pc ll st I J P Q ↔ Wp S N d M (pc + 3) ll (.int v :: st) I J P Q := by
  subst hv
  exact wp_alu rfl rfl rfl hd
theorem wp_lconst {n : Fin 2} {v : Int64} (hv : Int64.ofNat (n : Nat) = v) (hd : decode M.2.1 pc = .ok (.lconst n, 1)) : Wp S N d M pc ll st I J P Q ↔ Wp S N d M (pc + 1) ll (.long v :: st) I J P Q := by
  subst hv
  exact wp_alu rfl rfl rfl hd
theorem wp_ldc2 {n : Nat} {v : Int64} (hv : cres M.2.2.2.2.1 n = some v) (hd : decode M.2.1 pc = .ok (.ldc2_w n, 3)) : Wp S N d M pc ll st I J P Q ↔ Wp S N d M (pc + 3) ll (.long v :: st) I J P Q :=
  wp_alu rfl rfl (by show (cres _ n).map _ = _; rw [hv]; rfl) hd
theorem wp_brn {b : Prop} {off : Int} {tgt : Nat} (hk1 : tx_k i = 5) (h : tx_br i st = some (¬ b, off, st')) (ht : ((pc : Nat) : Int) + off = ((tgt : Nat) : Int)) (hd : decode M.2.1 pc = .ok (i, 3)) : Wp S N d M pc ll st I J P Q ↔ (¬ b → Wp S N d M tgt ll st' I J P Q) ∧ (b → Wp S N d M (pc + 3) ll st' I J P Q) := by
  rw [wp_br hk1 h ht hd]
  exact ⟨fun q => ⟨q.1, fun z => q.2 (fun y => y z)⟩, fun q => ⟨q.1, fun z => q.2 (Classical.not_not.mp z)⟩⟩
theorem wp_iret {v : Int32} (hr : M.2.2.2.1 = some .int) (hd : decode M.2.1 pc = .ok (.ireturn, 1)) : Wp S N d M pc ll [.int v] I J P Q ↔ Q (some (.int v)) I J P :=
  wp_ret hd rfl (fun r' => ⟨fun h => h.2, fun h => ⟨⟨.int, hr, rfl⟩, h⟩⟩)
theorem wp_lret {v : Int64} (hr : M.2.2.2.1 = some .long) (hd : decode M.2.1 pc = .ok (.lreturn, 1)) : Wp S N d M pc ll [.long v] I J P Q ↔ Q (some (.long v)) I J P :=
  wp_ret hd rfl (fun r' => ⟨fun h => h.2, fun h => ⟨hr, h⟩⟩)
theorem wp_aret {v : Nat} {n : String} (hr : M.2.2.2.1 = some (.object n)) (hd : decode M.2.1 pc = .ok (.areturn, 1)) : Wp S N d M pc ll [.ref v] I J P Q ↔ Q (some (.ref v)) I J P :=
  wp_ret hd rfl (fun r' => ⟨fun h => h.2, fun h => ⟨⟨n, hr⟩, h⟩⟩)
theorem wp_vret (hr : M.2.2.2.1 = none) (hd : decode M.2.1 pc = .ok (.return_, 1)) : Wp S N d M pc ll [] I J P Q ↔ Q none I J P :=
  wp_ret hd rfl (fun r' => ⟨fun h => h.2, fun h => ⟨hr, h⟩⟩)
/-- a boolean's end: 0 or 1 -/
def isB (v : Int32) : Prop := narrow .boolean (.int v) = .int v ∧ fits .boolean (.int v) = true
theorem isB0 : isB 0 := ⟨by decide, by decide⟩
theorem isB1 : isB 1 := ⟨by decide, by decide⟩
theorem isB_ite {c : Prop} [h : Decidable c] : isB (if c then 1 else 0) := by split <;> first | exact isB1 | exact isB0
theorem wp_zret {v : Int32} (hr : M.2.2.2.1 = some .boolean) (hd : decode M.2.1 pc = .ok (.ireturn, 1)) (hb : isB v) : Wp S N d M pc ll [.int v] I J P Q ↔ Q (some (.int v)) I J P :=
  wp_ret hd rfl (fun r' => ⟨fun h => h.2, fun h => ⟨⟨.boolean, hr, hb.1⟩, h⟩⟩)
theorem wp_putI {n k j a : Nat} {v : Int32} (hf : fres M.2.2.2.2.1 n = some (k, j)) (hfin : (tx_T k j).2.2.2 = false) (h0 : (tx_fk k)[j]? = some 0) (h1 : tx_ty k j = .int) (hd : decode M.2.1 pc = .ok (.putfield n, 3)) : Wp S N d M pc ll (.int v :: .ref a :: st) I J P Q ↔ S a = k ∧ Wp S N d M (pc + 3) ll st (u2 I a j v) J P Q :=
  (wp_putf hf rfl hfin rfl hd).trans ⟨fun h => ⟨h.1.1, h.2⟩, fun h => ⟨⟨h.1, h0, by rw [h1]; rfl, by rw [h1]; rfl⟩, h.2⟩⟩
theorem wp_putJ {n k j a : Nat} {v : Int64} (hf : fres M.2.2.2.2.1 n = some (k, j)) (hfin : (tx_T k j).2.2.2 = false) (h0 : (tx_fk k)[j]? = some 1) (h1 : tx_ty k j = .long) (hd : decode M.2.1 pc = .ok (.putfield n, 3)) : Wp S N d M pc ll (.long v :: .ref a :: st) I J P Q ↔ S a = k ∧ Wp S N d M (pc + 3) ll st I (u2 J a j v) P Q :=
  (wp_putf hf rfl hfin rfl hd).trans ⟨fun h => ⟨h.1.1, h.2⟩, fun h => ⟨⟨h.1, h0, by rw [h1]; rfl, by rw [h1]; rfl⟩, h.2⟩⟩
theorem wp_putZ {n k j a : Nat} {v : Int32} (hf : fres M.2.2.2.2.1 n = some (k, j)) (hfin : (tx_T k j).2.2.2 = false) (h0 : (tx_fk k)[j]? = some 0) (h1 : tx_ty k j = .boolean) (hd : decode M.2.1 pc = .ok (.putfield n, 3)) (hb : isB v) : Wp S N d M pc ll (.int v :: .ref a :: st) I J P Q ↔ S a = k ∧ Wp S N d M (pc + 3) ll st (u2 I a j v) J P Q :=
  (wp_putf hf rfl hfin rfl hd).trans ⟨fun h => ⟨h.1.1, h.2⟩, fun h => ⟨⟨h.1, h0, by rw [h1]; exact hb.1, by rw [h1]; exact hb.2⟩, h.2⟩⟩
theorem kl_i (v : Int32) : kl (some (.int v)) = some (.int v) := rfl
theorem kl_r (v : Nat) : kl (some (.ref v)) = some (.ref v) := rfl
theorem kl_n : kl none = none := rfl
theorem kl_l (v : Int64) : kl (some (.long v)) = none := rfl
theorem rf_s (q : Nat) : va_rf (some q) = .ref q := rfl
end WP2

/-! the instructions' rules: X9_(fails|in|isPerson|isCredit|creditOf|thrown|here|skips|number|rate|of|changes|undo|save|restore|appendCharacter|faultPosition|brackets|numbers|chargeComes|creditComes|item|items|addRules|forgets|clearRules|bracketCount|bracket|allowance|chargeCount|charge|creditCount|credit|exchanges|moves|removeCredit|moveCredit|setPerson|personData|marry|coupled|part|partner)$ -/
section ER
variable {S N : Nat → Nat} {d : Nat} {I : IM} {J : JM} {P : PM} {Q : Option Value → IM → JM → PM → Prop}
theorem dX9_thrown_0 : decode cX9_thrown 0 = .ok (.aload_n 0, 1) := by decide +kernel
theorem dX9_thrown_1 : decode cX9_thrown 1 = .ok (.getfield 57, 3) := by decide +kernel
theorem dX9_thrown_4 : decode cX9_thrown 4 = .ok (.ireturn, 1) := by decide +kernel
theorem c_X9_thrown {a0 : Nat} : CWp S N d MX9_thrown [.ref a0] I J P Q ↔ Wp S N d MX9_thrown 0 [some (.ref a0)] [] I J P Q := by
  rw [cwp_iff]
  exact ⟨fun h => h.2, fun h => ⟨Nat.le_of_ble_eq_true rfl, h⟩⟩
theorem e_X9_thrown_0 {w : Nat} : Wp S N d MX9_thrown 0 [some (.ref w)] [] I J P Q ↔ Wp S N d MX9_thrown 1 [some (.ref w)] [.ref w] I J P Q := wp_lod (len := 1) rfl rfl rfl rfl dX9_thrown_0
theorem e_X9_thrown_1 {v0 : Nat} {x0 : Option Value} : Wp S N d MX9_thrown 1 [x0] [.ref v0] I J P Q ↔ S v0 = 9 ∧ Wp S N d MX9_thrown 4 [x0] [.int (I v0 8)] I J P Q := wp_getf rfl rfl rfl rfl dX9_thrown_1
theorem e_X9_thrown_4 {v0 : Int32} {x0 : Option Value} : Wp S N d MX9_thrown 4 [x0] [.int v0] I J P Q ↔ Q (some (.int v0)) I J P := wp_iret rfl dX9_thrown_4
theorem dX9_fails_0 : decode cX9_fails 0 = .ok (.aload_n 0, 1) := by decide +kernel
theorem dX9_fails_1 : decode cX9_fails 1 = .ok (.iload_n 1, 1) := by decide +kernel
theorem dX9_fails_2 : decode cX9_fails 2 = .ok (.putfield 57, 3) := by decide +kernel
theorem dX9_fails_5 : decode cX9_fails 5 = .ok (.iconst 0, 1) := by decide +kernel
theorem dX9_fails_6 : decode cX9_fails 6 = .ok (.ireturn, 1) := by decide +kernel
theorem c_X9_fails {a0 : Nat} {a1 : Int32} : CWp S N d MX9_fails [.ref a0, .int a1] I J P Q ↔ Wp S N d MX9_fails 0 [some (.ref a0), some (.int a1)] [] I J P Q := by
  rw [cwp_iff]
  exact ⟨fun h => h.2, fun h => ⟨Nat.le_of_ble_eq_true rfl, h⟩⟩
theorem e_X9_fails_0 {w : Nat} {x1 : Option Value} : Wp S N d MX9_fails 0 [some (.ref w), x1] [] I J P Q ↔ Wp S N d MX9_fails 1 [some (.ref w), x1] [.ref w] I J P Q := wp_lod (len := 1) rfl rfl rfl rfl dX9_fails_0
theorem e_X9_fails_1 {v0 : Nat} {w : Int32} {x0 : Option Value} : Wp S N d MX9_fails 1 [x0, some (.int w)] [.ref v0] I J P Q ↔ Wp S N d MX9_fails 2 [x0, some (.int w)] [.int w, .ref v0] I J P Q := wp_lod (len := 1) rfl rfl rfl rfl dX9_fails_1
theorem e_X9_fails_2 {v0 : Int32} {v1 : Nat} {x0 x1 : Option Value} : Wp S N d MX9_fails 2 [x0, x1] [.int v0, .ref v1] I J P Q ↔ S v1 = 9 ∧ Wp S N d MX9_fails 5 [x0, x1] [] (u2 I v1 8 v0) J P Q := wp_putI rfl rfl rfl rfl dX9_fails_2
theorem e_X9_fails_5  {x0 x1 : Option Value} : Wp S N d MX9_fails 5 [x0, x1] [] I J P Q ↔ Wp S N d MX9_fails 6 [x0, x1] [.int 0] I J P Q := wp_iconst (by decide) dX9_fails_5
theorem e_X9_fails_6 {v0 : Int32} {x0 x1 : Option Value} : Wp S N d MX9_fails 6 [x0, x1] [.int v0] I J P Q ↔ Q (some (.int v0)) I J P := wp_iret rfl dX9_fails_6
theorem dX9_in_0 : decode cX9_in 0 = .ok (.iload_n 0, 1) := by decide +kernel
theorem dX9_in_1 : decode cX9_in 1 = .ok (.iload_n 1, 1) := by decide +kernel
theorem dX9_in_2 : decode cX9_in 2 = .ok (.if_icmp .lt 12, 3) := by decide +kernel
theorem dX9_in_5 : decode cX9_in 5 = .ok (.iload_n 0, 1) := by decide +kernel
theorem dX9_in_6 : decode cX9_in 6 = .ok (.iload_n 2, 1) := by decide +kernel
theorem dX9_in_7 : decode cX9_in 7 = .ok (.if_icmp .gt 7, 3) := by decide +kernel
theorem dX9_in_10 : decode cX9_in 10 = .ok (.iconst 1, 1) := by decide +kernel
theorem dX9_in_11 : decode cX9_in 11 = .ok (.goto 4, 3) := by decide +kernel
theorem dX9_in_14 : decode cX9_in 14 = .ok (.iconst 0, 1) := by decide +kernel
theorem dX9_in_15 : decode cX9_in 15 = .ok (.ireturn, 1) := by decide +kernel
theorem c_X9_in {a0 : Int32} {a1 : Int32} {a2 : Int32} : CWp S N d MX9_in [.int a0, .int a1, .int a2] I J P Q ↔ Wp S N d MX9_in 0 [some (.int a0), some (.int a1), some (.int a2)] [] I J P Q := by
  rw [cwp_iff]
  exact ⟨fun h => h.2, fun h => ⟨Nat.le_of_ble_eq_true rfl, h⟩⟩
theorem e_X9_in_0 {w : Int32} {x1 x2 : Option Value} : Wp S N d MX9_in 0 [some (.int w), x1, x2] [] I J P Q ↔ Wp S N d MX9_in 1 [some (.int w), x1, x2] [.int w] I J P Q := wp_lod (len := 1) rfl rfl rfl rfl dX9_in_0
theorem e_X9_in_1 {v0 : Int32} {w : Int32} {x0 x2 : Option Value} : Wp S N d MX9_in 1 [x0, some (.int w), x2] [.int v0] I J P Q ↔ Wp S N d MX9_in 2 [x0, some (.int w), x2] [.int w, .int v0] I J P Q := wp_lod (len := 1) rfl rfl rfl rfl dX9_in_1
theorem e_X9_in_2 {v0 : Int32} {v1 : Int32} {x0 x1 x2 : Option Value} : Wp S N d MX9_in 2 [x0, x1, x2] [.int v0, .int v1] I J P Q ↔ (v1 < v0 → Wp S N d MX9_in 14 [x0, x1, x2] [] I J P Q) ∧ (¬ v1 < v0 → Wp S N d MX9_in 5 [x0, x1, x2] [] I J P Q) := wp_br rfl rfl (by decide) dX9_in_2
theorem e_X9_in_5 {w : Int32} {x1 x2 : Option Value} : Wp S N d MX9_in 5 [some (.int w), x1, x2] [] I J P Q ↔ Wp S N d MX9_in 6 [some (.int w), x1, x2] [.int w] I J P Q := wp_lod (len := 1) rfl rfl rfl rfl dX9_in_5
theorem e_X9_in_6 {v0 : Int32} {w : Int32} {x0 x1 : Option Value} : Wp S N d MX9_in 6 [x0, x1, some (.int w)] [.int v0] I J P Q ↔ Wp S N d MX9_in 7 [x0, x1, some (.int w)] [.int w, .int v0] I J P Q := wp_lod (len := 1) rfl rfl rfl rfl dX9_in_6
theorem e_X9_in_7 {v0 : Int32} {v1 : Int32} {x0 x1 x2 : Option Value} : Wp S N d MX9_in 7 [x0, x1, x2] [.int v0, .int v1] I J P Q ↔ (v0 < v1 → Wp S N d MX9_in 14 [x0, x1, x2] [] I J P Q) ∧ (¬ v0 < v1 → Wp S N d MX9_in 10 [x0, x1, x2] [] I J P Q) := wp_br rfl rfl (by decide) dX9_in_7
theorem e_X9_in_10  {x0 x1 x2 : Option Value} : Wp S N d MX9_in 10 [x0, x1, x2] [] I J P Q ↔ Wp S N d MX9_in 11 [x0, x1, x2] [.int 1] I J P Q := wp_iconst (by decide) dX9_in_10
theorem e_X9_in_11 {v0 : Int32} {x0 x1 x2 : Option Value} : Wp S N d MX9_in 11 [x0, x1, x2] [.int v0] I J P Q ↔ Wp S N d MX9_in 15 [x0, x1, x2] [.int v0] I J P Q := wp_go (len := 3) rfl (fun _ _ => rfl) rfl (by decide) dX9_in_11
theorem e_X9_in_14  {x0 x1 x2 : Option Value} : Wp S N d MX9_in 14 [x0, x1, x2] [] I J P Q ↔ Wp S N d MX9_in 15 [x0, x1, x2] [.int 0] I J P Q := wp_iconst (by decide) dX9_in_14
theorem e_X9_in_15 {v0 : Int32} (hb : isB v0) {x0 x1 x2 : Option Value} : Wp S N d MX9_in 15 [x0, x1, x2] [.int v0] I J P Q ↔ Q (some (.int v0)) I J P := wp_zret rfl dX9_in_15 hb
theorem dX9_isPerson_0 : decode cX9_isPerson 0 = .ok (.iload_n 0, 1) := by decide +kernel
theorem dX9_isPerson_1 : decode cX9_isPerson 1 = .ok (.iconst 0, 1) := by decide +kernel
theorem dX9_isPerson_2 : decode cX9_isPerson 2 = .ok (.iconst 5, 1) := by decide +kernel
theorem dX9_isPerson_3 : decode cX9_isPerson 3 = .ok (.invokestatic 60, 3) := by decide +kernel
theorem dX9_isPerson_6 : decode cX9_isPerson 6 = .ok (.ireturn, 1) := by decide +kernel
theorem c_X9_isPerson {a0 : Int32} : CWp S N d MX9_isPerson [.int a0] I J P Q ↔ Wp S N d MX9_isPerson 0 [some (.int a0)] [] I J P Q := by
  rw [cwp_iff]
  exact ⟨fun h => h.2, fun h => ⟨Nat.le_of_ble_eq_true rfl, h⟩⟩
theorem e_X9_isPerson_0 {w : Int32} : Wp S N d MX9_isPerson 0 [some (.int w)] [] I J P Q ↔ Wp S N d MX9_isPerson 1 [some (.int w)] [.int w] I J P Q := wp_lod (len := 1) rfl rfl rfl rfl dX9_isPerson_0
theorem e_X9_isPerson_1 {v0 : Int32} {x0 : Option Value} : Wp S N d MX9_isPerson 1 [x0] [.int v0] I J P Q ↔ Wp S N d MX9_isPerson 2 [x0] [.int 0, .int v0] I J P Q := wp_iconst (by decide) dX9_isPerson_1
theorem e_X9_isPerson_2 {v0 : Int32} {v1 : Int32} {x0 : Option Value} : Wp S N d MX9_isPerson 2 [x0] [.int v0, .int v1] I J P Q ↔ Wp S N d MX9_isPerson 3 [x0] [.int 5, .int v0, .int v1] I J P Q := wp_iconst (by decide) dX9_isPerson_2
theorem e_X9_isPerson_3 {v0 : Int32} {v1 : Int32} {v2 : Int32} {x0 : Option Value} : Wp S N (d + 1) MX9_isPerson 3 [x0] [.int v0, .int v1, .int v2] I J P Q ↔ CWp S N d MX9_in [.int v2, .int v1, .int v0] I J P (fun r I1 J1 P1 => Wp S N (d + 1) MX9_isPerson 6 [x0] (r.toList ++ []) I1 J1 P1 Q) := wp_callS (M' := MX9_in) (As := [.int v2, .int v1, .int v0]) rfl rfl rfl rfl (Nat.le_of_ble_eq_true rfl) dX9_isPerson_3
theorem e_X9_isPerson_6 {v0 : Int32} (hb : isB v0) {x0 : Option Value} : Wp S N d MX9_isPerson 6 [x0] [.int v0] I J P Q ↔ Q (some (.int v0)) I J P := wp_zret rfl dX9_isPerson_6 hb
theorem dX9_isCredit_0 : decode cX9_isCredit 0 = .ok (.iload_n 1, 1) := by decide +kernel
theorem dX9_isCredit_1 : decode cX9_isCredit 1 = .ok (.iconst 0, 1) := by decide +kernel
theorem dX9_isCredit_2 : decode cX9_isCredit 2 = .ok (.aload_n 0, 1) := by decide +kernel
theorem dX9_isCredit_3 : decode cX9_isCredit 3 = .ok (.getfield 7, 3) := by decide +kernel
theorem dX9_isCredit_6 : decode cX9_isCredit 6 = .ok (.bipush 27, 2) := by decide +kernel
theorem dX9_isCredit_8 : decode cX9_isCredit 8 = .ok (.iaload, 1) := by decide +kernel
theorem dX9_isCredit_9 : decode cX9_isCredit 9 = .ok (.iconst 1, 1) := by decide +kernel
theorem dX9_isCredit_10 : decode cX9_isCredit 10 = .ok (.isub, 1) := by decide +kernel
theorem dX9_isCredit_11 : decode cX9_isCredit 11 = .ok (.invokestatic 60, 3) := by decide +kernel
theorem dX9_isCredit_14 : decode cX9_isCredit 14 = .ok (.ireturn, 1) := by decide +kernel
theorem c_X9_isCredit {a0 : Nat} {a1 : Int32} : CWp S N d MX9_isCredit [.ref a0, .int a1] I J P Q ↔ Wp S N d MX9_isCredit 0 [some (.ref a0), some (.int a1)] [] I J P Q := by
  rw [cwp_iff]
  exact ⟨fun h => h.2, fun h => ⟨Nat.le_of_ble_eq_true rfl, h⟩⟩
theorem e_X9_isCredit_0 {w : Int32} {x0 : Option Value} : Wp S N d MX9_isCredit 0 [x0, some (.int w)] [] I J P Q ↔ Wp S N d MX9_isCredit 1 [x0, some (.int w)] [.int w] I J P Q := wp_lod (len := 1) rfl rfl rfl rfl dX9_isCredit_0
theorem e_X9_isCredit_1 {v0 : Int32} {x0 x1 : Option Value} : Wp S N d MX9_isCredit 1 [x0, x1] [.int v0] I J P Q ↔ Wp S N d MX9_isCredit 2 [x0, x1] [.int 0, .int v0] I J P Q := wp_iconst (by decide) dX9_isCredit_1
theorem e_X9_isCredit_2 {v0 : Int32} {v1 : Int32} {w : Nat} {x1 : Option Value} : Wp S N d MX9_isCredit 2 [some (.ref w), x1] [.int v0, .int v1] I J P Q ↔ Wp S N d MX9_isCredit 3 [some (.ref w), x1] [.ref w, .int v0, .int v1] I J P Q := wp_lod (len := 1) rfl rfl rfl rfl dX9_isCredit_2
theorem e_X9_isCredit_3 {v0 : Nat} {v1 : Int32} {v2 : Int32} {x0 x1 : Option Value} : Wp S N d MX9_isCredit 3 [x0, x1] [.ref v0, .int v1, .int v2] I J P Q ↔ S v0 = 9 ∧ Wp S N d MX9_isCredit 6 [x0, x1] [va_rf (P v0 0), .int v1, .int v2] I J P Q := wp_getf rfl rfl rfl rfl dX9_isCredit_3
theorem e_X9_isCredit_6 {v0 : Nat} {v1 : Int32} {v2 : Int32} {x0 x1 : Option Value} : Wp S N d MX9_isCredit 6 [x0, x1] [.ref v0, .int v1, .int v2] I J P Q ↔ Wp S N d MX9_isCredit 8 [x0, x1] [.int 27, .ref v0, .int v1, .int v2] I J P Q := wp_bipush (by decide) dX9_isCredit_6
theorem e_X9_isCredit_8 {v0 : Int32} {v1 : Nat} {v2 : Int32} {v3 : Int32} {x0 x1 : Option Value} : Wp S N d MX9_isCredit 8 [x0, x1] [.int v0, .ref v1, .int v2, .int v3] I J P Q ↔ (S v1 = 10 ∧ vp_in v0 (N v1)) ∧ Wp S N d MX9_isCredit 9 [x0, x1] [.int (I v1 v0.toNatClampNeg), .int v2, .int v3] I J P Q := wp_ald rfl rfl dX9_isCredit_8
theorem e_X9_isCredit_9 {v0 : Int32} {v1 : Int32} {v2 : Int32} {x0 x1 : Option Value} : Wp S N d MX9_isCredit 9 [x0, x1] [.int v0, .int v1, .int v2] I J P Q ↔ Wp S N d MX9_isCredit 10 [x0, x1] [.int 1, .int v0, .int v1, .int v2] I J P Q := wp_iconst (by decide) dX9_isCredit_9
theorem e_X9_isCredit_10 {v0 : Int32} {v1 : Int32} {v2 : Int32} {v3 : Int32} {x0 x1 : Option Value} : Wp S N d MX9_isCredit 10 [x0, x1] [.int v0, .int v1, .int v2, .int v3] I J P Q ↔ Wp S N d MX9_isCredit 11 [x0, x1] [.int (v1 - v0), .int v2, .int v3] I J P Q := wp_alu (len := 1) rfl rfl rfl dX9_isCredit_10
theorem e_X9_isCredit_11 {v0 : Int32} {v1 : Int32} {v2 : Int32} {x0 x1 : Option Value} : Wp S N (d + 1) MX9_isCredit 11 [x0, x1] [.int v0, .int v1, .int v2] I J P Q ↔ CWp S N d MX9_in [.int v2, .int v1, .int v0] I J P (fun r I1 J1 P1 => Wp S N (d + 1) MX9_isCredit 14 [x0, x1] (r.toList ++ []) I1 J1 P1 Q) := wp_callS (M' := MX9_in) (As := [.int v2, .int v1, .int v0]) rfl rfl rfl rfl (Nat.le_of_ble_eq_true rfl) dX9_isCredit_11
theorem e_X9_isCredit_14 {v0 : Int32} (hb : isB v0) {x0 x1 : Option Value} : Wp S N d MX9_isCredit 14 [x0, x1] [.int v0] I J P Q ↔ Q (some (.int v0)) I J P := wp_zret rfl dX9_isCredit_14 hb
theorem dX9_creditOf_0 : decode cX9_creditOf 0 = .ok (.aload_n 0, 1) := by decide +kernel
theorem dX9_creditOf_1 : decode cX9_creditOf 1 = .ok (.getfield 7, 3) := by decide +kernel
theorem dX9_creditOf_4 : decode cX9_creditOf 4 = .ok (.bipush 28, 2) := by decide +kernel
theorem dX9_creditOf_6 : decode cX9_creditOf 6 = .ok (.bipush 6, 2) := by decide +kernel
theorem dX9_creditOf_8 : decode cX9_creditOf 8 = .ok (.iload_n 1, 1) := by decide +kernel
theorem dX9_creditOf_9 : decode cX9_creditOf 9 = .ok (.imul, 1) := by decide +kernel
theorem dX9_creditOf_10 : decode cX9_creditOf 10 = .ok (.iadd, 1) := by decide +kernel
theorem dX9_creditOf_11 : decode cX9_creditOf 11 = .ok (.iload_n 2, 1) := by decide +kernel
theorem dX9_creditOf_12 : decode cX9_creditOf 12 = .ok (.iadd, 1) := by decide +kernel
theorem dX9_creditOf_13 : decode cX9_creditOf 13 = .ok (.iaload, 1) := by decide +kernel
theorem dX9_creditOf_14 : decode cX9_creditOf 14 = .ok (.ireturn, 1) := by decide +kernel
theorem c_X9_creditOf {a0 : Nat} {a1 : Int32} {a2 : Int32} : CWp S N d MX9_creditOf [.ref a0, .int a1, .int a2] I J P Q ↔ Wp S N d MX9_creditOf 0 [some (.ref a0), some (.int a1), some (.int a2)] [] I J P Q := by
  rw [cwp_iff]
  exact ⟨fun h => h.2, fun h => ⟨Nat.le_of_ble_eq_true rfl, h⟩⟩
theorem e_X9_creditOf_0 {w : Nat} {x1 x2 : Option Value} : Wp S N d MX9_creditOf 0 [some (.ref w), x1, x2] [] I J P Q ↔ Wp S N d MX9_creditOf 1 [some (.ref w), x1, x2] [.ref w] I J P Q := wp_lod (len := 1) rfl rfl rfl rfl dX9_creditOf_0
theorem e_X9_creditOf_1 {v0 : Nat} {x0 x1 x2 : Option Value} : Wp S N d MX9_creditOf 1 [x0, x1, x2] [.ref v0] I J P Q ↔ S v0 = 9 ∧ Wp S N d MX9_creditOf 4 [x0, x1, x2] [va_rf (P v0 0)] I J P Q := wp_getf rfl rfl rfl rfl dX9_creditOf_1
theorem e_X9_creditOf_4 {v0 : Nat} {x0 x1 x2 : Option Value} : Wp S N d MX9_creditOf 4 [x0, x1, x2] [.ref v0] I J P Q ↔ Wp S N d MX9_creditOf 6 [x0, x1, x2] [.int 28, .ref v0] I J P Q := wp_bipush (by decide) dX9_creditOf_4
theorem e_X9_creditOf_6 {v0 : Int32} {v1 : Nat} {x0 x1 x2 : Option Value} : Wp S N d MX9_creditOf 6 [x0, x1, x2] [.int v0, .ref v1] I J P Q ↔ Wp S N d MX9_creditOf 8 [x0, x1, x2] [.int 6, .int v0, .ref v1] I J P Q := wp_bipush (by decide) dX9_creditOf_6
theorem e_X9_creditOf_8 {v0 : Int32} {v1 : Int32} {v2 : Nat} {w : Int32} {x0 x2 : Option Value} : Wp S N d MX9_creditOf 8 [x0, some (.int w), x2] [.int v0, .int v1, .ref v2] I J P Q ↔ Wp S N d MX9_creditOf 9 [x0, some (.int w), x2] [.int w, .int v0, .int v1, .ref v2] I J P Q := wp_lod (len := 1) rfl rfl rfl rfl dX9_creditOf_8
theorem e_X9_creditOf_9 {v0 : Int32} {v1 : Int32} {v2 : Int32} {v3 : Nat} {x0 x1 x2 : Option Value} : Wp S N d MX9_creditOf 9 [x0, x1, x2] [.int v0, .int v1, .int v2, .ref v3] I J P Q ↔ Wp S N d MX9_creditOf 10 [x0, x1, x2] [.int (v1 * v0), .int v2, .ref v3] I J P Q := wp_alu (len := 1) rfl rfl rfl dX9_creditOf_9
theorem e_X9_creditOf_10 {v0 : Int32} {v1 : Int32} {v2 : Nat} {x0 x1 x2 : Option Value} : Wp S N d MX9_creditOf 10 [x0, x1, x2] [.int v0, .int v1, .ref v2] I J P Q ↔ Wp S N d MX9_creditOf 11 [x0, x1, x2] [.int (v1 + v0), .ref v2] I J P Q := wp_alu (len := 1) rfl rfl rfl dX9_creditOf_10
theorem e_X9_creditOf_11 {v0 : Int32} {v1 : Nat} {w : Int32} {x0 x1 : Option Value} : Wp S N d MX9_creditOf 11 [x0, x1, some (.int w)] [.int v0, .ref v1] I J P Q ↔ Wp S N d MX9_creditOf 12 [x0, x1, some (.int w)] [.int w, .int v0, .ref v1] I J P Q := wp_lod (len := 1) rfl rfl rfl rfl dX9_creditOf_11
theorem e_X9_creditOf_12 {v0 : Int32} {v1 : Int32} {v2 : Nat} {x0 x1 x2 : Option Value} : Wp S N d MX9_creditOf 12 [x0, x1, x2] [.int v0, .int v1, .ref v2] I J P Q ↔ Wp S N d MX9_creditOf 13 [x0, x1, x2] [.int (v1 + v0), .ref v2] I J P Q := wp_alu (len := 1) rfl rfl rfl dX9_creditOf_12
theorem e_X9_creditOf_13 {v0 : Int32} {v1 : Nat} {x0 x1 x2 : Option Value} : Wp S N d MX9_creditOf 13 [x0, x1, x2] [.int v0, .ref v1] I J P Q ↔ (S v1 = 10 ∧ vp_in v0 (N v1)) ∧ Wp S N d MX9_creditOf 14 [x0, x1, x2] [.int (I v1 v0.toNatClampNeg)] I J P Q := wp_ald rfl rfl dX9_creditOf_13
theorem e_X9_creditOf_14 {v0 : Int32} {x0 x1 x2 : Option Value} : Wp S N d MX9_creditOf 14 [x0, x1, x2] [.int v0] I J P Q ↔ Q (some (.int v0)) I J P := wp_iret rfl dX9_creditOf_14
theorem dX9_changes_0 : decode cX9_changes 0 = .ok (.aload_n 0, 1) := by decide +kernel
theorem dX9_changes_1 : decode cX9_changes 1 = .ok (.getfield 64, 3) := by decide +kernel
theorem dX9_changes_4 : decode cX9_changes 4 = .ok (.bipush 6, 2) := by decide +kernel
theorem dX9_changes_6 : decode cX9_changes 6 = .ok (.if_icmp .ne 73, 3) := by decide +kernel
theorem dX9_changes_9 : decode cX9_changes 9 = .ok (.iconst 0, 1) := by decide +kernel
theorem dX9_changes_10 : decode cX9_changes 10 = .ok (.istore_n 1, 1) := by decide +kernel
theorem dX9_changes_11 : decode cX9_changes 11 = .ok (.iload_n 1, 1) := by decide +kernel
theorem dX9_changes_12 : decode cX9_changes 12 = .ok (.sipush 445, 3) := by decide +kernel
theorem dX9_changes_15 : decode cX9_changes 15 = .ok (.if_icmp .ge 24, 3) := by decide +kernel
theorem dX9_changes_18 : decode cX9_changes 18 = .ok (.aload_n 0, 1) := by decide +kernel
theorem dX9_changes_19 : decode cX9_changes 19 = .ok (.getfield 23, 3) := by decide +kernel
theorem dX9_changes_22 : decode cX9_changes 22 = .ok (.iload_n 1, 1) := by decide +kernel
theorem dX9_changes_23 : decode cX9_changes 23 = .ok (.aload_n 0, 1) := by decide +kernel
theorem dX9_changes_24 : decode cX9_changes 24 = .ok (.getfield 23, 3) := by decide +kernel
theorem dX9_changes_27 : decode cX9_changes 27 = .ok (.iload_n 1, 1) := by decide +kernel
theorem dX9_changes_28 : decode cX9_changes 28 = .ok (.bipush 89, 2) := by decide +kernel
theorem dX9_changes_30 : decode cX9_changes 30 = .ok (.iadd, 1) := by decide +kernel
theorem dX9_changes_31 : decode cX9_changes 31 = .ok (.iaload, 1) := by decide +kernel
theorem dX9_changes_32 : decode cX9_changes 32 = .ok (.iastore, 1) := by decide +kernel
theorem dX9_changes_33 : decode cX9_changes 33 = .ok (.iinc 1 1, 3) := by decide +kernel
theorem dX9_changes_36 : decode cX9_changes 36 = .ok (.goto (-25), 3) := by decide +kernel
theorem dX9_changes_39 : decode cX9_changes 39 = .ok (.iconst 0, 1) := by decide +kernel
theorem dX9_changes_40 : decode cX9_changes 40 = .ok (.istore_n 1, 1) := by decide +kernel
theorem dX9_changes_41 : decode cX9_changes 41 = .ok (.iload_n 1, 1) := by decide +kernel
theorem dX9_changes_42 : decode cX9_changes 42 = .ok (.sipush 180, 3) := by decide +kernel
theorem dX9_changes_45 : decode cX9_changes 45 = .ok (.if_icmp .ge 24, 3) := by decide +kernel
theorem dX9_changes_48 : decode cX9_changes 48 = .ok (.aload_n 0, 1) := by decide +kernel
theorem dX9_changes_49 : decode cX9_changes 49 = .ok (.getfield 26, 3) := by decide +kernel
theorem dX9_changes_52 : decode cX9_changes 52 = .ok (.iload_n 1, 1) := by decide +kernel
theorem dX9_changes_53 : decode cX9_changes 53 = .ok (.aload_n 0, 1) := by decide +kernel
theorem dX9_changes_54 : decode cX9_changes 54 = .ok (.getfield 26, 3) := by decide +kernel
theorem dX9_changes_57 : decode cX9_changes 57 = .ok (.iload_n 1, 1) := by decide +kernel
theorem dX9_changes_58 : decode cX9_changes 58 = .ok (.bipush 36, 2) := by decide +kernel
theorem dX9_changes_60 : decode cX9_changes 60 = .ok (.iadd, 1) := by decide +kernel
theorem dX9_changes_61 : decode cX9_changes 61 = .ok (.laload, 1) := by decide +kernel
theorem dX9_changes_62 : decode cX9_changes 62 = .ok (.lastore, 1) := by decide +kernel
theorem dX9_changes_63 : decode cX9_changes 63 = .ok (.iinc 1 1, 3) := by decide +kernel
theorem dX9_changes_66 : decode cX9_changes 66 = .ok (.goto (-25), 3) := by decide +kernel
theorem dX9_changes_69 : decode cX9_changes 69 = .ok (.aload_n 0, 1) := by decide +kernel
theorem dX9_changes_70 : decode cX9_changes 70 = .ok (.dup, 1) := by decide +kernel
theorem dX9_changes_71 : decode cX9_changes 71 = .ok (.getfield 64, 3) := by decide +kernel
theorem dX9_changes_74 : decode cX9_changes 74 = .ok (.iconst 1, 1) := by decide +kernel
theorem dX9_changes_75 : decode cX9_changes 75 = .ok (.isub, 1) := by decide +kernel
theorem dX9_changes_76 : decode cX9_changes 76 = .ok (.putfield 64, 3) := by decide +kernel
theorem dX9_changes_79 : decode cX9_changes 79 = .ok (.iconst 0, 1) := by decide +kernel
theorem dX9_changes_80 : decode cX9_changes 80 = .ok (.istore_n 1, 1) := by decide +kernel
theorem dX9_changes_81 : decode cX9_changes 81 = .ok (.iload_n 1, 1) := by decide +kernel
theorem dX9_changes_82 : decode cX9_changes 82 = .ok (.bipush 89, 2) := by decide +kernel
theorem dX9_changes_84 : decode cX9_changes 84 = .ok (.if_icmp .ge 29, 3) := by decide +kernel
theorem dX9_changes_87 : decode cX9_changes 87 = .ok (.aload_n 0, 1) := by decide +kernel
theorem dX9_changes_88 : decode cX9_changes 88 = .ok (.getfield 23, 3) := by decide +kernel
theorem dX9_changes_91 : decode cX9_changes 91 = .ok (.bipush 89, 2) := by decide +kernel
theorem dX9_changes_93 : decode cX9_changes 93 = .ok (.aload_n 0, 1) := by decide +kernel
theorem dX9_changes_94 : decode cX9_changes 94 = .ok (.getfield 64, 3) := by decide +kernel
theorem dX9_changes_97 : decode cX9_changes 97 = .ok (.imul, 1) := by decide +kernel
theorem dX9_changes_98 : decode cX9_changes 98 = .ok (.iload_n 1, 1) := by decide +kernel
theorem dX9_changes_99 : decode cX9_changes 99 = .ok (.iadd, 1) := by decide +kernel
theorem dX9_changes_100 : decode cX9_changes 100 = .ok (.aload_n 0, 1) := by decide +kernel
theorem dX9_changes_101 : decode cX9_changes 101 = .ok (.getfield 7, 3) := by decide +kernel
theorem dX9_changes_104 : decode cX9_changes 104 = .ok (.iload_n 1, 1) := by decide +kernel
theorem dX9_changes_105 : decode cX9_changes 105 = .ok (.iaload, 1) := by decide +kernel
theorem dX9_changes_106 : decode cX9_changes 106 = .ok (.iastore, 1) := by decide +kernel
theorem dX9_changes_107 : decode cX9_changes 107 = .ok (.iinc 1 1, 3) := by decide +kernel
theorem dX9_changes_110 : decode cX9_changes 110 = .ok (.goto (-29), 3) := by decide +kernel
theorem dX9_changes_113 : decode cX9_changes 113 = .ok (.iconst 0, 1) := by decide +kernel
theorem dX9_changes_114 : decode cX9_changes 114 = .ok (.istore_n 1, 1) := by decide +kernel
theorem dX9_changes_115 : decode cX9_changes 115 = .ok (.iload_n 1, 1) := by decide +kernel
theorem dX9_changes_116 : decode cX9_changes 116 = .ok (.bipush 36, 2) := by decide +kernel
theorem dX9_changes_118 : decode cX9_changes 118 = .ok (.if_icmp .ge 29, 3) := by decide +kernel
theorem dX9_changes_121 : decode cX9_changes 121 = .ok (.aload_n 0, 1) := by decide +kernel
theorem dX9_changes_122 : decode cX9_changes 122 = .ok (.getfield 26, 3) := by decide +kernel
theorem dX9_changes_125 : decode cX9_changes 125 = .ok (.bipush 36, 2) := by decide +kernel
theorem dX9_changes_127 : decode cX9_changes 127 = .ok (.aload_n 0, 1) := by decide +kernel
theorem dX9_changes_128 : decode cX9_changes 128 = .ok (.getfield 64, 3) := by decide +kernel
theorem dX9_changes_131 : decode cX9_changes 131 = .ok (.imul, 1) := by decide +kernel
theorem dX9_changes_132 : decode cX9_changes 132 = .ok (.iload_n 1, 1) := by decide +kernel
theorem dX9_changes_133 : decode cX9_changes 133 = .ok (.iadd, 1) := by decide +kernel
theorem dX9_changes_134 : decode cX9_changes 134 = .ok (.aload_n 0, 1) := by decide +kernel
theorem dX9_changes_135 : decode cX9_changes 135 = .ok (.getfield 13, 3) := by decide +kernel
theorem dX9_changes_138 : decode cX9_changes 138 = .ok (.iload_n 1, 1) := by decide +kernel
theorem dX9_changes_139 : decode cX9_changes 139 = .ok (.laload, 1) := by decide +kernel
theorem dX9_changes_140 : decode cX9_changes 140 = .ok (.lastore, 1) := by decide +kernel
theorem dX9_changes_141 : decode cX9_changes 141 = .ok (.iinc 1 1, 3) := by decide +kernel
theorem dX9_changes_144 : decode cX9_changes 144 = .ok (.goto (-29), 3) := by decide +kernel
theorem dX9_changes_147 : decode cX9_changes 147 = .ok (.aload_n 0, 1) := by decide +kernel
theorem dX9_changes_148 : decode cX9_changes 148 = .ok (.dup, 1) := by decide +kernel
theorem dX9_changes_149 : decode cX9_changes 149 = .ok (.getfield 64, 3) := by decide +kernel
theorem dX9_changes_152 : decode cX9_changes 152 = .ok (.iconst 1, 1) := by decide +kernel
theorem dX9_changes_153 : decode cX9_changes 153 = .ok (.iadd, 1) := by decide +kernel
theorem dX9_changes_154 : decode cX9_changes 154 = .ok (.putfield 64, 3) := by decide +kernel
theorem dX9_changes_157 : decode cX9_changes 157 = .ok (.return_, 1) := by decide +kernel
theorem c_X9_changes {a0 : Nat} : CWp S N d MX9_changes [.ref a0] I J P Q ↔ Wp S N d MX9_changes 0 [some (.ref a0), none] [] I J P Q := by
  rw [cwp_iff]
  exact ⟨fun h => h.2, fun h => ⟨Nat.le_of_ble_eq_true rfl, h⟩⟩
theorem e_X9_changes_0 {w : Nat} {x1 : Option Value} : Wp S N d MX9_changes 0 [some (.ref w), x1] [] I J P Q ↔ Wp S N d MX9_changes 1 [some (.ref w), x1] [.ref w] I J P Q := wp_lod (len := 1) rfl rfl rfl rfl dX9_changes_0
theorem e_X9_changes_1 {v0 : Nat} {x0 x1 : Option Value} : Wp S N d MX9_changes 1 [x0, x1] [.ref v0] I J P Q ↔ S v0 = 9 ∧ Wp S N d MX9_changes 4 [x0, x1] [.int (I v0 7)] I J P Q := wp_getf rfl rfl rfl rfl dX9_changes_1
theorem e_X9_changes_4 {v0 : Int32} {x0 x1 : Option Value} : Wp S N d MX9_changes 4 [x0, x1] [.int v0] I J P Q ↔ Wp S N d MX9_changes 6 [x0, x1] [.int 6, .int v0] I J P Q := wp_bipush (by decide) dX9_changes_4
theorem e_X9_changes_6 {v0 : Int32} {v1 : Int32} {x0 x1 : Option Value} : Wp S N d MX9_changes 6 [x0, x1] [.int v0, .int v1] I J P Q ↔ (¬ v1 = v0 → Wp S N d MX9_changes 79 [x0, x1] [] I J P Q) ∧ (v1 = v0 → Wp S N d MX9_changes 9 [x0, x1] [] I J P Q) := wp_brn rfl rfl (by decide) dX9_changes_6
theorem e_X9_changes_9  {x0 x1 : Option Value} : Wp S N d MX9_changes 9 [x0, x1] [] I J P Q ↔ Wp S N d MX9_changes 10 [x0, x1] [.int 0] I J P Q := wp_iconst (by decide) dX9_changes_9
theorem e_X9_changes_10 {v0 : Int32} {x0 x1 : Option Value} : Wp S N d MX9_changes 10 [x0, x1] [.int v0] I J P Q ↔ Wp S N d MX9_changes 11 [kl x0, some (.int v0)] [] I J P Q := wp_sto (len := 1) rfl rfl rfl rfl (Nat.le_of_ble_eq_true rfl) rfl dX9_changes_10
theorem e_X9_changes_11 {w : Int32} {x0 : Option Value} : Wp S N d MX9_changes 11 [x0, some (.int w)] [] I J P Q ↔ Wp S N d MX9_changes 12 [x0, some (.int w)] [.int w] I J P Q := wp_lod (len := 1) rfl rfl rfl rfl dX9_changes_11
theorem e_X9_changes_12 {v0 : Int32} {x0 x1 : Option Value} : Wp S N d MX9_changes 12 [x0, x1] [.int v0] I J P Q ↔ Wp S N d MX9_changes 15 [x0, x1] [.int 445, .int v0] I J P Q := wp_sipush (by decide) dX9_changes_12
theorem e_X9_changes_15 {v0 : Int32} {v1 : Int32} {x0 x1 : Option Value} : Wp S N d MX9_changes 15 [x0, x1] [.int v0, .int v1] I J P Q ↔ (v0 ≤ v1 → Wp S N d MX9_changes 39 [x0, x1] [] I J P Q) ∧ (¬ v0 ≤ v1 → Wp S N d MX9_changes 18 [x0, x1] [] I J P Q) := wp_br rfl rfl (by decide) dX9_changes_15
theorem e_X9_changes_18 {w : Nat} {x1 : Option Value} : Wp S N d MX9_changes 18 [some (.ref w), x1] [] I J P Q ↔ Wp S N d MX9_changes 19 [some (.ref w), x1] [.ref w] I J P Q := wp_lod (len := 1) rfl rfl rfl rfl dX9_changes_18
theorem e_X9_changes_19 {v0 : Nat} {x0 x1 : Option Value} : Wp S N d MX9_changes 19 [x0, x1] [.ref v0] I J P Q ↔ S v0 = 9 ∧ Wp S N d MX9_changes 22 [x0, x1] [va_rf (P v0 5)] I J P Q := wp_getf rfl rfl rfl rfl dX9_changes_19
theorem e_X9_changes_22 {v0 : Nat} {w : Int32} {x0 : Option Value} : Wp S N d MX9_changes 22 [x0, some (.int w)] [.ref v0] I J P Q ↔ Wp S N d MX9_changes 23 [x0, some (.int w)] [.int w, .ref v0] I J P Q := wp_lod (len := 1) rfl rfl rfl rfl dX9_changes_22
theorem e_X9_changes_23 {v0 : Int32} {v1 : Nat} {w : Nat} {x1 : Option Value} : Wp S N d MX9_changes 23 [some (.ref w), x1] [.int v0, .ref v1] I J P Q ↔ Wp S N d MX9_changes 24 [some (.ref w), x1] [.ref w, .int v0, .ref v1] I J P Q := wp_lod (len := 1) rfl rfl rfl rfl dX9_changes_23
theorem e_X9_changes_24 {v0 : Nat} {v1 : Int32} {v2 : Nat} {x0 x1 : Option Value} : Wp S N d MX9_changes 24 [x0, x1] [.ref v0, .int v1, .ref v2] I J P Q ↔ S v0 = 9 ∧ Wp S N d MX9_changes 27 [x0, x1] [va_rf (P v0 5), .int v1, .ref v2] I J P Q := wp_getf rfl rfl rfl rfl dX9_changes_24
theorem e_X9_changes_27 {v0 : Nat} {v1 : Int32} {v2 : Nat} {w : Int32} {x0 : Option Value} : Wp S N d MX9_changes 27 [x0, some (.int w)] [.ref v0, .int v1, .ref v2] I J P Q ↔ Wp S N d MX9_changes 28 [x0, some (.int w)] [.int w, .ref v0, .int v1, .ref v2] I J P Q := wp_lod (len := 1) rfl rfl rfl rfl dX9_changes_27
theorem e_X9_changes_28 {v0 : Int32} {v1 : Nat} {v2 : Int32} {v3 : Nat} {x0 x1 : Option Value} : Wp S N d MX9_changes 28 [x0, x1] [.int v0, .ref v1, .int v2, .ref v3] I J P Q ↔ Wp S N d MX9_changes 30 [x0, x1] [.int 89, .int v0, .ref v1, .int v2, .ref v3] I J P Q := wp_bipush (by decide) dX9_changes_28
theorem e_X9_changes_30 {v0 : Int32} {v1 : Int32} {v2 : Nat} {v3 : Int32} {v4 : Nat} {x0 x1 : Option Value} : Wp S N d MX9_changes 30 [x0, x1] [.int v0, .int v1, .ref v2, .int v3, .ref v4] I J P Q ↔ Wp S N d MX9_changes 31 [x0, x1] [.int (v1 + v0), .ref v2, .int v3, .ref v4] I J P Q := wp_alu (len := 1) rfl rfl rfl dX9_changes_30
theorem e_X9_changes_31 {v0 : Int32} {v1 : Nat} {v2 : Int32} {v3 : Nat} {x0 x1 : Option Value} : Wp S N d MX9_changes 31 [x0, x1] [.int v0, .ref v1, .int v2, .ref v3] I J P Q ↔ (S v1 = 10 ∧ vp_in v0 (N v1)) ∧ Wp S N d MX9_changes 32 [x0, x1] [.int (I v1 v0.toNatClampNeg), .int v2, .ref v3] I J P Q := wp_ald rfl rfl dX9_changes_31
theorem e_X9_changes_32 {v0 : Int32} {v1 : Int32} {v2 : Nat} {x0 x1 : Option Value} : Wp S N d MX9_changes 32 [x0, x1] [.int v0, .int v1, .ref v2] I J P Q ↔ (S v2 = 10 ∧ vp_in v1 (N v2)) ∧ Wp S N d MX9_changes 33 [x0, x1] [] (u2 I v2 v1.toNatClampNeg v0) J P Q := wp_ast rfl rfl dX9_changes_32
theorem e_X9_changes_33 {w : Int32} {x0 : Option Value} : Wp S N d MX9_changes 33 [x0, some (.int w)] [] I J P Q ↔ Wp S N d MX9_changes 36 [kl x0, some (.int (w + 1))] [] I J P Q := wp_inc rfl rfl dX9_changes_33
theorem e_X9_changes_36  {x0 x1 : Option Value} : Wp S N d MX9_changes 36 [x0, x1] [] I J P Q ↔ Wp S N d MX9_changes 11 [x0, x1] [] I J P Q := wp_go (len := 3) rfl (fun _ _ => rfl) rfl (by decide) dX9_changes_36
theorem e_X9_changes_39  {x0 x1 : Option Value} : Wp S N d MX9_changes 39 [x0, x1] [] I J P Q ↔ Wp S N d MX9_changes 40 [x0, x1] [.int 0] I J P Q := wp_iconst (by decide) dX9_changes_39
theorem e_X9_changes_40 {v0 : Int32} {x0 x1 : Option Value} : Wp S N d MX9_changes 40 [x0, x1] [.int v0] I J P Q ↔ Wp S N d MX9_changes 41 [kl x0, some (.int v0)] [] I J P Q := wp_sto (len := 1) rfl rfl rfl rfl (Nat.le_of_ble_eq_true rfl) rfl dX9_changes_40
theorem e_X9_changes_41 {w : Int32} {x0 : Option Value} : Wp S N d MX9_changes 41 [x0, some (.int w)] [] I J P Q ↔ Wp S N d MX9_changes 42 [x0, some (.int w)] [.int w] I J P Q := wp_lod (len := 1) rfl rfl rfl rfl dX9_changes_41
theorem e_X9_changes_42 {v0 : Int32} {x0 x1 : Option Value} : Wp S N d MX9_changes 42 [x0, x1] [.int v0] I J P Q ↔ Wp S N d MX9_changes 45 [x0, x1] [.int 180, .int v0] I J P Q := wp_sipush (by decide) dX9_changes_42
theorem e_X9_changes_45 {v0 : Int32} {v1 : Int32} {x0 x1 : Option Value} : Wp S N d MX9_changes 45 [x0, x1] [.int v0, .int v1] I J P Q ↔ (v0 ≤ v1 → Wp S N d MX9_changes 69 [x0, x1] [] I J P Q) ∧ (¬ v0 ≤ v1 → Wp S N d MX9_changes 48 [x0, x1] [] I J P Q) := wp_br rfl rfl (by decide) dX9_changes_45
theorem e_X9_changes_48 {w : Nat} {x1 : Option Value} : Wp S N d MX9_changes 48 [some (.ref w), x1] [] I J P Q ↔ Wp S N d MX9_changes 49 [some (.ref w), x1] [.ref w] I J P Q := wp_lod (len := 1) rfl rfl rfl rfl dX9_changes_48
theorem e_X9_changes_49 {v0 : Nat} {x0 x1 : Option Value} : Wp S N d MX9_changes 49 [x0, x1] [.ref v0] I J P Q ↔ S v0 = 9 ∧ Wp S N d MX9_changes 52 [x0, x1] [va_rf (P v0 6)] I J P Q := wp_getf rfl rfl rfl rfl dX9_changes_49
theorem e_X9_changes_52 {v0 : Nat} {w : Int32} {x0 : Option Value} : Wp S N d MX9_changes 52 [x0, some (.int w)] [.ref v0] I J P Q ↔ Wp S N d MX9_changes 53 [x0, some (.int w)] [.int w, .ref v0] I J P Q := wp_lod (len := 1) rfl rfl rfl rfl dX9_changes_52
theorem e_X9_changes_53 {v0 : Int32} {v1 : Nat} {w : Nat} {x1 : Option Value} : Wp S N d MX9_changes 53 [some (.ref w), x1] [.int v0, .ref v1] I J P Q ↔ Wp S N d MX9_changes 54 [some (.ref w), x1] [.ref w, .int v0, .ref v1] I J P Q := wp_lod (len := 1) rfl rfl rfl rfl dX9_changes_53
theorem e_X9_changes_54 {v0 : Nat} {v1 : Int32} {v2 : Nat} {x0 x1 : Option Value} : Wp S N d MX9_changes 54 [x0, x1] [.ref v0, .int v1, .ref v2] I J P Q ↔ S v0 = 9 ∧ Wp S N d MX9_changes 57 [x0, x1] [va_rf (P v0 6), .int v1, .ref v2] I J P Q := wp_getf rfl rfl rfl rfl dX9_changes_54
theorem e_X9_changes_57 {v0 : Nat} {v1 : Int32} {v2 : Nat} {w : Int32} {x0 : Option Value} : Wp S N d MX9_changes 57 [x0, some (.int w)] [.ref v0, .int v1, .ref v2] I J P Q ↔ Wp S N d MX9_changes 58 [x0, some (.int w)] [.int w, .ref v0, .int v1, .ref v2] I J P Q := wp_lod (len := 1) rfl rfl rfl rfl dX9_changes_57
theorem e_X9_changes_58 {v0 : Int32} {v1 : Nat} {v2 : Int32} {v3 : Nat} {x0 x1 : Option Value} : Wp S N d MX9_changes 58 [x0, x1] [.int v0, .ref v1, .int v2, .ref v3] I J P Q ↔ Wp S N d MX9_changes 60 [x0, x1] [.int 36, .int v0, .ref v1, .int v2, .ref v3] I J P Q := wp_bipush (by decide) dX9_changes_58
theorem e_X9_changes_60 {v0 : Int32} {v1 : Int32} {v2 : Nat} {v3 : Int32} {v4 : Nat} {x0 x1 : Option Value} : Wp S N d MX9_changes 60 [x0, x1] [.int v0, .int v1, .ref v2, .int v3, .ref v4] I J P Q ↔ Wp S N d MX9_changes 61 [x0, x1] [.int (v1 + v0), .ref v2, .int v3, .ref v4] I J P Q := wp_alu (len := 1) rfl rfl rfl dX9_changes_60
theorem e_X9_changes_61 {v0 : Int32} {v1 : Nat} {v2 : Int32} {v3 : Nat} {x0 x1 : Option Value} : Wp S N d MX9_changes 61 [x0, x1] [.int v0, .ref v1, .int v2, .ref v3] I J P Q ↔ (S v1 = 11 ∧ vp_in v0 (N v1)) ∧ Wp S N d MX9_changes 62 [x0, x1] [.long (J v1 v0.toNatClampNeg), .int v2, .ref v3] I J P Q := wp_ald rfl rfl dX9_changes_61
theorem e_X9_changes_62 {v0 : Int64} {v1 : Int32} {v2 : Nat} {x0 x1 : Option Value} : Wp S N d MX9_changes 62 [x0, x1] [.long v0, .int v1, .ref v2] I J P Q ↔ (S v2 = 11 ∧ vp_in v1 (N v2)) ∧ Wp S N d MX9_changes 63 [x0, x1] [] I (u2 J v2 v1.toNatClampNeg v0) P Q := wp_ast rfl rfl dX9_changes_62
theorem e_X9_changes_63 {w : Int32} {x0 : Option Value} : Wp S N d MX9_changes 63 [x0, some (.int w)] [] I J P Q ↔ Wp S N d MX9_changes 66 [kl x0, some (.int (w + 1))] [] I J P Q := wp_inc rfl rfl dX9_changes_63
theorem e_X9_changes_66  {x0 x1 : Option Value} : Wp S N d MX9_changes 66 [x0, x1] [] I J P Q ↔ Wp S N d MX9_changes 41 [x0, x1] [] I J P Q := wp_go (len := 3) rfl (fun _ _ => rfl) rfl (by decide) dX9_changes_66
theorem e_X9_changes_69 {w : Nat} {x1 : Option Value} : Wp S N d MX9_changes 69 [some (.ref w), x1] [] I J P Q ↔ Wp S N d MX9_changes 70 [some (.ref w), x1] [.ref w] I J P Q := wp_lod (len := 1) rfl rfl rfl rfl dX9_changes_69
theorem e_X9_changes_70 {v0 : Nat} {x0 x1 : Option Value} : Wp S N d MX9_changes 70 [x0, x1] [.ref v0] I J P Q ↔ Wp S N d MX9_changes 71 [x0, x1] [.ref v0, .ref v0] I J P Q := wp_alu (len := 1) rfl rfl rfl dX9_changes_70
theorem e_X9_changes_71 {v0 : Nat} {v1 : Nat} {x0 x1 : Option Value} : Wp S N d MX9_changes 71 [x0, x1] [.ref v0, .ref v1] I J P Q ↔ S v0 = 9 ∧ Wp S N d MX9_changes 74 [x0, x1] [.int (I v0 7), .ref v1] I J P Q := wp_getf rfl rfl rfl rfl dX9_changes_71
theorem e_X9_changes_74 {v0 : Int32} {v1 : Nat} {x0 x1 : Option Value} : Wp S N d MX9_changes 74 [x0, x1] [.int v0, .ref v1] I J P Q ↔ Wp S N d MX9_changes 75 [x0, x1] [.int 1, .int v0, .ref v1] I J P Q := wp_iconst (by decide) dX9_changes_74
theorem e_X9_changes_75 {v0 : Int32} {v1 : Int32} {v2 : Nat} {x0 x1 : Option Value} : Wp S N d MX9_changes 75 [x0, x1] [.int v0, .int v1, .ref v2] I J P Q ↔ Wp S N d MX9_changes 76 [x0, x1] [.int (v1 - v0), .ref v2] I J P Q := wp_alu (len := 1) rfl rfl rfl dX9_changes_75
theorem e_X9_changes_76 {v0 : Int32} {v1 : Nat} {x0 x1 : Option Value} : Wp S N d MX9_changes 76 [x0, x1] [.int v0, .ref v1] I J P Q ↔ S v1 = 9 ∧ Wp S N d MX9_changes 79 [x0, x1] [] (u2 I v1 7 v0) J P Q := wp_putI rfl rfl rfl rfl dX9_changes_76
theorem e_X9_changes_79  {x0 x1 : Option Value} : Wp S N d MX9_changes 79 [x0, x1] [] I J P Q ↔ Wp S N d MX9_changes 80 [x0, x1] [.int 0] I J P Q := wp_iconst (by decide) dX9_changes_79
theorem e_X9_changes_80 {v0 : Int32} {x0 x1 : Option Value} : Wp S N d MX9_changes 80 [x0, x1] [.int v0] I J P Q ↔ Wp S N d MX9_changes 81 [kl x0, some (.int v0)] [] I J P Q := wp_sto (len := 1) rfl rfl rfl rfl (Nat.le_of_ble_eq_true rfl) rfl dX9_changes_80
theorem e_X9_changes_81 {w : Int32} {x0 : Option Value} : Wp S N d MX9_changes 81 [x0, some (.int w)] [] I J P Q ↔ Wp S N d MX9_changes 82 [x0, some (.int w)] [.int w] I J P Q := wp_lod (len := 1) rfl rfl rfl rfl dX9_changes_81
theorem e_X9_changes_82 {v0 : Int32} {x0 x1 : Option Value} : Wp S N d MX9_changes 82 [x0, x1] [.int v0] I J P Q ↔ Wp S N d MX9_changes 84 [x0, x1] [.int 89, .int v0] I J P Q := wp_bipush (by decide) dX9_changes_82
theorem e_X9_changes_84 {v0 : Int32} {v1 : Int32} {x0 x1 : Option Value} : Wp S N d MX9_changes 84 [x0, x1] [.int v0, .int v1] I J P Q ↔ (v0 ≤ v1 → Wp S N d MX9_changes 113 [x0, x1] [] I J P Q) ∧ (¬ v0 ≤ v1 → Wp S N d MX9_changes 87 [x0, x1] [] I J P Q) := wp_br rfl rfl (by decide) dX9_changes_84
theorem e_X9_changes_87 {w : Nat} {x1 : Option Value} : Wp S N d MX9_changes 87 [some (.ref w), x1] [] I J P Q ↔ Wp S N d MX9_changes 88 [some (.ref w), x1] [.ref w] I J P Q := wp_lod (len := 1) rfl rfl rfl rfl dX9_changes_87
theorem e_X9_changes_88 {v0 : Nat} {x0 x1 : Option Value} : Wp S N d MX9_changes 88 [x0, x1] [.ref v0] I J P Q ↔ S v0 = 9 ∧ Wp S N d MX9_changes 91 [x0, x1] [va_rf (P v0 5)] I J P Q := wp_getf rfl rfl rfl rfl dX9_changes_88
theorem e_X9_changes_91 {v0 : Nat} {x0 x1 : Option Value} : Wp S N d MX9_changes 91 [x0, x1] [.ref v0] I J P Q ↔ Wp S N d MX9_changes 93 [x0, x1] [.int 89, .ref v0] I J P Q := wp_bipush (by decide) dX9_changes_91
theorem e_X9_changes_93 {v0 : Int32} {v1 : Nat} {w : Nat} {x1 : Option Value} : Wp S N d MX9_changes 93 [some (.ref w), x1] [.int v0, .ref v1] I J P Q ↔ Wp S N d MX9_changes 94 [some (.ref w), x1] [.ref w, .int v0, .ref v1] I J P Q := wp_lod (len := 1) rfl rfl rfl rfl dX9_changes_93
theorem e_X9_changes_94 {v0 : Nat} {v1 : Int32} {v2 : Nat} {x0 x1 : Option Value} : Wp S N d MX9_changes 94 [x0, x1] [.ref v0, .int v1, .ref v2] I J P Q ↔ S v0 = 9 ∧ Wp S N d MX9_changes 97 [x0, x1] [.int (I v0 7), .int v1, .ref v2] I J P Q := wp_getf rfl rfl rfl rfl dX9_changes_94
theorem e_X9_changes_97 {v0 : Int32} {v1 : Int32} {v2 : Nat} {x0 x1 : Option Value} : Wp S N d MX9_changes 97 [x0, x1] [.int v0, .int v1, .ref v2] I J P Q ↔ Wp S N d MX9_changes 98 [x0, x1] [.int (v1 * v0), .ref v2] I J P Q := wp_alu (len := 1) rfl rfl rfl dX9_changes_97
theorem e_X9_changes_98 {v0 : Int32} {v1 : Nat} {w : Int32} {x0 : Option Value} : Wp S N d MX9_changes 98 [x0, some (.int w)] [.int v0, .ref v1] I J P Q ↔ Wp S N d MX9_changes 99 [x0, some (.int w)] [.int w, .int v0, .ref v1] I J P Q := wp_lod (len := 1) rfl rfl rfl rfl dX9_changes_98
theorem e_X9_changes_99 {v0 : Int32} {v1 : Int32} {v2 : Nat} {x0 x1 : Option Value} : Wp S N d MX9_changes 99 [x0, x1] [.int v0, .int v1, .ref v2] I J P Q ↔ Wp S N d MX9_changes 100 [x0, x1] [.int (v1 + v0), .ref v2] I J P Q := wp_alu (len := 1) rfl rfl rfl dX9_changes_99
theorem e_X9_changes_100 {v0 : Int32} {v1 : Nat} {w : Nat} {x1 : Option Value} : Wp S N d MX9_changes 100 [some (.ref w), x1] [.int v0, .ref v1] I J P Q ↔ Wp S N d MX9_changes 101 [some (.ref w), x1] [.ref w, .int v0, .ref v1] I J P Q := wp_lod (len := 1) rfl rfl rfl rfl dX9_changes_100
theorem e_X9_changes_101 {v0 : Nat} {v1 : Int32} {v2 : Nat} {x0 x1 : Option Value} : Wp S N d MX9_changes 101 [x0, x1] [.ref v0, .int v1, .ref v2] I J P Q ↔ S v0 = 9 ∧ Wp S N d MX9_changes 104 [x0, x1] [va_rf (P v0 0), .int v1, .ref v2] I J P Q := wp_getf rfl rfl rfl rfl dX9_changes_101
theorem e_X9_changes_104 {v0 : Nat} {v1 : Int32} {v2 : Nat} {w : Int32} {x0 : Option Value} : Wp S N d MX9_changes 104 [x0, some (.int w)] [.ref v0, .int v1, .ref v2] I J P Q ↔ Wp S N d MX9_changes 105 [x0, some (.int w)] [.int w, .ref v0, .int v1, .ref v2] I J P Q := wp_lod (len := 1) rfl rfl rfl rfl dX9_changes_104
theorem e_X9_changes_105 {v0 : Int32} {v1 : Nat} {v2 : Int32} {v3 : Nat} {x0 x1 : Option Value} : Wp S N d MX9_changes 105 [x0, x1] [.int v0, .ref v1, .int v2, .ref v3] I J P Q ↔ (S v1 = 10 ∧ vp_in v0 (N v1)) ∧ Wp S N d MX9_changes 106 [x0, x1] [.int (I v1 v0.toNatClampNeg), .int v2, .ref v3] I J P Q := wp_ald rfl rfl dX9_changes_105
theorem e_X9_changes_106 {v0 : Int32} {v1 : Int32} {v2 : Nat} {x0 x1 : Option Value} : Wp S N d MX9_changes 106 [x0, x1] [.int v0, .int v1, .ref v2] I J P Q ↔ (S v2 = 10 ∧ vp_in v1 (N v2)) ∧ Wp S N d MX9_changes 107 [x0, x1] [] (u2 I v2 v1.toNatClampNeg v0) J P Q := wp_ast rfl rfl dX9_changes_106
theorem e_X9_changes_107 {w : Int32} {x0 : Option Value} : Wp S N d MX9_changes 107 [x0, some (.int w)] [] I J P Q ↔ Wp S N d MX9_changes 110 [kl x0, some (.int (w + 1))] [] I J P Q := wp_inc rfl rfl dX9_changes_107
theorem e_X9_changes_110  {x0 x1 : Option Value} : Wp S N d MX9_changes 110 [x0, x1] [] I J P Q ↔ Wp S N d MX9_changes 81 [x0, x1] [] I J P Q := wp_go (len := 3) rfl (fun _ _ => rfl) rfl (by decide) dX9_changes_110
theorem e_X9_changes_113  {x0 x1 : Option Value} : Wp S N d MX9_changes 113 [x0, x1] [] I J P Q ↔ Wp S N d MX9_changes 114 [x0, x1] [.int 0] I J P Q := wp_iconst (by decide) dX9_changes_113
theorem e_X9_changes_114 {v0 : Int32} {x0 x1 : Option Value} : Wp S N d MX9_changes 114 [x0, x1] [.int v0] I J P Q ↔ Wp S N d MX9_changes 115 [kl x0, some (.int v0)] [] I J P Q := wp_sto (len := 1) rfl rfl rfl rfl (Nat.le_of_ble_eq_true rfl) rfl dX9_changes_114
theorem e_X9_changes_115 {w : Int32} {x0 : Option Value} : Wp S N d MX9_changes 115 [x0, some (.int w)] [] I J P Q ↔ Wp S N d MX9_changes 116 [x0, some (.int w)] [.int w] I J P Q := wp_lod (len := 1) rfl rfl rfl rfl dX9_changes_115
theorem e_X9_changes_116 {v0 : Int32} {x0 x1 : Option Value} : Wp S N d MX9_changes 116 [x0, x1] [.int v0] I J P Q ↔ Wp S N d MX9_changes 118 [x0, x1] [.int 36, .int v0] I J P Q := wp_bipush (by decide) dX9_changes_116
theorem e_X9_changes_118 {v0 : Int32} {v1 : Int32} {x0 x1 : Option Value} : Wp S N d MX9_changes 118 [x0, x1] [.int v0, .int v1] I J P Q ↔ (v0 ≤ v1 → Wp S N d MX9_changes 147 [x0, x1] [] I J P Q) ∧ (¬ v0 ≤ v1 → Wp S N d MX9_changes 121 [x0, x1] [] I J P Q) := wp_br rfl rfl (by decide) dX9_changes_118
theorem e_X9_changes_121 {w : Nat} {x1 : Option Value} : Wp S N d MX9_changes 121 [some (.ref w), x1] [] I J P Q ↔ Wp S N d MX9_changes 122 [some (.ref w), x1] [.ref w] I J P Q := wp_lod (len := 1) rfl rfl rfl rfl dX9_changes_121
theorem e_X9_changes_122 {v0 : Nat} {x0 x1 : Option Value} : Wp S N d MX9_changes 122 [x0, x1] [.ref v0] I J P Q ↔ S v0 = 9 ∧ Wp S N d MX9_changes 125 [x0, x1] [va_rf (P v0 6)] I J P Q := wp_getf rfl rfl rfl rfl dX9_changes_122
theorem e_X9_changes_125 {v0 : Nat} {x0 x1 : Option Value} : Wp S N d MX9_changes 125 [x0, x1] [.ref v0] I J P Q ↔ Wp S N d MX9_changes 127 [x0, x1] [.int 36, .ref v0] I J P Q := wp_bipush (by decide) dX9_changes_125
theorem e_X9_changes_127 {v0 : Int32} {v1 : Nat} {w : Nat} {x1 : Option Value} : Wp S N d MX9_changes 127 [some (.ref w), x1] [.int v0, .ref v1] I J P Q ↔ Wp S N d MX9_changes 128 [some (.ref w), x1] [.ref w, .int v0, .ref v1] I J P Q := wp_lod (len := 1) rfl rfl rfl rfl dX9_changes_127
theorem e_X9_changes_128 {v0 : Nat} {v1 : Int32} {v2 : Nat} {x0 x1 : Option Value} : Wp S N d MX9_changes 128 [x0, x1] [.ref v0, .int v1, .ref v2] I J P Q ↔ S v0 = 9 ∧ Wp S N d MX9_changes 131 [x0, x1] [.int (I v0 7), .int v1, .ref v2] I J P Q := wp_getf rfl rfl rfl rfl dX9_changes_128
theorem e_X9_changes_131 {v0 : Int32} {v1 : Int32} {v2 : Nat} {x0 x1 : Option Value} : Wp S N d MX9_changes 131 [x0, x1] [.int v0, .int v1, .ref v2] I J P Q ↔ Wp S N d MX9_changes 132 [x0, x1] [.int (v1 * v0), .ref v2] I J P Q := wp_alu (len := 1) rfl rfl rfl dX9_changes_131
theorem e_X9_changes_132 {v0 : Int32} {v1 : Nat} {w : Int32} {x0 : Option Value} : Wp S N d MX9_changes 132 [x0, some (.int w)] [.int v0, .ref v1] I J P Q ↔ Wp S N d MX9_changes 133 [x0, some (.int w)] [.int w, .int v0, .ref v1] I J P Q := wp_lod (len := 1) rfl rfl rfl rfl dX9_changes_132
theorem e_X9_changes_133 {v0 : Int32} {v1 : Int32} {v2 : Nat} {x0 x1 : Option Value} : Wp S N d MX9_changes 133 [x0, x1] [.int v0, .int v1, .ref v2] I J P Q ↔ Wp S N d MX9_changes 134 [x0, x1] [.int (v1 + v0), .ref v2] I J P Q := wp_alu (len := 1) rfl rfl rfl dX9_changes_133
theorem e_X9_changes_134 {v0 : Int32} {v1 : Nat} {w : Nat} {x1 : Option Value} : Wp S N d MX9_changes 134 [some (.ref w), x1] [.int v0, .ref v1] I J P Q ↔ Wp S N d MX9_changes 135 [some (.ref w), x1] [.ref w, .int v0, .ref v1] I J P Q := wp_lod (len := 1) rfl rfl rfl rfl dX9_changes_134
theorem e_X9_changes_135 {v0 : Nat} {v1 : Int32} {v2 : Nat} {x0 x1 : Option Value} : Wp S N d MX9_changes 135 [x0, x1] [.ref v0, .int v1, .ref v2] I J P Q ↔ S v0 = 9 ∧ Wp S N d MX9_changes 138 [x0, x1] [va_rf (P v0 1), .int v1, .ref v2] I J P Q := wp_getf rfl rfl rfl rfl dX9_changes_135
theorem e_X9_changes_138 {v0 : Nat} {v1 : Int32} {v2 : Nat} {w : Int32} {x0 : Option Value} : Wp S N d MX9_changes 138 [x0, some (.int w)] [.ref v0, .int v1, .ref v2] I J P Q ↔ Wp S N d MX9_changes 139 [x0, some (.int w)] [.int w, .ref v0, .int v1, .ref v2] I J P Q := wp_lod (len := 1) rfl rfl rfl rfl dX9_changes_138
theorem e_X9_changes_139 {v0 : Int32} {v1 : Nat} {v2 : Int32} {v3 : Nat} {x0 x1 : Option Value} : Wp S N d MX9_changes 139 [x0, x1] [.int v0, .ref v1, .int v2, .ref v3] I J P Q ↔ (S v1 = 11 ∧ vp_in v0 (N v1)) ∧ Wp S N d MX9_changes 140 [x0, x1] [.long (J v1 v0.toNatClampNeg), .int v2, .ref v3] I J P Q := wp_ald rfl rfl dX9_changes_139
theorem e_X9_changes_140 {v0 : Int64} {v1 : Int32} {v2 : Nat} {x0 x1 : Option Value} : Wp S N d MX9_changes 140 [x0, x1] [.long v0, .int v1, .ref v2] I J P Q ↔ (S v2 = 11 ∧ vp_in v1 (N v2)) ∧ Wp S N d MX9_changes 141 [x0, x1] [] I (u2 J v2 v1.toNatClampNeg v0) P Q := wp_ast rfl rfl dX9_changes_140
theorem e_X9_changes_141 {w : Int32} {x0 : Option Value} : Wp S N d MX9_changes 141 [x0, some (.int w)] [] I J P Q ↔ Wp S N d MX9_changes 144 [kl x0, some (.int (w + 1))] [] I J P Q := wp_inc rfl rfl dX9_changes_141
theorem e_X9_changes_144  {x0 x1 : Option Value} : Wp S N d MX9_changes 144 [x0, x1] [] I J P Q ↔ Wp S N d MX9_changes 115 [x0, x1] [] I J P Q := wp_go (len := 3) rfl (fun _ _ => rfl) rfl (by decide) dX9_changes_144
theorem e_X9_changes_147 {w : Nat} {x1 : Option Value} : Wp S N d MX9_changes 147 [some (.ref w), x1] [] I J P Q ↔ Wp S N d MX9_changes 148 [some (.ref w), x1] [.ref w] I J P Q := wp_lod (len := 1) rfl rfl rfl rfl dX9_changes_147
theorem e_X9_changes_148 {v0 : Nat} {x0 x1 : Option Value} : Wp S N d MX9_changes 148 [x0, x1] [.ref v0] I J P Q ↔ Wp S N d MX9_changes 149 [x0, x1] [.ref v0, .ref v0] I J P Q := wp_alu (len := 1) rfl rfl rfl dX9_changes_148
theorem e_X9_changes_149 {v0 : Nat} {v1 : Nat} {x0 x1 : Option Value} : Wp S N d MX9_changes 149 [x0, x1] [.ref v0, .ref v1] I J P Q ↔ S v0 = 9 ∧ Wp S N d MX9_changes 152 [x0, x1] [.int (I v0 7), .ref v1] I J P Q := wp_getf rfl rfl rfl rfl dX9_changes_149
theorem e_X9_changes_152 {v0 : Int32} {v1 : Nat} {x0 x1 : Option Value} : Wp S N d MX9_changes 152 [x0, x1] [.int v0, .ref v1] I J P Q ↔ Wp S N d MX9_changes 153 [x0, x1] [.int 1, .int v0, .ref v1] I J P Q := wp_iconst (by decide) dX9_changes_152
theorem e_X9_changes_153 {v0 : Int32} {v1 : Int32} {v2 : Nat} {x0 x1 : Option Value} : Wp S N d MX9_changes 153 [x0, x1] [.int v0, .int v1, .ref v2] I J P Q ↔ Wp S N d MX9_changes 154 [x0, x1] [.int (v1 + v0), .ref v2] I J P Q := wp_alu (len := 1) rfl rfl rfl dX9_changes_153
theorem e_X9_changes_154 {v0 : Int32} {v1 : Nat} {x0 x1 : Option Value} : Wp S N d MX9_changes 154 [x0, x1] [.int v0, .ref v1] I J P Q ↔ S v1 = 9 ∧ Wp S N d MX9_changes 157 [x0, x1] [] (u2 I v1 7 v0) J P Q := wp_putI rfl rfl rfl rfl dX9_changes_154
theorem e_X9_changes_157  {x0 x1 : Option Value} : Wp S N d MX9_changes 157 [x0, x1] [] I J P Q ↔ Q none I J P := wp_vret rfl dX9_changes_157
theorem dX9_undo_0 : decode cX9_undo 0 = .ok (.aload_n 0, 1) := by decide +kernel
theorem dX9_undo_1 : decode cX9_undo 1 = .ok (.iconst 0, 1) := by decide +kernel
theorem dX9_undo_2 : decode cX9_undo 2 = .ok (.putfield 57, 3) := by decide +kernel
theorem dX9_undo_5 : decode cX9_undo 5 = .ok (.aload_n 0, 1) := by decide +kernel
theorem dX9_undo_6 : decode cX9_undo 6 = .ok (.getfield 64, 3) := by decide +kernel
theorem dX9_undo_9 : decode cX9_undo 9 = .ok (.ifCond .ne 9, 3) := by decide +kernel
theorem dX9_undo_12 : decode cX9_undo 12 = .ok (.aload_n 0, 1) := by decide +kernel
theorem dX9_undo_13 : decode cX9_undo 13 = .ok (.iconst 1, 1) := by decide +kernel
theorem dX9_undo_14 : decode cX9_undo 14 = .ok (.invokevirtual 67, 3) := by decide +kernel
theorem dX9_undo_17 : decode cX9_undo 17 = .ok (.ireturn, 1) := by decide +kernel
theorem dX9_undo_18 : decode cX9_undo 18 = .ok (.aload_n 0, 1) := by decide +kernel
theorem dX9_undo_19 : decode cX9_undo 19 = .ok (.dup, 1) := by decide +kernel
theorem dX9_undo_20 : decode cX9_undo 20 = .ok (.getfield 64, 3) := by decide +kernel
theorem dX9_undo_23 : decode cX9_undo 23 = .ok (.iconst 1, 1) := by decide +kernel
theorem dX9_undo_24 : decode cX9_undo 24 = .ok (.isub, 1) := by decide +kernel
theorem dX9_undo_25 : decode cX9_undo 25 = .ok (.putfield 64, 3) := by decide +kernel
theorem dX9_undo_28 : decode cX9_undo 28 = .ok (.iconst 0, 1) := by decide +kernel
theorem dX9_undo_29 : decode cX9_undo 29 = .ok (.istore_n 1, 1) := by decide +kernel
theorem dX9_undo_30 : decode cX9_undo 30 = .ok (.iload_n 1, 1) := by decide +kernel
theorem dX9_undo_31 : decode cX9_undo 31 = .ok (.bipush 89, 2) := by decide +kernel
theorem dX9_undo_33 : decode cX9_undo 33 = .ok (.if_icmp .ge 29, 3) := by decide +kernel
theorem dX9_undo_36 : decode cX9_undo 36 = .ok (.aload_n 0, 1) := by decide +kernel
theorem dX9_undo_37 : decode cX9_undo 37 = .ok (.getfield 7, 3) := by decide +kernel
theorem dX9_undo_40 : decode cX9_undo 40 = .ok (.iload_n 1, 1) := by decide +kernel
theorem dX9_undo_41 : decode cX9_undo 41 = .ok (.aload_n 0, 1) := by decide +kernel
theorem dX9_undo_42 : decode cX9_undo 42 = .ok (.getfield 23, 3) := by decide +kernel
theorem dX9_undo_45 : decode cX9_undo 45 = .ok (.bipush 89, 2) := by decide +kernel
theorem dX9_undo_47 : decode cX9_undo 47 = .ok (.aload_n 0, 1) := by decide +kernel
theorem dX9_undo_48 : decode cX9_undo 48 = .ok (.getfield 64, 3) := by decide +kernel
theorem dX9_undo_51 : decode cX9_undo 51 = .ok (.imul, 1) := by decide +kernel
theorem dX9_undo_52 : decode cX9_undo 52 = .ok (.iload_n 1, 1) := by decide +kernel
theorem dX9_undo_53 : decode cX9_undo 53 = .ok (.iadd, 1) := by decide +kernel
theorem dX9_undo_54 : decode cX9_undo 54 = .ok (.iaload, 1) := by decide +kernel
theorem dX9_undo_55 : decode cX9_undo 55 = .ok (.iastore, 1) := by decide +kernel
theorem dX9_undo_56 : decode cX9_undo 56 = .ok (.iinc 1 1, 3) := by decide +kernel
theorem dX9_undo_59 : decode cX9_undo 59 = .ok (.goto (-29), 3) := by decide +kernel
theorem dX9_undo_62 : decode cX9_undo 62 = .ok (.iconst 0, 1) := by decide +kernel
theorem dX9_undo_63 : decode cX9_undo 63 = .ok (.istore_n 1, 1) := by decide +kernel
theorem dX9_undo_64 : decode cX9_undo 64 = .ok (.iload_n 1, 1) := by decide +kernel
theorem dX9_undo_65 : decode cX9_undo 65 = .ok (.bipush 36, 2) := by decide +kernel
theorem dX9_undo_67 : decode cX9_undo 67 = .ok (.if_icmp .ge 29, 3) := by decide +kernel
theorem dX9_undo_70 : decode cX9_undo 70 = .ok (.aload_n 0, 1) := by decide +kernel
theorem dX9_undo_71 : decode cX9_undo 71 = .ok (.getfield 13, 3) := by decide +kernel
theorem dX9_undo_74 : decode cX9_undo 74 = .ok (.iload_n 1, 1) := by decide +kernel
theorem dX9_undo_75 : decode cX9_undo 75 = .ok (.aload_n 0, 1) := by decide +kernel
theorem dX9_undo_76 : decode cX9_undo 76 = .ok (.getfield 26, 3) := by decide +kernel
theorem dX9_undo_79 : decode cX9_undo 79 = .ok (.bipush 36, 2) := by decide +kernel
theorem dX9_undo_81 : decode cX9_undo 81 = .ok (.aload_n 0, 1) := by decide +kernel
theorem dX9_undo_82 : decode cX9_undo 82 = .ok (.getfield 64, 3) := by decide +kernel
theorem dX9_undo_85 : decode cX9_undo 85 = .ok (.imul, 1) := by decide +kernel
theorem dX9_undo_86 : decode cX9_undo 86 = .ok (.iload_n 1, 1) := by decide +kernel
theorem dX9_undo_87 : decode cX9_undo 87 = .ok (.iadd, 1) := by decide +kernel
theorem dX9_undo_88 : decode cX9_undo 88 = .ok (.laload, 1) := by decide +kernel
theorem dX9_undo_89 : decode cX9_undo 89 = .ok (.lastore, 1) := by decide +kernel
theorem dX9_undo_90 : decode cX9_undo 90 = .ok (.iinc 1 1, 3) := by decide +kernel
theorem dX9_undo_93 : decode cX9_undo 93 = .ok (.goto (-29), 3) := by decide +kernel
theorem dX9_undo_96 : decode cX9_undo 96 = .ok (.aload_n 0, 1) := by decide +kernel
theorem dX9_undo_97 : decode cX9_undo 97 = .ok (.getfield 64, 3) := by decide +kernel
theorem dX9_undo_100 : decode cX9_undo 100 = .ok (.ireturn, 1) := by decide +kernel
theorem c_X9_undo {a0 : Nat} : CWp S N d MX9_undo [.ref a0] I J P Q ↔ Wp S N d MX9_undo 0 [some (.ref a0), none] [] I J P Q := by
  rw [cwp_iff]
  exact ⟨fun h => h.2, fun h => ⟨Nat.le_of_ble_eq_true rfl, h⟩⟩
theorem e_X9_undo_0 {w : Nat} {x1 : Option Value} : Wp S N d MX9_undo 0 [some (.ref w), x1] [] I J P Q ↔ Wp S N d MX9_undo 1 [some (.ref w), x1] [.ref w] I J P Q := wp_lod (len := 1) rfl rfl rfl rfl dX9_undo_0
theorem e_X9_undo_1 {v0 : Nat} {x0 x1 : Option Value} : Wp S N d MX9_undo 1 [x0, x1] [.ref v0] I J P Q ↔ Wp S N d MX9_undo 2 [x0, x1] [.int 0, .ref v0] I J P Q := wp_iconst (by decide) dX9_undo_1
theorem e_X9_undo_2 {v0 : Int32} {v1 : Nat} {x0 x1 : Option Value} : Wp S N d MX9_undo 2 [x0, x1] [.int v0, .ref v1] I J P Q ↔ S v1 = 9 ∧ Wp S N d MX9_undo 5 [x0, x1] [] (u2 I v1 8 v0) J P Q := wp_putI rfl rfl rfl rfl dX9_undo_2
theorem e_X9_undo_5 {w : Nat} {x1 : Option Value} : Wp S N d MX9_undo 5 [some (.ref w), x1] [] I J P Q ↔ Wp S N d MX9_undo 6 [some (.ref w), x1] [.ref w] I J P Q := wp_lod (len := 1) rfl rfl rfl rfl dX9_undo_5
theorem e_X9_undo_6 {v0 : Nat} {x0 x1 : Option Value} : Wp S N d MX9_undo 6 [x0, x1] [.ref v0] I J P Q ↔ S v0 = 9 ∧ Wp S N d MX9_undo 9 [x0, x1] [.int (I v0 7)] I J P Q := wp_getf rfl rfl rfl rfl dX9_undo_6
theorem e_X9_undo_9 {v0 : Int32} {x0 x1 : Option Value} : Wp S N d MX9_undo 9 [x0, x1] [.int v0] I J P Q ↔ (¬ v0 = 0 → Wp S N d MX9_undo 18 [x0, x1] [] I J P Q) ∧ (v0 = 0 → Wp S N d MX9_undo 12 [x0, x1] [] I J P Q) := wp_brn rfl rfl (by decide) dX9_undo_9
theorem e_X9_undo_12 {w : Nat} {x1 : Option Value} : Wp S N d MX9_undo 12 [some (.ref w), x1] [] I J P Q ↔ Wp S N d MX9_undo 13 [some (.ref w), x1] [.ref w] I J P Q := wp_lod (len := 1) rfl rfl rfl rfl dX9_undo_12
theorem e_X9_undo_13 {v0 : Nat} {x0 x1 : Option Value} : Wp S N d MX9_undo 13 [x0, x1] [.ref v0] I J P Q ↔ Wp S N d MX9_undo 14 [x0, x1] [.int 1, .ref v0] I J P Q := wp_iconst (by decide) dX9_undo_13
theorem e_X9_undo_14 {v0 : Int32} {v1 : Nat} {x0 x1 : Option Value} : Wp S N (d + 1) MX9_undo 14 [x0, x1] [.int v0, .ref v1] I J P Q ↔ S v1 = 9 ∧ CWp S N d MX9_fails [.ref v1, .int v0] I J P (fun r I1 J1 P1 => Wp S N (d + 1) MX9_undo 17 [x0, x1] (r.toList ++ []) I1 J1 P1 Q) := wp_callV (M' := MX9_fails) (As := [.int v0]) rfl rfl rfl rfl (by decide) (Nat.le_of_ble_eq_true rfl) dX9_undo_14
theorem e_X9_undo_17 {v0 : Int32} {x0 x1 : Option Value} : Wp S N d MX9_undo 17 [x0, x1] [.int v0] I J P Q ↔ Q (some (.int v0)) I J P := wp_iret rfl dX9_undo_17
theorem e_X9_undo_18 {w : Nat} {x1 : Option Value} : Wp S N d MX9_undo 18 [some (.ref w), x1] [] I J P Q ↔ Wp S N d MX9_undo 19 [some (.ref w), x1] [.ref w] I J P Q := wp_lod (len := 1) rfl rfl rfl rfl dX9_undo_18
theorem e_X9_undo_19 {v0 : Nat} {x0 x1 : Option Value} : Wp S N d MX9_undo 19 [x0, x1] [.ref v0] I J P Q ↔ Wp S N d MX9_undo 20 [x0, x1] [.ref v0, .ref v0] I J P Q := wp_alu (len := 1) rfl rfl rfl dX9_undo_19
theorem e_X9_undo_20 {v0 : Nat} {v1 : Nat} {x0 x1 : Option Value} : Wp S N d MX9_undo 20 [x0, x1] [.ref v0, .ref v1] I J P Q ↔ S v0 = 9 ∧ Wp S N d MX9_undo 23 [x0, x1] [.int (I v0 7), .ref v1] I J P Q := wp_getf rfl rfl rfl rfl dX9_undo_20
theorem e_X9_undo_23 {v0 : Int32} {v1 : Nat} {x0 x1 : Option Value} : Wp S N d MX9_undo 23 [x0, x1] [.int v0, .ref v1] I J P Q ↔ Wp S N d MX9_undo 24 [x0, x1] [.int 1, .int v0, .ref v1] I J P Q := wp_iconst (by decide) dX9_undo_23
theorem e_X9_undo_24 {v0 : Int32} {v1 : Int32} {v2 : Nat} {x0 x1 : Option Value} : Wp S N d MX9_undo 24 [x0, x1] [.int v0, .int v1, .ref v2] I J P Q ↔ Wp S N d MX9_undo 25 [x0, x1] [.int (v1 - v0), .ref v2] I J P Q := wp_alu (len := 1) rfl rfl rfl dX9_undo_24
theorem e_X9_undo_25 {v0 : Int32} {v1 : Nat} {x0 x1 : Option Value} : Wp S N d MX9_undo 25 [x0, x1] [.int v0, .ref v1] I J P Q ↔ S v1 = 9 ∧ Wp S N d MX9_undo 28 [x0, x1] [] (u2 I v1 7 v0) J P Q := wp_putI rfl rfl rfl rfl dX9_undo_25
theorem e_X9_undo_28  {x0 x1 : Option Value} : Wp S N d MX9_undo 28 [x0, x1] [] I J P Q ↔ Wp S N d MX9_undo 29 [x0, x1] [.int 0] I J P Q := wp_iconst (by decide) dX9_undo_28
theorem e_X9_undo_29 {v0 : Int32} {x0 x1 : Option Value} : Wp S N d MX9_undo 29 [x0, x1] [.int v0] I J P Q ↔ Wp S N d MX9_undo 30 [kl x0, some (.int v0)] [] I J P Q := wp_sto (len := 1) rfl rfl rfl rfl (Nat.le_of_ble_eq_true rfl) rfl dX9_undo_29
theorem e_X9_undo_30 {w : Int32} {x0 : Option Value} : Wp S N d MX9_undo 30 [x0, some (.int w)] [] I J P Q ↔ Wp S N d MX9_undo 31 [x0, some (.int w)] [.int w] I J P Q := wp_lod (len := 1) rfl rfl rfl rfl dX9_undo_30
theorem e_X9_undo_31 {v0 : Int32} {x0 x1 : Option Value} : Wp S N d MX9_undo 31 [x0, x1] [.int v0] I J P Q ↔ Wp S N d MX9_undo 33 [x0, x1] [.int 89, .int v0] I J P Q := wp_bipush (by decide) dX9_undo_31
theorem e_X9_undo_33 {v0 : Int32} {v1 : Int32} {x0 x1 : Option Value} : Wp S N d MX9_undo 33 [x0, x1] [.int v0, .int v1] I J P Q ↔ (v0 ≤ v1 → Wp S N d MX9_undo 62 [x0, x1] [] I J P Q) ∧ (¬ v0 ≤ v1 → Wp S N d MX9_undo 36 [x0, x1] [] I J P Q) := wp_br rfl rfl (by decide) dX9_undo_33
theorem e_X9_undo_36 {w : Nat} {x1 : Option Value} : Wp S N d MX9_undo 36 [some (.ref w), x1] [] I J P Q ↔ Wp S N d MX9_undo 37 [some (.ref w), x1] [.ref w] I J P Q := wp_lod (len := 1) rfl rfl rfl rfl dX9_undo_36
theorem e_X9_undo_37 {v0 : Nat} {x0 x1 : Option Value} : Wp S N d MX9_undo 37 [x0, x1] [.ref v0] I J P Q ↔ S v0 = 9 ∧ Wp S N d MX9_undo 40 [x0, x1] [va_rf (P v0 0)] I J P Q := wp_getf rfl rfl rfl rfl dX9_undo_37
theorem e_X9_undo_40 {v0 : Nat} {w : Int32} {x0 : Option Value} : Wp S N d MX9_undo 40 [x0, some (.int w)] [.ref v0] I J P Q ↔ Wp S N d MX9_undo 41 [x0, some (.int w)] [.int w, .ref v0] I J P Q := wp_lod (len := 1) rfl rfl rfl rfl dX9_undo_40
theorem e_X9_undo_41 {v0 : Int32} {v1 : Nat} {w : Nat} {x1 : Option Value} : Wp S N d MX9_undo 41 [some (.ref w), x1] [.int v0, .ref v1] I J P Q ↔ Wp S N d MX9_undo 42 [some (.ref w), x1] [.ref w, .int v0, .ref v1] I J P Q := wp_lod (len := 1) rfl rfl rfl rfl dX9_undo_41
theorem e_X9_undo_42 {v0 : Nat} {v1 : Int32} {v2 : Nat} {x0 x1 : Option Value} : Wp S N d MX9_undo 42 [x0, x1] [.ref v0, .int v1, .ref v2] I J P Q ↔ S v0 = 9 ∧ Wp S N d MX9_undo 45 [x0, x1] [va_rf (P v0 5), .int v1, .ref v2] I J P Q := wp_getf rfl rfl rfl rfl dX9_undo_42
theorem e_X9_undo_45 {v0 : Nat} {v1 : Int32} {v2 : Nat} {x0 x1 : Option Value} : Wp S N d MX9_undo 45 [x0, x1] [.ref v0, .int v1, .ref v2] I J P Q ↔ Wp S N d MX9_undo 47 [x0, x1] [.int 89, .ref v0, .int v1, .ref v2] I J P Q := wp_bipush (by decide) dX9_undo_45
theorem e_X9_undo_47 {v0 : Int32} {v1 : Nat} {v2 : Int32} {v3 : Nat} {w : Nat} {x1 : Option Value} : Wp S N d MX9_undo 47 [some (.ref w), x1] [.int v0, .ref v1, .int v2, .ref v3] I J P Q ↔ Wp S N d MX9_undo 48 [some (.ref w), x1] [.ref w, .int v0, .ref v1, .int v2, .ref v3] I J P Q := wp_lod (len := 1) rfl rfl rfl rfl dX9_undo_47
theorem e_X9_undo_48 {v0 : Nat} {v1 : Int32} {v2 : Nat} {v3 : Int32} {v4 : Nat} {x0 x1 : Option Value} : Wp S N d MX9_undo 48 [x0, x1] [.ref v0, .int v1, .ref v2, .int v3, .ref v4] I J P Q ↔ S v0 = 9 ∧ Wp S N d MX9_undo 51 [x0, x1] [.int (I v0 7), .int v1, .ref v2, .int v3, .ref v4] I J P Q := wp_getf rfl rfl rfl rfl dX9_undo_48
theorem e_X9_undo_51 {v0 : Int32} {v1 : Int32} {v2 : Nat} {v3 : Int32} {v4 : Nat} {x0 x1 : Option Value} : Wp S N d MX9_undo 51 [x0, x1] [.int v0, .int v1, .ref v2, .int v3, .ref v4] I J P Q ↔ Wp S N d MX9_undo 52 [x0, x1] [.int (v1 * v0), .ref v2, .int v3, .ref v4] I J P Q := wp_alu (len := 1) rfl rfl rfl dX9_undo_51
theorem e_X9_undo_52 {v0 : Int32} {v1 : Nat} {v2 : Int32} {v3 : Nat} {w : Int32} {x0 : Option Value} : Wp S N d MX9_undo 52 [x0, some (.int w)] [.int v0, .ref v1, .int v2, .ref v3] I J P Q ↔ Wp S N d MX9_undo 53 [x0, some (.int w)] [.int w, .int v0, .ref v1, .int v2, .ref v3] I J P Q := wp_lod (len := 1) rfl rfl rfl rfl dX9_undo_52
theorem e_X9_undo_53 {v0 : Int32} {v1 : Int32} {v2 : Nat} {v3 : Int32} {v4 : Nat} {x0 x1 : Option Value} : Wp S N d MX9_undo 53 [x0, x1] [.int v0, .int v1, .ref v2, .int v3, .ref v4] I J P Q ↔ Wp S N d MX9_undo 54 [x0, x1] [.int (v1 + v0), .ref v2, .int v3, .ref v4] I J P Q := wp_alu (len := 1) rfl rfl rfl dX9_undo_53
theorem e_X9_undo_54 {v0 : Int32} {v1 : Nat} {v2 : Int32} {v3 : Nat} {x0 x1 : Option Value} : Wp S N d MX9_undo 54 [x0, x1] [.int v0, .ref v1, .int v2, .ref v3] I J P Q ↔ (S v1 = 10 ∧ vp_in v0 (N v1)) ∧ Wp S N d MX9_undo 55 [x0, x1] [.int (I v1 v0.toNatClampNeg), .int v2, .ref v3] I J P Q := wp_ald rfl rfl dX9_undo_54
theorem e_X9_undo_55 {v0 : Int32} {v1 : Int32} {v2 : Nat} {x0 x1 : Option Value} : Wp S N d MX9_undo 55 [x0, x1] [.int v0, .int v1, .ref v2] I J P Q ↔ (S v2 = 10 ∧ vp_in v1 (N v2)) ∧ Wp S N d MX9_undo 56 [x0, x1] [] (u2 I v2 v1.toNatClampNeg v0) J P Q := wp_ast rfl rfl dX9_undo_55
theorem e_X9_undo_56 {w : Int32} {x0 : Option Value} : Wp S N d MX9_undo 56 [x0, some (.int w)] [] I J P Q ↔ Wp S N d MX9_undo 59 [kl x0, some (.int (w + 1))] [] I J P Q := wp_inc rfl rfl dX9_undo_56
theorem e_X9_undo_59  {x0 x1 : Option Value} : Wp S N d MX9_undo 59 [x0, x1] [] I J P Q ↔ Wp S N d MX9_undo 30 [x0, x1] [] I J P Q := wp_go (len := 3) rfl (fun _ _ => rfl) rfl (by decide) dX9_undo_59
theorem e_X9_undo_62  {x0 x1 : Option Value} : Wp S N d MX9_undo 62 [x0, x1] [] I J P Q ↔ Wp S N d MX9_undo 63 [x0, x1] [.int 0] I J P Q := wp_iconst (by decide) dX9_undo_62
theorem e_X9_undo_63 {v0 : Int32} {x0 x1 : Option Value} : Wp S N d MX9_undo 63 [x0, x1] [.int v0] I J P Q ↔ Wp S N d MX9_undo 64 [kl x0, some (.int v0)] [] I J P Q := wp_sto (len := 1) rfl rfl rfl rfl (Nat.le_of_ble_eq_true rfl) rfl dX9_undo_63
theorem e_X9_undo_64 {w : Int32} {x0 : Option Value} : Wp S N d MX9_undo 64 [x0, some (.int w)] [] I J P Q ↔ Wp S N d MX9_undo 65 [x0, some (.int w)] [.int w] I J P Q := wp_lod (len := 1) rfl rfl rfl rfl dX9_undo_64
theorem e_X9_undo_65 {v0 : Int32} {x0 x1 : Option Value} : Wp S N d MX9_undo 65 [x0, x1] [.int v0] I J P Q ↔ Wp S N d MX9_undo 67 [x0, x1] [.int 36, .int v0] I J P Q := wp_bipush (by decide) dX9_undo_65
theorem e_X9_undo_67 {v0 : Int32} {v1 : Int32} {x0 x1 : Option Value} : Wp S N d MX9_undo 67 [x0, x1] [.int v0, .int v1] I J P Q ↔ (v0 ≤ v1 → Wp S N d MX9_undo 96 [x0, x1] [] I J P Q) ∧ (¬ v0 ≤ v1 → Wp S N d MX9_undo 70 [x0, x1] [] I J P Q) := wp_br rfl rfl (by decide) dX9_undo_67
theorem e_X9_undo_70 {w : Nat} {x1 : Option Value} : Wp S N d MX9_undo 70 [some (.ref w), x1] [] I J P Q ↔ Wp S N d MX9_undo 71 [some (.ref w), x1] [.ref w] I J P Q := wp_lod (len := 1) rfl rfl rfl rfl dX9_undo_70
theorem e_X9_undo_71 {v0 : Nat} {x0 x1 : Option Value} : Wp S N d MX9_undo 71 [x0, x1] [.ref v0] I J P Q ↔ S v0 = 9 ∧ Wp S N d MX9_undo 74 [x0, x1] [va_rf (P v0 1)] I J P Q := wp_getf rfl rfl rfl rfl dX9_undo_71
theorem e_X9_undo_74 {v0 : Nat} {w : Int32} {x0 : Option Value} : Wp S N d MX9_undo 74 [x0, some (.int w)] [.ref v0] I J P Q ↔ Wp S N d MX9_undo 75 [x0, some (.int w)] [.int w, .ref v0] I J P Q := wp_lod (len := 1) rfl rfl rfl rfl dX9_undo_74
theorem e_X9_undo_75 {v0 : Int32} {v1 : Nat} {w : Nat} {x1 : Option Value} : Wp S N d MX9_undo 75 [some (.ref w), x1] [.int v0, .ref v1] I J P Q ↔ Wp S N d MX9_undo 76 [some (.ref w), x1] [.ref w, .int v0, .ref v1] I J P Q := wp_lod (len := 1) rfl rfl rfl rfl dX9_undo_75
theorem e_X9_undo_76 {v0 : Nat} {v1 : Int32} {v2 : Nat} {x0 x1 : Option Value} : Wp S N d MX9_undo 76 [x0, x1] [.ref v0, .int v1, .ref v2] I J P Q ↔ S v0 = 9 ∧ Wp S N d MX9_undo 79 [x0, x1] [va_rf (P v0 6), .int v1, .ref v2] I J P Q := wp_getf rfl rfl rfl rfl dX9_undo_76
theorem e_X9_undo_79 {v0 : Nat} {v1 : Int32} {v2 : Nat} {x0 x1 : Option Value} : Wp S N d MX9_undo 79 [x0, x1] [.ref v0, .int v1, .ref v2] I J P Q ↔ Wp S N d MX9_undo 81 [x0, x1] [.int 36, .ref v0, .int v1, .ref v2] I J P Q := wp_bipush (by decide) dX9_undo_79
theorem e_X9_undo_81 {v0 : Int32} {v1 : Nat} {v2 : Int32} {v3 : Nat} {w : Nat} {x1 : Option Value} : Wp S N d MX9_undo 81 [some (.ref w), x1] [.int v0, .ref v1, .int v2, .ref v3] I J P Q ↔ Wp S N d MX9_undo 82 [some (.ref w), x1] [.ref w, .int v0, .ref v1, .int v2, .ref v3] I J P Q := wp_lod (len := 1) rfl rfl rfl rfl dX9_undo_81
theorem e_X9_undo_82 {v0 : Nat} {v1 : Int32} {v2 : Nat} {v3 : Int32} {v4 : Nat} {x0 x1 : Option Value} : Wp S N d MX9_undo 82 [x0, x1] [.ref v0, .int v1, .ref v2, .int v3, .ref v4] I J P Q ↔ S v0 = 9 ∧ Wp S N d MX9_undo 85 [x0, x1] [.int (I v0 7), .int v1, .ref v2, .int v3, .ref v4] I J P Q := wp_getf rfl rfl rfl rfl dX9_undo_82
theorem e_X9_undo_85 {v0 : Int32} {v1 : Int32} {v2 : Nat} {v3 : Int32} {v4 : Nat} {x0 x1 : Option Value} : Wp S N d MX9_undo 85 [x0, x1] [.int v0, .int v1, .ref v2, .int v3, .ref v4] I J P Q ↔ Wp S N d MX9_undo 86 [x0, x1] [.int (v1 * v0), .ref v2, .int v3, .ref v4] I J P Q := wp_alu (len := 1) rfl rfl rfl dX9_undo_85
theorem e_X9_undo_86 {v0 : Int32} {v1 : Nat} {v2 : Int32} {v3 : Nat} {w : Int32} {x0 : Option Value} : Wp S N d MX9_undo 86 [x0, some (.int w)] [.int v0, .ref v1, .int v2, .ref v3] I J P Q ↔ Wp S N d MX9_undo 87 [x0, some (.int w)] [.int w, .int v0, .ref v1, .int v2, .ref v3] I J P Q := wp_lod (len := 1) rfl rfl rfl rfl dX9_undo_86
theorem e_X9_undo_87 {v0 : Int32} {v1 : Int32} {v2 : Nat} {v3 : Int32} {v4 : Nat} {x0 x1 : Option Value} : Wp S N d MX9_undo 87 [x0, x1] [.int v0, .int v1, .ref v2, .int v3, .ref v4] I J P Q ↔ Wp S N d MX9_undo 88 [x0, x1] [.int (v1 + v0), .ref v2, .int v3, .ref v4] I J P Q := wp_alu (len := 1) rfl rfl rfl dX9_undo_87
theorem e_X9_undo_88 {v0 : Int32} {v1 : Nat} {v2 : Int32} {v3 : Nat} {x0 x1 : Option Value} : Wp S N d MX9_undo 88 [x0, x1] [.int v0, .ref v1, .int v2, .ref v3] I J P Q ↔ (S v1 = 11 ∧ vp_in v0 (N v1)) ∧ Wp S N d MX9_undo 89 [x0, x1] [.long (J v1 v0.toNatClampNeg), .int v2, .ref v3] I J P Q := wp_ald rfl rfl dX9_undo_88
theorem e_X9_undo_89 {v0 : Int64} {v1 : Int32} {v2 : Nat} {x0 x1 : Option Value} : Wp S N d MX9_undo 89 [x0, x1] [.long v0, .int v1, .ref v2] I J P Q ↔ (S v2 = 11 ∧ vp_in v1 (N v2)) ∧ Wp S N d MX9_undo 90 [x0, x1] [] I (u2 J v2 v1.toNatClampNeg v0) P Q := wp_ast rfl rfl dX9_undo_89
theorem e_X9_undo_90 {w : Int32} {x0 : Option Value} : Wp S N d MX9_undo 90 [x0, some (.int w)] [] I J P Q ↔ Wp S N d MX9_undo 93 [kl x0, some (.int (w + 1))] [] I J P Q := wp_inc rfl rfl dX9_undo_90
theorem e_X9_undo_93  {x0 x1 : Option Value} : Wp S N d MX9_undo 93 [x0, x1] [] I J P Q ↔ Wp S N d MX9_undo 64 [x0, x1] [] I J P Q := wp_go (len := 3) rfl (fun _ _ => rfl) rfl (by decide) dX9_undo_93
theorem e_X9_undo_96 {w : Nat} {x1 : Option Value} : Wp S N d MX9_undo 96 [some (.ref w), x1] [] I J P Q ↔ Wp S N d MX9_undo 97 [some (.ref w), x1] [.ref w] I J P Q := wp_lod (len := 1) rfl rfl rfl rfl dX9_undo_96
theorem e_X9_undo_97 {v0 : Nat} {x0 x1 : Option Value} : Wp S N d MX9_undo 97 [x0, x1] [.ref v0] I J P Q ↔ S v0 = 9 ∧ Wp S N d MX9_undo 100 [x0, x1] [.int (I v0 7)] I J P Q := wp_getf rfl rfl rfl rfl dX9_undo_97
theorem e_X9_undo_100 {v0 : Int32} {x0 x1 : Option Value} : Wp S N d MX9_undo 100 [x0, x1] [.int v0] I J P Q ↔ Q (some (.int v0)) I J P := wp_iret rfl dX9_undo_100
theorem dX9_save_0 : decode cX9_save 0 = .ok (.aload_n 0, 1) := by decide +kernel
theorem dX9_save_1 : decode cX9_save 1 = .ok (.iconst 0, 1) := by decide +kernel
theorem dX9_save_2 : decode cX9_save 2 = .ok (.putfield 57, 3) := by decide +kernel
theorem dX9_save_5 : decode cX9_save 5 = .ok (.aload_n 0, 1) := by decide +kernel
theorem dX9_save_6 : decode cX9_save 6 = .ok (.iconst 1, 1) := by decide +kernel
theorem dX9_save_7 : decode cX9_save 7 = .ok (.putfield 71, 3) := by decide +kernel
theorem dX9_save_10 : decode cX9_save 10 = .ok (.iconst 0, 1) := by decide +kernel
theorem dX9_save_11 : decode cX9_save 11 = .ok (.istore_n 1, 1) := by decide +kernel
theorem dX9_save_12 : decode cX9_save 12 = .ok (.iload_n 1, 1) := by decide +kernel
theorem dX9_save_13 : decode cX9_save 13 = .ok (.bipush 89, 2) := by decide +kernel
theorem dX9_save_15 : decode cX9_save 15 = .ok (.if_icmp .ge 21, 3) := by decide +kernel
theorem dX9_save_18 : decode cX9_save 18 = .ok (.aload_n 0, 1) := by decide +kernel
theorem dX9_save_19 : decode cX9_save 19 = .ok (.getfield 17, 3) := by decide +kernel
theorem dX9_save_22 : decode cX9_save 22 = .ok (.iload_n 1, 1) := by decide +kernel
theorem dX9_save_23 : decode cX9_save 23 = .ok (.aload_n 0, 1) := by decide +kernel
theorem dX9_save_24 : decode cX9_save 24 = .ok (.getfield 7, 3) := by decide +kernel
theorem dX9_save_27 : decode cX9_save 27 = .ok (.iload_n 1, 1) := by decide +kernel
theorem dX9_save_28 : decode cX9_save 28 = .ok (.iaload, 1) := by decide +kernel
theorem dX9_save_29 : decode cX9_save 29 = .ok (.iastore, 1) := by decide +kernel
theorem dX9_save_30 : decode cX9_save 30 = .ok (.iinc 1 1, 3) := by decide +kernel
theorem dX9_save_33 : decode cX9_save 33 = .ok (.goto (-21), 3) := by decide +kernel
theorem dX9_save_36 : decode cX9_save 36 = .ok (.iconst 0, 1) := by decide +kernel
theorem dX9_save_37 : decode cX9_save 37 = .ok (.istore_n 1, 1) := by decide +kernel
theorem dX9_save_38 : decode cX9_save 38 = .ok (.iload_n 1, 1) := by decide +kernel
theorem dX9_save_39 : decode cX9_save 39 = .ok (.bipush 36, 2) := by decide +kernel
theorem dX9_save_41 : decode cX9_save 41 = .ok (.if_icmp .ge 21, 3) := by decide +kernel
theorem dX9_save_44 : decode cX9_save 44 = .ok (.aload_n 0, 1) := by decide +kernel
theorem dX9_save_45 : decode cX9_save 45 = .ok (.getfield 20, 3) := by decide +kernel
theorem dX9_save_48 : decode cX9_save 48 = .ok (.iload_n 1, 1) := by decide +kernel
theorem dX9_save_49 : decode cX9_save 49 = .ok (.aload_n 0, 1) := by decide +kernel
theorem dX9_save_50 : decode cX9_save 50 = .ok (.getfield 13, 3) := by decide +kernel
theorem dX9_save_53 : decode cX9_save 53 = .ok (.iload_n 1, 1) := by decide +kernel
theorem dX9_save_54 : decode cX9_save 54 = .ok (.laload, 1) := by decide +kernel
theorem dX9_save_55 : decode cX9_save 55 = .ok (.lastore, 1) := by decide +kernel
theorem dX9_save_56 : decode cX9_save 56 = .ok (.iinc 1 1, 3) := by decide +kernel
theorem dX9_save_59 : decode cX9_save 59 = .ok (.goto (-21), 3) := by decide +kernel
theorem dX9_save_62 : decode cX9_save 62 = .ok (.return_, 1) := by decide +kernel
theorem c_X9_save {a0 : Nat} : CWp S N d MX9_save [.ref a0] I J P Q ↔ Wp S N d MX9_save 0 [some (.ref a0), none] [] I J P Q := by
  rw [cwp_iff]
  exact ⟨fun h => h.2, fun h => ⟨Nat.le_of_ble_eq_true rfl, h⟩⟩
theorem e_X9_save_0 {w : Nat} {x1 : Option Value} : Wp S N d MX9_save 0 [some (.ref w), x1] [] I J P Q ↔ Wp S N d MX9_save 1 [some (.ref w), x1] [.ref w] I J P Q := wp_lod (len := 1) rfl rfl rfl rfl dX9_save_0
theorem e_X9_save_1 {v0 : Nat} {x0 x1 : Option Value} : Wp S N d MX9_save 1 [x0, x1] [.ref v0] I J P Q ↔ Wp S N d MX9_save 2 [x0, x1] [.int 0, .ref v0] I J P Q := wp_iconst (by decide) dX9_save_1
theorem e_X9_save_2 {v0 : Int32} {v1 : Nat} {x0 x1 : Option Value} : Wp S N d MX9_save 2 [x0, x1] [.int v0, .ref v1] I J P Q ↔ S v1 = 9 ∧ Wp S N d MX9_save 5 [x0, x1] [] (u2 I v1 8 v0) J P Q := wp_putI rfl rfl rfl rfl dX9_save_2
theorem e_X9_save_5 {w : Nat} {x1 : Option Value} : Wp S N d MX9_save 5 [some (.ref w), x1] [] I J P Q ↔ Wp S N d MX9_save 6 [some (.ref w), x1] [.ref w] I J P Q := wp_lod (len := 1) rfl rfl rfl rfl dX9_save_5
theorem e_X9_save_6 {v0 : Nat} {x0 x1 : Option Value} : Wp S N d MX9_save 6 [x0, x1] [.ref v0] I J P Q ↔ Wp S N d MX9_save 7 [x0, x1] [.int 1, .ref v0] I J P Q := wp_iconst (by decide) dX9_save_6
theorem e_X9_save_7 {v0 : Int32} {v1 : Nat} (hb : isB v0) {x0 x1 : Option Value} : Wp S N d MX9_save 7 [x0, x1] [.int v0, .ref v1] I J P Q ↔ S v1 = 9 ∧ Wp S N d MX9_save 10 [x0, x1] [] (u2 I v1 4 v0) J P Q := wp_putZ rfl rfl rfl rfl dX9_save_7 hb
theorem e_X9_save_10  {x0 x1 : Option Value} : Wp S N d MX9_save 10 [x0, x1] [] I J P Q ↔ Wp S N d MX9_save 11 [x0, x1] [.int 0] I J P Q := wp_iconst (by decide) dX9_save_10
theorem e_X9_save_11 {v0 : Int32} {x0 x1 : Option Value} : Wp S N d MX9_save 11 [x0, x1] [.int v0] I J P Q ↔ Wp S N d MX9_save 12 [kl x0, some (.int v0)] [] I J P Q := wp_sto (len := 1) rfl rfl rfl rfl (Nat.le_of_ble_eq_true rfl) rfl dX9_save_11
theorem e_X9_save_12 {w : Int32} {x0 : Option Value} : Wp S N d MX9_save 12 [x0, some (.int w)] [] I J P Q ↔ Wp S N d MX9_save 13 [x0, some (.int w)] [.int w] I J P Q := wp_lod (len := 1) rfl rfl rfl rfl dX9_save_12
theorem e_X9_save_13 {v0 : Int32} {x0 x1 : Option Value} : Wp S N d MX9_save 13 [x0, x1] [.int v0] I J P Q ↔ Wp S N d MX9_save 15 [x0, x1] [.int 89, .int v0] I J P Q := wp_bipush (by decide) dX9_save_13
theorem e_X9_save_15 {v0 : Int32} {v1 : Int32} {x0 x1 : Option Value} : Wp S N d MX9_save 15 [x0, x1] [.int v0, .int v1] I J P Q ↔ (v0 ≤ v1 → Wp S N d MX9_save 36 [x0, x1] [] I J P Q) ∧ (¬ v0 ≤ v1 → Wp S N d MX9_save 18 [x0, x1] [] I J P Q) := wp_br rfl rfl (by decide) dX9_save_15
theorem e_X9_save_18 {w : Nat} {x1 : Option Value} : Wp S N d MX9_save 18 [some (.ref w), x1] [] I J P Q ↔ Wp S N d MX9_save 19 [some (.ref w), x1] [.ref w] I J P Q := wp_lod (len := 1) rfl rfl rfl rfl dX9_save_18
theorem e_X9_save_19 {v0 : Nat} {x0 x1 : Option Value} : Wp S N d MX9_save 19 [x0, x1] [.ref v0] I J P Q ↔ S v0 = 9 ∧ Wp S N d MX9_save 22 [x0, x1] [va_rf (P v0 2)] I J P Q := wp_getf rfl rfl rfl rfl dX9_save_19
theorem e_X9_save_22 {v0 : Nat} {w : Int32} {x0 : Option Value} : Wp S N d MX9_save 22 [x0, some (.int w)] [.ref v0] I J P Q ↔ Wp S N d MX9_save 23 [x0, some (.int w)] [.int w, .ref v0] I J P Q := wp_lod (len := 1) rfl rfl rfl rfl dX9_save_22
theorem e_X9_save_23 {v0 : Int32} {v1 : Nat} {w : Nat} {x1 : Option Value} : Wp S N d MX9_save 23 [some (.ref w), x1] [.int v0, .ref v1] I J P Q ↔ Wp S N d MX9_save 24 [some (.ref w), x1] [.ref w, .int v0, .ref v1] I J P Q := wp_lod (len := 1) rfl rfl rfl rfl dX9_save_23
theorem e_X9_save_24 {v0 : Nat} {v1 : Int32} {v2 : Nat} {x0 x1 : Option Value} : Wp S N d MX9_save 24 [x0, x1] [.ref v0, .int v1, .ref v2] I J P Q ↔ S v0 = 9 ∧ Wp S N d MX9_save 27 [x0, x1] [va_rf (P v0 0), .int v1, .ref v2] I J P Q := wp_getf rfl rfl rfl rfl dX9_save_24
theorem e_X9_save_27 {v0 : Nat} {v1 : Int32} {v2 : Nat} {w : Int32} {x0 : Option Value} : Wp S N d MX9_save 27 [x0, some (.int w)] [.ref v0, .int v1, .ref v2] I J P Q ↔ Wp S N d MX9_save 28 [x0, some (.int w)] [.int w, .ref v0, .int v1, .ref v2] I J P Q := wp_lod (len := 1) rfl rfl rfl rfl dX9_save_27
theorem e_X9_save_28 {v0 : Int32} {v1 : Nat} {v2 : Int32} {v3 : Nat} {x0 x1 : Option Value} : Wp S N d MX9_save 28 [x0, x1] [.int v0, .ref v1, .int v2, .ref v3] I J P Q ↔ (S v1 = 10 ∧ vp_in v0 (N v1)) ∧ Wp S N d MX9_save 29 [x0, x1] [.int (I v1 v0.toNatClampNeg), .int v2, .ref v3] I J P Q := wp_ald rfl rfl dX9_save_28
theorem e_X9_save_29 {v0 : Int32} {v1 : Int32} {v2 : Nat} {x0 x1 : Option Value} : Wp S N d MX9_save 29 [x0, x1] [.int v0, .int v1, .ref v2] I J P Q ↔ (S v2 = 10 ∧ vp_in v1 (N v2)) ∧ Wp S N d MX9_save 30 [x0, x1] [] (u2 I v2 v1.toNatClampNeg v0) J P Q := wp_ast rfl rfl dX9_save_29
theorem e_X9_save_30 {w : Int32} {x0 : Option Value} : Wp S N d MX9_save 30 [x0, some (.int w)] [] I J P Q ↔ Wp S N d MX9_save 33 [kl x0, some (.int (w + 1))] [] I J P Q := wp_inc rfl rfl dX9_save_30
theorem e_X9_save_33  {x0 x1 : Option Value} : Wp S N d MX9_save 33 [x0, x1] [] I J P Q ↔ Wp S N d MX9_save 12 [x0, x1] [] I J P Q := wp_go (len := 3) rfl (fun _ _ => rfl) rfl (by decide) dX9_save_33
theorem e_X9_save_36  {x0 x1 : Option Value} : Wp S N d MX9_save 36 [x0, x1] [] I J P Q ↔ Wp S N d MX9_save 37 [x0, x1] [.int 0] I J P Q := wp_iconst (by decide) dX9_save_36
theorem e_X9_save_37 {v0 : Int32} {x0 x1 : Option Value} : Wp S N d MX9_save 37 [x0, x1] [.int v0] I J P Q ↔ Wp S N d MX9_save 38 [kl x0, some (.int v0)] [] I J P Q := wp_sto (len := 1) rfl rfl rfl rfl (Nat.le_of_ble_eq_true rfl) rfl dX9_save_37
theorem e_X9_save_38 {w : Int32} {x0 : Option Value} : Wp S N d MX9_save 38 [x0, some (.int w)] [] I J P Q ↔ Wp S N d MX9_save 39 [x0, some (.int w)] [.int w] I J P Q := wp_lod (len := 1) rfl rfl rfl rfl dX9_save_38
theorem e_X9_save_39 {v0 : Int32} {x0 x1 : Option Value} : Wp S N d MX9_save 39 [x0, x1] [.int v0] I J P Q ↔ Wp S N d MX9_save 41 [x0, x1] [.int 36, .int v0] I J P Q := wp_bipush (by decide) dX9_save_39
theorem e_X9_save_41 {v0 : Int32} {v1 : Int32} {x0 x1 : Option Value} : Wp S N d MX9_save 41 [x0, x1] [.int v0, .int v1] I J P Q ↔ (v0 ≤ v1 → Wp S N d MX9_save 62 [x0, x1] [] I J P Q) ∧ (¬ v0 ≤ v1 → Wp S N d MX9_save 44 [x0, x1] [] I J P Q) := wp_br rfl rfl (by decide) dX9_save_41
theorem e_X9_save_44 {w : Nat} {x1 : Option Value} : Wp S N d MX9_save 44 [some (.ref w), x1] [] I J P Q ↔ Wp S N d MX9_save 45 [some (.ref w), x1] [.ref w] I J P Q := wp_lod (len := 1) rfl rfl rfl rfl dX9_save_44
theorem e_X9_save_45 {v0 : Nat} {x0 x1 : Option Value} : Wp S N d MX9_save 45 [x0, x1] [.ref v0] I J P Q ↔ S v0 = 9 ∧ Wp S N d MX9_save 48 [x0, x1] [va_rf (P v0 3)] I J P Q := wp_getf rfl rfl rfl rfl dX9_save_45
theorem e_X9_save_48 {v0 : Nat} {w : Int32} {x0 : Option Value} : Wp S N d MX9_save 48 [x0, some (.int w)] [.ref v0] I J P Q ↔ Wp S N d MX9_save 49 [x0, some (.int w)] [.int w, .ref v0] I J P Q := wp_lod (len := 1) rfl rfl rfl rfl dX9_save_48
theorem e_X9_save_49 {v0 : Int32} {v1 : Nat} {w : Nat} {x1 : Option Value} : Wp S N d MX9_save 49 [some (.ref w), x1] [.int v0, .ref v1] I J P Q ↔ Wp S N d MX9_save 50 [some (.ref w), x1] [.ref w, .int v0, .ref v1] I J P Q := wp_lod (len := 1) rfl rfl rfl rfl dX9_save_49
theorem e_X9_save_50 {v0 : Nat} {v1 : Int32} {v2 : Nat} {x0 x1 : Option Value} : Wp S N d MX9_save 50 [x0, x1] [.ref v0, .int v1, .ref v2] I J P Q ↔ S v0 = 9 ∧ Wp S N d MX9_save 53 [x0, x1] [va_rf (P v0 1), .int v1, .ref v2] I J P Q := wp_getf rfl rfl rfl rfl dX9_save_50
theorem e_X9_save_53 {v0 : Nat} {v1 : Int32} {v2 : Nat} {w : Int32} {x0 : Option Value} : Wp S N d MX9_save 53 [x0, some (.int w)] [.ref v0, .int v1, .ref v2] I J P Q ↔ Wp S N d MX9_save 54 [x0, some (.int w)] [.int w, .ref v0, .int v1, .ref v2] I J P Q := wp_lod (len := 1) rfl rfl rfl rfl dX9_save_53
theorem e_X9_save_54 {v0 : Int32} {v1 : Nat} {v2 : Int32} {v3 : Nat} {x0 x1 : Option Value} : Wp S N d MX9_save 54 [x0, x1] [.int v0, .ref v1, .int v2, .ref v3] I J P Q ↔ (S v1 = 11 ∧ vp_in v0 (N v1)) ∧ Wp S N d MX9_save 55 [x0, x1] [.long (J v1 v0.toNatClampNeg), .int v2, .ref v3] I J P Q := wp_ald rfl rfl dX9_save_54
theorem e_X9_save_55 {v0 : Int64} {v1 : Int32} {v2 : Nat} {x0 x1 : Option Value} : Wp S N d MX9_save 55 [x0, x1] [.long v0, .int v1, .ref v2] I J P Q ↔ (S v2 = 11 ∧ vp_in v1 (N v2)) ∧ Wp S N d MX9_save 56 [x0, x1] [] I (u2 J v2 v1.toNatClampNeg v0) P Q := wp_ast rfl rfl dX9_save_55
theorem e_X9_save_56 {w : Int32} {x0 : Option Value} : Wp S N d MX9_save 56 [x0, some (.int w)] [] I J P Q ↔ Wp S N d MX9_save 59 [kl x0, some (.int (w + 1))] [] I J P Q := wp_inc rfl rfl dX9_save_56
theorem e_X9_save_59  {x0 x1 : Option Value} : Wp S N d MX9_save 59 [x0, x1] [] I J P Q ↔ Wp S N d MX9_save 38 [x0, x1] [] I J P Q := wp_go (len := 3) rfl (fun _ _ => rfl) rfl (by decide) dX9_save_59
theorem e_X9_save_62  {x0 x1 : Option Value} : Wp S N d MX9_save 62 [x0, x1] [] I J P Q ↔ Q none I J P := wp_vret rfl dX9_save_62
theorem dX9_restore_0 : decode cX9_restore 0 = .ok (.aload_n 0, 1) := by decide +kernel
theorem dX9_restore_1 : decode cX9_restore 1 = .ok (.aload_n 0, 1) := by decide +kernel
theorem dX9_restore_2 : decode cX9_restore 2 = .ok (.getfield 71, 3) := by decide +kernel
theorem dX9_restore_5 : decode cX9_restore 5 = .ok (.ifCond .eq 7, 3) := by decide +kernel
theorem dX9_restore_8 : decode cX9_restore 8 = .ok (.iconst 0, 1) := by decide +kernel
theorem dX9_restore_9 : decode cX9_restore 9 = .ok (.goto 4, 3) := by decide +kernel
theorem dX9_restore_12 : decode cX9_restore 12 = .ok (.iconst 1, 1) := by decide +kernel
theorem dX9_restore_13 : decode cX9_restore 13 = .ok (.putfield 57, 3) := by decide +kernel
theorem dX9_restore_16 : decode cX9_restore 16 = .ok (.aload_n 0, 1) := by decide +kernel
theorem dX9_restore_17 : decode cX9_restore 17 = .ok (.getfield 57, 3) := by decide +kernel
theorem dX9_restore_20 : decode cX9_restore 20 = .ok (.ifCond .le 4, 3) := by decide +kernel
theorem dX9_restore_23 : decode cX9_restore 23 = .ok (.return_, 1) := by decide +kernel
theorem dX9_restore_24 : decode cX9_restore 24 = .ok (.aload_n 0, 1) := by decide +kernel
theorem dX9_restore_25 : decode cX9_restore 25 = .ok (.invokevirtual 75, 3) := by decide +kernel
theorem dX9_restore_28 : decode cX9_restore 28 = .ok (.iconst 0, 1) := by decide +kernel
theorem dX9_restore_29 : decode cX9_restore 29 = .ok (.istore_n 1, 1) := by decide +kernel
theorem dX9_restore_30 : decode cX9_restore 30 = .ok (.iload_n 1, 1) := by decide +kernel
theorem dX9_restore_31 : decode cX9_restore 31 = .ok (.bipush 89, 2) := by decide +kernel
theorem dX9_restore_33 : decode cX9_restore 33 = .ok (.if_icmp .ge 21, 3) := by decide +kernel
theorem dX9_restore_36 : decode cX9_restore 36 = .ok (.aload_n 0, 1) := by decide +kernel
theorem dX9_restore_37 : decode cX9_restore 37 = .ok (.getfield 7, 3) := by decide +kernel
theorem dX9_restore_40 : decode cX9_restore 40 = .ok (.iload_n 1, 1) := by decide +kernel
theorem dX9_restore_41 : decode cX9_restore 41 = .ok (.aload_n 0, 1) := by decide +kernel
theorem dX9_restore_42 : decode cX9_restore 42 = .ok (.getfield 17, 3) := by decide +kernel
theorem dX9_restore_45 : decode cX9_restore 45 = .ok (.iload_n 1, 1) := by decide +kernel
theorem dX9_restore_46 : decode cX9_restore 46 = .ok (.iaload, 1) := by decide +kernel
theorem dX9_restore_47 : decode cX9_restore 47 = .ok (.iastore, 1) := by decide +kernel
theorem dX9_restore_48 : decode cX9_restore 48 = .ok (.iinc 1 1, 3) := by decide +kernel
theorem dX9_restore_51 : decode cX9_restore 51 = .ok (.goto (-21), 3) := by decide +kernel
theorem dX9_restore_54 : decode cX9_restore 54 = .ok (.iconst 0, 1) := by decide +kernel
theorem dX9_restore_55 : decode cX9_restore 55 = .ok (.istore_n 1, 1) := by decide +kernel
theorem dX9_restore_56 : decode cX9_restore 56 = .ok (.iload_n 1, 1) := by decide +kernel
theorem dX9_restore_57 : decode cX9_restore 57 = .ok (.bipush 36, 2) := by decide +kernel
theorem dX9_restore_59 : decode cX9_restore 59 = .ok (.if_icmp .ge 21, 3) := by decide +kernel
theorem dX9_restore_62 : decode cX9_restore 62 = .ok (.aload_n 0, 1) := by decide +kernel
theorem dX9_restore_63 : decode cX9_restore 63 = .ok (.getfield 13, 3) := by decide +kernel
theorem dX9_restore_66 : decode cX9_restore 66 = .ok (.iload_n 1, 1) := by decide +kernel
theorem dX9_restore_67 : decode cX9_restore 67 = .ok (.aload_n 0, 1) := by decide +kernel
theorem dX9_restore_68 : decode cX9_restore 68 = .ok (.getfield 20, 3) := by decide +kernel
theorem dX9_restore_71 : decode cX9_restore 71 = .ok (.iload_n 1, 1) := by decide +kernel
theorem dX9_restore_72 : decode cX9_restore 72 = .ok (.laload, 1) := by decide +kernel
theorem dX9_restore_73 : decode cX9_restore 73 = .ok (.lastore, 1) := by decide +kernel
theorem dX9_restore_74 : decode cX9_restore 74 = .ok (.iinc 1 1, 3) := by decide +kernel
theorem dX9_restore_77 : decode cX9_restore 77 = .ok (.goto (-21), 3) := by decide +kernel
theorem dX9_restore_80 : decode cX9_restore 80 = .ok (.return_, 1) := by decide +kernel
theorem c_X9_restore {a0 : Nat} : CWp S N d MX9_restore [.ref a0] I J P Q ↔ Wp S N d MX9_restore 0 [some (.ref a0), none] [] I J P Q := by
  rw [cwp_iff]
  exact ⟨fun h => h.2, fun h => ⟨Nat.le_of_ble_eq_true rfl, h⟩⟩
theorem e_X9_restore_0 {w : Nat} {x1 : Option Value} : Wp S N d MX9_restore 0 [some (.ref w), x1] [] I J P Q ↔ Wp S N d MX9_restore 1 [some (.ref w), x1] [.ref w] I J P Q := wp_lod (len := 1) rfl rfl rfl rfl dX9_restore_0
theorem e_X9_restore_1 {v0 : Nat} {w : Nat} {x1 : Option Value} : Wp S N d MX9_restore 1 [some (.ref w), x1] [.ref v0] I J P Q ↔ Wp S N d MX9_restore 2 [some (.ref w), x1] [.ref w, .ref v0] I J P Q := wp_lod (len := 1) rfl rfl rfl rfl dX9_restore_1
theorem e_X9_restore_2 {v0 : Nat} {v1 : Nat} {x0 x1 : Option Value} : Wp S N d MX9_restore 2 [x0, x1] [.ref v0, .ref v1] I J P Q ↔ S v0 = 9 ∧ Wp S N d MX9_restore 5 [x0, x1] [.int (I v0 4), .ref v1] I J P Q := wp_getf rfl rfl rfl rfl dX9_restore_2
theorem e_X9_restore_5 {v0 : Int32} {v1 : Nat} {x0 x1 : Option Value} : Wp S N d MX9_restore 5 [x0, x1] [.int v0, .ref v1] I J P Q ↔ (v0 = 0 → Wp S N d MX9_restore 12 [x0, x1] [.ref v1] I J P Q) ∧ (¬ v0 = 0 → Wp S N d MX9_restore 8 [x0, x1] [.ref v1] I J P Q) := wp_br rfl rfl (by decide) dX9_restore_5
theorem e_X9_restore_8 {v0 : Nat} {x0 x1 : Option Value} : Wp S N d MX9_restore 8 [x0, x1] [.ref v0] I J P Q ↔ Wp S N d MX9_restore 9 [x0, x1] [.int 0, .ref v0] I J P Q := wp_iconst (by decide) dX9_restore_8
theorem e_X9_restore_9 {v0 : Int32} {v1 : Nat} {x0 x1 : Option Value} : Wp S N d MX9_restore 9 [x0, x1] [.int v0, .ref v1] I J P Q ↔ Wp S N d MX9_restore 13 [x0, x1] [.int v0, .ref v1] I J P Q := wp_go (len := 3) rfl (fun _ _ => rfl) rfl (by decide) dX9_restore_9
theorem e_X9_restore_12 {v0 : Nat} {x0 x1 : Option Value} : Wp S N d MX9_restore 12 [x0, x1] [.ref v0] I J P Q ↔ Wp S N d MX9_restore 13 [x0, x1] [.int 1, .ref v0] I J P Q := wp_iconst (by decide) dX9_restore_12
theorem e_X9_restore_13 {v0 : Int32} {v1 : Nat} {x0 x1 : Option Value} : Wp S N d MX9_restore 13 [x0, x1] [.int v0, .ref v1] I J P Q ↔ S v1 = 9 ∧ Wp S N d MX9_restore 16 [x0, x1] [] (u2 I v1 8 v0) J P Q := wp_putI rfl rfl rfl rfl dX9_restore_13
theorem e_X9_restore_16 {w : Nat} {x1 : Option Value} : Wp S N d MX9_restore 16 [some (.ref w), x1] [] I J P Q ↔ Wp S N d MX9_restore 17 [some (.ref w), x1] [.ref w] I J P Q := wp_lod (len := 1) rfl rfl rfl rfl dX9_restore_16
theorem e_X9_restore_17 {v0 : Nat} {x0 x1 : Option Value} : Wp S N d MX9_restore 17 [x0, x1] [.ref v0] I J P Q ↔ S v0 = 9 ∧ Wp S N d MX9_restore 20 [x0, x1] [.int (I v0 8)] I J P Q := wp_getf rfl rfl rfl rfl dX9_restore_17
theorem e_X9_restore_20 {v0 : Int32} {x0 x1 : Option Value} : Wp S N d MX9_restore 20 [x0, x1] [.int v0] I J P Q ↔ (v0 ≤ 0 → Wp S N d MX9_restore 24 [x0, x1] [] I J P Q) ∧ (¬ v0 ≤ 0 → Wp S N d MX9_restore 23 [x0, x1] [] I J P Q) := wp_br rfl rfl (by decide) dX9_restore_20
theorem e_X9_restore_23  {x0 x1 : Option Value} : Wp S N d MX9_restore 23 [x0, x1] [] I J P Q ↔ Q none I J P := wp_vret rfl dX9_restore_23
theorem e_X9_restore_24 {w : Nat} {x1 : Option Value} : Wp S N d MX9_restore 24 [some (.ref w), x1] [] I J P Q ↔ Wp S N d MX9_restore 25 [some (.ref w), x1] [.ref w] I J P Q := wp_lod (len := 1) rfl rfl rfl rfl dX9_restore_24
theorem e_X9_restore_25 {v0 : Nat} {x0 x1 : Option Value} : Wp S N (d + 1) MX9_restore 25 [x0, x1] [.ref v0] I J P Q ↔ S v0 = 9 ∧ CWp S N d MX9_changes [.ref v0] I J P (fun r I1 J1 P1 => Wp S N (d + 1) MX9_restore 28 [x0, x1] (r.toList ++ []) I1 J1 P1 Q) := wp_callV (M' := MX9_changes) (As := []) rfl rfl rfl rfl (by decide) (Nat.le_of_ble_eq_true rfl) dX9_restore_25
theorem e_X9_restore_28  {x0 x1 : Option Value} : Wp S N d MX9_restore 28 [x0, x1] [] I J P Q ↔ Wp S N d MX9_restore 29 [x0, x1] [.int 0] I J P Q := wp_iconst (by decide) dX9_restore_28
theorem e_X9_restore_29 {v0 : Int32} {x0 x1 : Option Value} : Wp S N d MX9_restore 29 [x0, x1] [.int v0] I J P Q ↔ Wp S N d MX9_restore 30 [kl x0, some (.int v0)] [] I J P Q := wp_sto (len := 1) rfl rfl rfl rfl (Nat.le_of_ble_eq_true rfl) rfl dX9_restore_29
theorem e_X9_restore_30 {w : Int32} {x0 : Option Value} : Wp S N d MX9_restore 30 [x0, some (.int w)] [] I J P Q ↔ Wp S N d MX9_restore 31 [x0, some (.int w)] [.int w] I J P Q := wp_lod (len := 1) rfl rfl rfl rfl dX9_restore_30
theorem e_X9_restore_31 {v0 : Int32} {x0 x1 : Option Value} : Wp S N d MX9_restore 31 [x0, x1] [.int v0] I J P Q ↔ Wp S N d MX9_restore 33 [x0, x1] [.int 89, .int v0] I J P Q := wp_bipush (by decide) dX9_restore_31
theorem e_X9_restore_33 {v0 : Int32} {v1 : Int32} {x0 x1 : Option Value} : Wp S N d MX9_restore 33 [x0, x1] [.int v0, .int v1] I J P Q ↔ (v0 ≤ v1 → Wp S N d MX9_restore 54 [x0, x1] [] I J P Q) ∧ (¬ v0 ≤ v1 → Wp S N d MX9_restore 36 [x0, x1] [] I J P Q) := wp_br rfl rfl (by decide) dX9_restore_33
theorem e_X9_restore_36 {w : Nat} {x1 : Option Value} : Wp S N d MX9_restore 36 [some (.ref w), x1] [] I J P Q ↔ Wp S N d MX9_restore 37 [some (.ref w), x1] [.ref w] I J P Q := wp_lod (len := 1) rfl rfl rfl rfl dX9_restore_36
theorem e_X9_restore_37 {v0 : Nat} {x0 x1 : Option Value} : Wp S N d MX9_restore 37 [x0, x1] [.ref v0] I J P Q ↔ S v0 = 9 ∧ Wp S N d MX9_restore 40 [x0, x1] [va_rf (P v0 0)] I J P Q := wp_getf rfl rfl rfl rfl dX9_restore_37
theorem e_X9_restore_40 {v0 : Nat} {w : Int32} {x0 : Option Value} : Wp S N d MX9_restore 40 [x0, some (.int w)] [.ref v0] I J P Q ↔ Wp S N d MX9_restore 41 [x0, some (.int w)] [.int w, .ref v0] I J P Q := wp_lod (len := 1) rfl rfl rfl rfl dX9_restore_40
theorem e_X9_restore_41 {v0 : Int32} {v1 : Nat} {w : Nat} {x1 : Option Value} : Wp S N d MX9_restore 41 [some (.ref w), x1] [.int v0, .ref v1] I J P Q ↔ Wp S N d MX9_restore 42 [some (.ref w), x1] [.ref w, .int v0, .ref v1] I J P Q := wp_lod (len := 1) rfl rfl rfl rfl dX9_restore_41
theorem e_X9_restore_42 {v0 : Nat} {v1 : Int32} {v2 : Nat} {x0 x1 : Option Value} : Wp S N d MX9_restore 42 [x0, x1] [.ref v0, .int v1, .ref v2] I J P Q ↔ S v0 = 9 ∧ Wp S N d MX9_restore 45 [x0, x1] [va_rf (P v0 2), .int v1, .ref v2] I J P Q := wp_getf rfl rfl rfl rfl dX9_restore_42
theorem e_X9_restore_45 {v0 : Nat} {v1 : Int32} {v2 : Nat} {w : Int32} {x0 : Option Value} : Wp S N d MX9_restore 45 [x0, some (.int w)] [.ref v0, .int v1, .ref v2] I J P Q ↔ Wp S N d MX9_restore 46 [x0, some (.int w)] [.int w, .ref v0, .int v1, .ref v2] I J P Q := wp_lod (len := 1) rfl rfl rfl rfl dX9_restore_45
theorem e_X9_restore_46 {v0 : Int32} {v1 : Nat} {v2 : Int32} {v3 : Nat} {x0 x1 : Option Value} : Wp S N d MX9_restore 46 [x0, x1] [.int v0, .ref v1, .int v2, .ref v3] I J P Q ↔ (S v1 = 10 ∧ vp_in v0 (N v1)) ∧ Wp S N d MX9_restore 47 [x0, x1] [.int (I v1 v0.toNatClampNeg), .int v2, .ref v3] I J P Q := wp_ald rfl rfl dX9_restore_46
theorem e_X9_restore_47 {v0 : Int32} {v1 : Int32} {v2 : Nat} {x0 x1 : Option Value} : Wp S N d MX9_restore 47 [x0, x1] [.int v0, .int v1, .ref v2] I J P Q ↔ (S v2 = 10 ∧ vp_in v1 (N v2)) ∧ Wp S N d MX9_restore 48 [x0, x1] [] (u2 I v2 v1.toNatClampNeg v0) J P Q := wp_ast rfl rfl dX9_restore_47
theorem e_X9_restore_48 {w : Int32} {x0 : Option Value} : Wp S N d MX9_restore 48 [x0, some (.int w)] [] I J P Q ↔ Wp S N d MX9_restore 51 [kl x0, some (.int (w + 1))] [] I J P Q := wp_inc rfl rfl dX9_restore_48
theorem e_X9_restore_51  {x0 x1 : Option Value} : Wp S N d MX9_restore 51 [x0, x1] [] I J P Q ↔ Wp S N d MX9_restore 30 [x0, x1] [] I J P Q := wp_go (len := 3) rfl (fun _ _ => rfl) rfl (by decide) dX9_restore_51
theorem e_X9_restore_54  {x0 x1 : Option Value} : Wp S N d MX9_restore 54 [x0, x1] [] I J P Q ↔ Wp S N d MX9_restore 55 [x0, x1] [.int 0] I J P Q := wp_iconst (by decide) dX9_restore_54
theorem e_X9_restore_55 {v0 : Int32} {x0 x1 : Option Value} : Wp S N d MX9_restore 55 [x0, x1] [.int v0] I J P Q ↔ Wp S N d MX9_restore 56 [kl x0, some (.int v0)] [] I J P Q := wp_sto (len := 1) rfl rfl rfl rfl (Nat.le_of_ble_eq_true rfl) rfl dX9_restore_55
theorem e_X9_restore_56 {w : Int32} {x0 : Option Value} : Wp S N d MX9_restore 56 [x0, some (.int w)] [] I J P Q ↔ Wp S N d MX9_restore 57 [x0, some (.int w)] [.int w] I J P Q := wp_lod (len := 1) rfl rfl rfl rfl dX9_restore_56
theorem e_X9_restore_57 {v0 : Int32} {x0 x1 : Option Value} : Wp S N d MX9_restore 57 [x0, x1] [.int v0] I J P Q ↔ Wp S N d MX9_restore 59 [x0, x1] [.int 36, .int v0] I J P Q := wp_bipush (by decide) dX9_restore_57
theorem e_X9_restore_59 {v0 : Int32} {v1 : Int32} {x0 x1 : Option Value} : Wp S N d MX9_restore 59 [x0, x1] [.int v0, .int v1] I J P Q ↔ (v0 ≤ v1 → Wp S N d MX9_restore 80 [x0, x1] [] I J P Q) ∧ (¬ v0 ≤ v1 → Wp S N d MX9_restore 62 [x0, x1] [] I J P Q) := wp_br rfl rfl (by decide) dX9_restore_59
theorem e_X9_restore_62 {w : Nat} {x1 : Option Value} : Wp S N d MX9_restore 62 [some (.ref w), x1] [] I J P Q ↔ Wp S N d MX9_restore 63 [some (.ref w), x1] [.ref w] I J P Q := wp_lod (len := 1) rfl rfl rfl rfl dX9_restore_62
theorem e_X9_restore_63 {v0 : Nat} {x0 x1 : Option Value} : Wp S N d MX9_restore 63 [x0, x1] [.ref v0] I J P Q ↔ S v0 = 9 ∧ Wp S N d MX9_restore 66 [x0, x1] [va_rf (P v0 1)] I J P Q := wp_getf rfl rfl rfl rfl dX9_restore_63
theorem e_X9_restore_66 {v0 : Nat} {w : Int32} {x0 : Option Value} : Wp S N d MX9_restore 66 [x0, some (.int w)] [.ref v0] I J P Q ↔ Wp S N d MX9_restore 67 [x0, some (.int w)] [.int w, .ref v0] I J P Q := wp_lod (len := 1) rfl rfl rfl rfl dX9_restore_66
theorem e_X9_restore_67 {v0 : Int32} {v1 : Nat} {w : Nat} {x1 : Option Value} : Wp S N d MX9_restore 67 [some (.ref w), x1] [.int v0, .ref v1] I J P Q ↔ Wp S N d MX9_restore 68 [some (.ref w), x1] [.ref w, .int v0, .ref v1] I J P Q := wp_lod (len := 1) rfl rfl rfl rfl dX9_restore_67
theorem e_X9_restore_68 {v0 : Nat} {v1 : Int32} {v2 : Nat} {x0 x1 : Option Value} : Wp S N d MX9_restore 68 [x0, x1] [.ref v0, .int v1, .ref v2] I J P Q ↔ S v0 = 9 ∧ Wp S N d MX9_restore 71 [x0, x1] [va_rf (P v0 3), .int v1, .ref v2] I J P Q := wp_getf rfl rfl rfl rfl dX9_restore_68
theorem e_X9_restore_71 {v0 : Nat} {v1 : Int32} {v2 : Nat} {w : Int32} {x0 : Option Value} : Wp S N d MX9_restore 71 [x0, some (.int w)] [.ref v0, .int v1, .ref v2] I J P Q ↔ Wp S N d MX9_restore 72 [x0, some (.int w)] [.int w, .ref v0, .int v1, .ref v2] I J P Q := wp_lod (len := 1) rfl rfl rfl rfl dX9_restore_71
theorem e_X9_restore_72 {v0 : Int32} {v1 : Nat} {v2 : Int32} {v3 : Nat} {x0 x1 : Option Value} : Wp S N d MX9_restore 72 [x0, x1] [.int v0, .ref v1, .int v2, .ref v3] I J P Q ↔ (S v1 = 11 ∧ vp_in v0 (N v1)) ∧ Wp S N d MX9_restore 73 [x0, x1] [.long (J v1 v0.toNatClampNeg), .int v2, .ref v3] I J P Q := wp_ald rfl rfl dX9_restore_72
theorem e_X9_restore_73 {v0 : Int64} {v1 : Int32} {v2 : Nat} {x0 x1 : Option Value} : Wp S N d MX9_restore 73 [x0, x1] [.long v0, .int v1, .ref v2] I J P Q ↔ (S v2 = 11 ∧ vp_in v1 (N v2)) ∧ Wp S N d MX9_restore 74 [x0, x1] [] I (u2 J v2 v1.toNatClampNeg v0) P Q := wp_ast rfl rfl dX9_restore_73
theorem e_X9_restore_74 {w : Int32} {x0 : Option Value} : Wp S N d MX9_restore 74 [x0, some (.int w)] [] I J P Q ↔ Wp S N d MX9_restore 77 [kl x0, some (.int (w + 1))] [] I J P Q := wp_inc rfl rfl dX9_restore_74
theorem e_X9_restore_77  {x0 x1 : Option Value} : Wp S N d MX9_restore 77 [x0, x1] [] I J P Q ↔ Wp S N d MX9_restore 56 [x0, x1] [] I J P Q := wp_go (len := 3) rfl (fun _ _ => rfl) rfl (by decide) dX9_restore_77
theorem e_X9_restore_80  {x0 x1 : Option Value} : Wp S N d MX9_restore 80 [x0, x1] [] I J P Q ↔ Q none I J P := wp_vret rfl dX9_restore_80
theorem dX9_appendCharacter_0 : decode cX9_appendCharacter 0 = .ok (.aload_n 0, 1) := by decide +kernel
theorem dX9_appendCharacter_1 : decode cX9_appendCharacter 1 = .ok (.iload_n 1, 1) := by decide +kernel
theorem dX9_appendCharacter_2 : decode cX9_appendCharacter 2 = .ok (.bipush 33, 2) := by decide +kernel
theorem dX9_appendCharacter_4 : decode cX9_appendCharacter 4 = .ok (.bipush 126, 2) := by decide +kernel
theorem dX9_appendCharacter_6 : decode cX9_appendCharacter 6 = .ok (.invokestatic 60, 3) := by decide +kernel
theorem dX9_appendCharacter_9 : decode cX9_appendCharacter 9 = .ok (.ifCond .eq 20, 3) := by decide +kernel
theorem dX9_appendCharacter_12 : decode cX9_appendCharacter 12 = .ok (.aload_n 0, 1) := by decide +kernel
theorem dX9_appendCharacter_13 : decode cX9_appendCharacter 13 = .ok (.getfield 78, 3) := by decide +kernel
theorem dX9_appendCharacter_16 : decode cX9_appendCharacter 16 = .ok (.bipush 80, 2) := by decide +kernel
theorem dX9_appendCharacter_18 : decode cX9_appendCharacter 18 = .ok (.if_icmp .ne 7, 3) := by decide +kernel
theorem dX9_appendCharacter_21 : decode cX9_appendCharacter 21 = .ok (.iconst 2, 1) := by decide +kernel
theorem dX9_appendCharacter_22 : decode cX9_appendCharacter 22 = .ok (.goto 8, 3) := by decide +kernel
theorem dX9_appendCharacter_25 : decode cX9_appendCharacter 25 = .ok (.iconst 0, 1) := by decide +kernel
theorem dX9_appendCharacter_26 : decode cX9_appendCharacter 26 = .ok (.goto 4, 3) := by decide +kernel
theorem dX9_appendCharacter_29 : decode cX9_appendCharacter 29 = .ok (.iconst 1, 1) := by decide +kernel
theorem dX9_appendCharacter_30 : decode cX9_appendCharacter 30 = .ok (.putfield 57, 3) := by decide +kernel
theorem dX9_appendCharacter_33 : decode cX9_appendCharacter 33 = .ok (.aload_n 0, 1) := by decide +kernel
theorem dX9_appendCharacter_34 : decode cX9_appendCharacter 34 = .ok (.getfield 57, 3) := by decide +kernel
theorem dX9_appendCharacter_37 : decode cX9_appendCharacter 37 = .ok (.ifCond .le 5, 3) := by decide +kernel
theorem dX9_appendCharacter_40 : decode cX9_appendCharacter 40 = .ok (.iconst 0, 1) := by decide +kernel
theorem dX9_appendCharacter_41 : decode cX9_appendCharacter 41 = .ok (.ireturn, 1) := by decide +kernel
theorem dX9_appendCharacter_42 : decode cX9_appendCharacter 42 = .ok (.aload_n 0, 1) := by decide +kernel
theorem dX9_appendCharacter_43 : decode cX9_appendCharacter 43 = .ok (.getfield 29, 3) := by decide +kernel
theorem dX9_appendCharacter_46 : decode cX9_appendCharacter 46 = .ok (.aload_n 0, 1) := by decide +kernel
theorem dX9_appendCharacter_47 : decode cX9_appendCharacter 47 = .ok (.getfield 78, 3) := by decide +kernel
theorem dX9_appendCharacter_50 : decode cX9_appendCharacter 50 = .ok (.iload_n 1, 1) := by decide +kernel
theorem dX9_appendCharacter_51 : decode cX9_appendCharacter 51 = .ok (.iastore, 1) := by decide +kernel
theorem dX9_appendCharacter_52 : decode cX9_appendCharacter 52 = .ok (.aload_n 0, 1) := by decide +kernel
theorem dX9_appendCharacter_53 : decode cX9_appendCharacter 53 = .ok (.dup, 1) := by decide +kernel
theorem dX9_appendCharacter_54 : decode cX9_appendCharacter 54 = .ok (.getfield 78, 3) := by decide +kernel
theorem dX9_appendCharacter_57 : decode cX9_appendCharacter 57 = .ok (.iconst 1, 1) := by decide +kernel
theorem dX9_appendCharacter_58 : decode cX9_appendCharacter 58 = .ok (.iadd, 1) := by decide +kernel
theorem dX9_appendCharacter_59 : decode cX9_appendCharacter 59 = .ok (.putfield 78, 3) := by decide +kernel
theorem dX9_appendCharacter_62 : decode cX9_appendCharacter 62 = .ok (.aload_n 0, 1) := by decide +kernel
theorem dX9_appendCharacter_63 : decode cX9_appendCharacter 63 = .ok (.getfield 78, 3) := by decide +kernel
theorem dX9_appendCharacter_66 : decode cX9_appendCharacter 66 = .ok (.ireturn, 1) := by decide +kernel
theorem c_X9_appendCharacter {a0 : Nat} {a1 : Int32} : CWp S N d MX9_appendCharacter [.ref a0, .int a1] I J P Q ↔ Wp S N d MX9_appendCharacter 0 [some (.ref a0), some (.int a1)] [] I J P Q := by
  rw [cwp_iff]
  exact ⟨fun h => h.2, fun h => ⟨Nat.le_of_ble_eq_true rfl, h⟩⟩
theorem e_X9_appendCharacter_0 {w : Nat} {x1 : Option Value} : Wp S N d MX9_appendCharacter 0 [some (.ref w), x1] [] I J P Q ↔ Wp S N d MX9_appendCharacter 1 [some (.ref w), x1] [.ref w] I J P Q := wp_lod (len := 1) rfl rfl rfl rfl dX9_appendCharacter_0
theorem e_X9_appendCharacter_1 {v0 : Nat} {w : Int32} {x0 : Option Value} : Wp S N d MX9_appendCharacter 1 [x0, some (.int w)] [.ref v0] I J P Q ↔ Wp S N d MX9_appendCharacter 2 [x0, some (.int w)] [.int w, .ref v0] I J P Q := wp_lod (len := 1) rfl rfl rfl rfl dX9_appendCharacter_1
theorem e_X9_appendCharacter_2 {v0 : Int32} {v1 : Nat} {x0 x1 : Option Value} : Wp S N d MX9_appendCharacter 2 [x0, x1] [.int v0, .ref v1] I J P Q ↔ Wp S N d MX9_appendCharacter 4 [x0, x1] [.int 33, .int v0, .ref v1] I J P Q := wp_bipush (by decide) dX9_appendCharacter_2
theorem e_X9_appendCharacter_4 {v0 : Int32} {v1 : Int32} {v2 : Nat} {x0 x1 : Option Value} : Wp S N d MX9_appendCharacter 4 [x0, x1] [.int v0, .int v1, .ref v2] I J P Q ↔ Wp S N d MX9_appendCharacter 6 [x0, x1] [.int 126, .int v0, .int v1, .ref v2] I J P Q := wp_bipush (by decide) dX9_appendCharacter_4
theorem e_X9_appendCharacter_6 {v0 : Int32} {v1 : Int32} {v2 : Int32} {v3 : Nat} {x0 x1 : Option Value} : Wp S N (d + 1) MX9_appendCharacter 6 [x0, x1] [.int v0, .int v1, .int v2, .ref v3] I J P Q ↔ CWp S N d MX9_in [.int v2, .int v1, .int v0] I J P (fun r I1 J1 P1 => Wp S N (d + 1) MX9_appendCharacter 9 [x0, x1] (r.toList ++ [.ref v3]) I1 J1 P1 Q) := wp_callS (M' := MX9_in) (As := [.int v2, .int v1, .int v0]) rfl rfl rfl rfl (Nat.le_of_ble_eq_true rfl) dX9_appendCharacter_6
theorem e_X9_appendCharacter_9 {v0 : Int32} {v1 : Nat} {x0 x1 : Option Value} : Wp S N d MX9_appendCharacter 9 [x0, x1] [.int v0, .ref v1] I J P Q ↔ (v0 = 0 → Wp S N d MX9_appendCharacter 29 [x0, x1] [.ref v1] I J P Q) ∧ (¬ v0 = 0 → Wp S N d MX9_appendCharacter 12 [x0, x1] [.ref v1] I J P Q) := wp_br rfl rfl (by decide) dX9_appendCharacter_9
theorem e_X9_appendCharacter_12 {v0 : Nat} {w : Nat} {x1 : Option Value} : Wp S N d MX9_appendCharacter 12 [some (.ref w), x1] [.ref v0] I J P Q ↔ Wp S N d MX9_appendCharacter 13 [some (.ref w), x1] [.ref w, .ref v0] I J P Q := wp_lod (len := 1) rfl rfl rfl rfl dX9_appendCharacter_12
theorem e_X9_appendCharacter_13 {v0 : Nat} {v1 : Nat} {x0 x1 : Option Value} : Wp S N d MX9_appendCharacter 13 [x0, x1] [.ref v0, .ref v1] I J P Q ↔ S v0 = 9 ∧ Wp S N d MX9_appendCharacter 16 [x0, x1] [.int (I v0 10), .ref v1] I J P Q := wp_getf rfl rfl rfl rfl dX9_appendCharacter_13
theorem e_X9_appendCharacter_16 {v0 : Int32} {v1 : Nat} {x0 x1 : Option Value} : Wp S N d MX9_appendCharacter 16 [x0, x1] [.int v0, .ref v1] I J P Q ↔ Wp S N d MX9_appendCharacter 18 [x0, x1] [.int 80, .int v0, .ref v1] I J P Q := wp_bipush (by decide) dX9_appendCharacter_16
theorem e_X9_appendCharacter_18 {v0 : Int32} {v1 : Int32} {v2 : Nat} {x0 x1 : Option Value} : Wp S N d MX9_appendCharacter 18 [x0, x1] [.int v0, .int v1, .ref v2] I J P Q ↔ (¬ v1 = v0 → Wp S N d MX9_appendCharacter 25 [x0, x1] [.ref v2] I J P Q) ∧ (v1 = v0 → Wp S N d MX9_appendCharacter 21 [x0, x1] [.ref v2] I J P Q) := wp_brn rfl rfl (by decide) dX9_appendCharacter_18
theorem e_X9_appendCharacter_21 {v0 : Nat} {x0 x1 : Option Value} : Wp S N d MX9_appendCharacter 21 [x0, x1] [.ref v0] I J P Q ↔ Wp S N d MX9_appendCharacter 22 [x0, x1] [.int 2, .ref v0] I J P Q := wp_iconst (by decide) dX9_appendCharacter_21
theorem e_X9_appendCharacter_22 {v0 : Int32} {v1 : Nat} {x0 x1 : Option Value} : Wp S N d MX9_appendCharacter 22 [x0, x1] [.int v0, .ref v1] I J P Q ↔ Wp S N d MX9_appendCharacter 30 [x0, x1] [.int v0, .ref v1] I J P Q := wp_go (len := 3) rfl (fun _ _ => rfl) rfl (by decide) dX9_appendCharacter_22
theorem e_X9_appendCharacter_25 {v0 : Nat} {x0 x1 : Option Value} : Wp S N d MX9_appendCharacter 25 [x0, x1] [.ref v0] I J P Q ↔ Wp S N d MX9_appendCharacter 26 [x0, x1] [.int 0, .ref v0] I J P Q := wp_iconst (by decide) dX9_appendCharacter_25
theorem e_X9_appendCharacter_26 {v0 : Int32} {v1 : Nat} {x0 x1 : Option Value} : Wp S N d MX9_appendCharacter 26 [x0, x1] [.int v0, .ref v1] I J P Q ↔ Wp S N d MX9_appendCharacter 30 [x0, x1] [.int v0, .ref v1] I J P Q := wp_go (len := 3) rfl (fun _ _ => rfl) rfl (by decide) dX9_appendCharacter_26
theorem e_X9_appendCharacter_29 {v0 : Nat} {x0 x1 : Option Value} : Wp S N d MX9_appendCharacter 29 [x0, x1] [.ref v0] I J P Q ↔ Wp S N d MX9_appendCharacter 30 [x0, x1] [.int 1, .ref v0] I J P Q := wp_iconst (by decide) dX9_appendCharacter_29
theorem e_X9_appendCharacter_30 {v0 : Int32} {v1 : Nat} {x0 x1 : Option Value} : Wp S N d MX9_appendCharacter 30 [x0, x1] [.int v0, .ref v1] I J P Q ↔ S v1 = 9 ∧ Wp S N d MX9_appendCharacter 33 [x0, x1] [] (u2 I v1 8 v0) J P Q := wp_putI rfl rfl rfl rfl dX9_appendCharacter_30
theorem e_X9_appendCharacter_33 {w : Nat} {x1 : Option Value} : Wp S N d MX9_appendCharacter 33 [some (.ref w), x1] [] I J P Q ↔ Wp S N d MX9_appendCharacter 34 [some (.ref w), x1] [.ref w] I J P Q := wp_lod (len := 1) rfl rfl rfl rfl dX9_appendCharacter_33
theorem e_X9_appendCharacter_34 {v0 : Nat} {x0 x1 : Option Value} : Wp S N d MX9_appendCharacter 34 [x0, x1] [.ref v0] I J P Q ↔ S v0 = 9 ∧ Wp S N d MX9_appendCharacter 37 [x0, x1] [.int (I v0 8)] I J P Q := wp_getf rfl rfl rfl rfl dX9_appendCharacter_34
theorem e_X9_appendCharacter_37 {v0 : Int32} {x0 x1 : Option Value} : Wp S N d MX9_appendCharacter 37 [x0, x1] [.int v0] I J P Q ↔ (v0 ≤ 0 → Wp S N d MX9_appendCharacter 42 [x0, x1] [] I J P Q) ∧ (¬ v0 ≤ 0 → Wp S N d MX9_appendCharacter 40 [x0, x1] [] I J P Q) := wp_br rfl rfl (by decide) dX9_appendCharacter_37
theorem e_X9_appendCharacter_40  {x0 x1 : Option Value} : Wp S N d MX9_appendCharacter 40 [x0, x1] [] I J P Q ↔ Wp S N d MX9_appendCharacter 41 [x0, x1] [.int 0] I J P Q := wp_iconst (by decide) dX9_appendCharacter_40
theorem e_X9_appendCharacter_41 {v0 : Int32} {x0 x1 : Option Value} : Wp S N d MX9_appendCharacter 41 [x0, x1] [.int v0] I J P Q ↔ Q (some (.int v0)) I J P := wp_iret rfl dX9_appendCharacter_41
theorem e_X9_appendCharacter_42 {w : Nat} {x1 : Option Value} : Wp S N d MX9_appendCharacter 42 [some (.ref w), x1] [] I J P Q ↔ Wp S N d MX9_appendCharacter 43 [some (.ref w), x1] [.ref w] I J P Q := wp_lod (len := 1) rfl rfl rfl rfl dX9_appendCharacter_42
theorem e_X9_appendCharacter_43 {v0 : Nat} {x0 x1 : Option Value} : Wp S N d MX9_appendCharacter 43 [x0, x1] [.ref v0] I J P Q ↔ S v0 = 9 ∧ Wp S N d MX9_appendCharacter 46 [x0, x1] [va_rf (P v0 9)] I J P Q := wp_getf rfl rfl rfl rfl dX9_appendCharacter_43
theorem e_X9_appendCharacter_46 {v0 : Nat} {w : Nat} {x1 : Option Value} : Wp S N d MX9_appendCharacter 46 [some (.ref w), x1] [.ref v0] I J P Q ↔ Wp S N d MX9_appendCharacter 47 [some (.ref w), x1] [.ref w, .ref v0] I J P Q := wp_lod (len := 1) rfl rfl rfl rfl dX9_appendCharacter_46
theorem e_X9_appendCharacter_47 {v0 : Nat} {v1 : Nat} {x0 x1 : Option Value} : Wp S N d MX9_appendCharacter 47 [x0, x1] [.ref v0, .ref v1] I J P Q ↔ S v0 = 9 ∧ Wp S N d MX9_appendCharacter 50 [x0, x1] [.int (I v0 10), .ref v1] I J P Q := wp_getf rfl rfl rfl rfl dX9_appendCharacter_47
theorem e_X9_appendCharacter_50 {v0 : Int32} {v1 : Nat} {w : Int32} {x0 : Option Value} : Wp S N d MX9_appendCharacter 50 [x0, some (.int w)] [.int v0, .ref v1] I J P Q ↔ Wp S N d MX9_appendCharacter 51 [x0, some (.int w)] [.int w, .int v0, .ref v1] I J P Q := wp_lod (len := 1) rfl rfl rfl rfl dX9_appendCharacter_50
theorem e_X9_appendCharacter_51 {v0 : Int32} {v1 : Int32} {v2 : Nat} {x0 x1 : Option Value} : Wp S N d MX9_appendCharacter 51 [x0, x1] [.int v0, .int v1, .ref v2] I J P Q ↔ (S v2 = 10 ∧ vp_in v1 (N v2)) ∧ Wp S N d MX9_appendCharacter 52 [x0, x1] [] (u2 I v2 v1.toNatClampNeg v0) J P Q := wp_ast rfl rfl dX9_appendCharacter_51
theorem e_X9_appendCharacter_52 {w : Nat} {x1 : Option Value} : Wp S N d MX9_appendCharacter 52 [some (.ref w), x1] [] I J P Q ↔ Wp S N d MX9_appendCharacter 53 [some (.ref w), x1] [.ref w] I J P Q := wp_lod (len := 1) rfl rfl rfl rfl dX9_appendCharacter_52
theorem e_X9_appendCharacter_53 {v0 : Nat} {x0 x1 : Option Value} : Wp S N d MX9_appendCharacter 53 [x0, x1] [.ref v0] I J P Q ↔ Wp S N d MX9_appendCharacter 54 [x0, x1] [.ref v0, .ref v0] I J P Q := wp_alu (len := 1) rfl rfl rfl dX9_appendCharacter_53
theorem e_X9_appendCharacter_54 {v0 : Nat} {v1 : Nat} {x0 x1 : Option Value} : Wp S N d MX9_appendCharacter 54 [x0, x1] [.ref v0, .ref v1] I J P Q ↔ S v0 = 9 ∧ Wp S N d MX9_appendCharacter 57 [x0, x1] [.int (I v0 10), .ref v1] I J P Q := wp_getf rfl rfl rfl rfl dX9_appendCharacter_54
theorem e_X9_appendCharacter_57 {v0 : Int32} {v1 : Nat} {x0 x1 : Option Value} : Wp S N d MX9_appendCharacter 57 [x0, x1] [.int v0, .ref v1] I J P Q ↔ Wp S N d MX9_appendCharacter 58 [x0, x1] [.int 1, .int v0, .ref v1] I J P Q := wp_iconst (by decide) dX9_appendCharacter_57
theorem e_X9_appendCharacter_58 {v0 : Int32} {v1 : Int32} {v2 : Nat} {x0 x1 : Option Value} : Wp S N d MX9_appendCharacter 58 [x0, x1] [.int v0, .int v1, .ref v2] I J P Q ↔ Wp S N d MX9_appendCharacter 59 [x0, x1] [.int (v1 + v0), .ref v2] I J P Q := wp_alu (len := 1) rfl rfl rfl dX9_appendCharacter_58
theorem e_X9_appendCharacter_59 {v0 : Int32} {v1 : Nat} {x0 x1 : Option Value} : Wp S N d MX9_appendCharacter 59 [x0, x1] [.int v0, .ref v1] I J P Q ↔ S v1 = 9 ∧ Wp S N d MX9_appendCharacter 62 [x0, x1] [] (u2 I v1 10 v0) J P Q := wp_putI rfl rfl rfl rfl dX9_appendCharacter_59
theorem e_X9_appendCharacter_62 {w : Nat} {x1 : Option Value} : Wp S N d MX9_appendCharacter 62 [some (.ref w), x1] [] I J P Q ↔ Wp S N d MX9_appendCharacter 63 [some (.ref w), x1] [.ref w] I J P Q := wp_lod (len := 1) rfl rfl rfl rfl dX9_appendCharacter_62
theorem e_X9_appendCharacter_63 {v0 : Nat} {x0 x1 : Option Value} : Wp S N d MX9_appendCharacter 63 [x0, x1] [.ref v0] I J P Q ↔ S v0 = 9 ∧ Wp S N d MX9_appendCharacter 66 [x0, x1] [.int (I v0 10)] I J P Q := wp_getf rfl rfl rfl rfl dX9_appendCharacter_63
theorem e_X9_appendCharacter_66 {v0 : Int32} {x0 x1 : Option Value} : Wp S N d MX9_appendCharacter 66 [x0, x1] [.int v0] I J P Q ↔ Q (some (.int v0)) I J P := wp_iret rfl dX9_appendCharacter_66
theorem dX9_faultPosition_0 : decode cX9_faultPosition 0 = .ok (.aload_n 0, 1) := by decide +kernel
theorem dX9_faultPosition_1 : decode cX9_faultPosition 1 = .ok (.iconst 0, 1) := by decide +kernel
theorem dX9_faultPosition_2 : decode cX9_faultPosition 2 = .ok (.putfield 57, 3) := by decide +kernel
theorem dX9_faultPosition_5 : decode cX9_faultPosition 5 = .ok (.aload_n 0, 1) := by decide +kernel
theorem dX9_faultPosition_6 : decode cX9_faultPosition 6 = .ok (.getfield 32, 3) := by decide +kernel
theorem dX9_faultPosition_9 : decode cX9_faultPosition 9 = .ok (.ireturn, 1) := by decide +kernel
theorem c_X9_faultPosition {a0 : Nat} : CWp S N d MX9_faultPosition [.ref a0] I J P Q ↔ Wp S N d MX9_faultPosition 0 [some (.ref a0)] [] I J P Q := by
  rw [cwp_iff]
  exact ⟨fun h => h.2, fun h => ⟨Nat.le_of_ble_eq_true rfl, h⟩⟩
theorem e_X9_faultPosition_0 {w : Nat} : Wp S N d MX9_faultPosition 0 [some (.ref w)] [] I J P Q ↔ Wp S N d MX9_faultPosition 1 [some (.ref w)] [.ref w] I J P Q := wp_lod (len := 1) rfl rfl rfl rfl dX9_faultPosition_0
theorem e_X9_faultPosition_1 {v0 : Nat} {x0 : Option Value} : Wp S N d MX9_faultPosition 1 [x0] [.ref v0] I J P Q ↔ Wp S N d MX9_faultPosition 2 [x0] [.int 0, .ref v0] I J P Q := wp_iconst (by decide) dX9_faultPosition_1
theorem e_X9_faultPosition_2 {v0 : Int32} {v1 : Nat} {x0 : Option Value} : Wp S N d MX9_faultPosition 2 [x0] [.int v0, .ref v1] I J P Q ↔ S v1 = 9 ∧ Wp S N d MX9_faultPosition 5 [x0] [] (u2 I v1 8 v0) J P Q := wp_putI rfl rfl rfl rfl dX9_faultPosition_2
theorem e_X9_faultPosition_5 {w : Nat} : Wp S N d MX9_faultPosition 5 [some (.ref w)] [] I J P Q ↔ Wp S N d MX9_faultPosition 6 [some (.ref w)] [.ref w] I J P Q := wp_lod (len := 1) rfl rfl rfl rfl dX9_faultPosition_5
theorem e_X9_faultPosition_6 {v0 : Nat} {x0 : Option Value} : Wp S N d MX9_faultPosition 6 [x0] [.ref v0] I J P Q ↔ S v0 = 9 ∧ Wp S N d MX9_faultPosition 9 [x0] [.int (I v0 13)] I J P Q := wp_getf rfl rfl rfl rfl dX9_faultPosition_6
theorem e_X9_faultPosition_9 {v0 : Int32} {x0 : Option Value} : Wp S N d MX9_faultPosition 9 [x0] [.int v0] I J P Q ↔ Q (some (.int v0)) I J P := wp_iret rfl dX9_faultPosition_9
theorem dX9_here_0 : decode cX9_here 0 = .ok (.aload_n 0, 1) := by decide +kernel
theorem dX9_here_1 : decode cX9_here 1 = .ok (.getfield 81, 3) := by decide +kernel
theorem dX9_here_4 : decode cX9_here 4 = .ok (.aload_n 0, 1) := by decide +kernel
theorem dX9_here_5 : decode cX9_here 5 = .ok (.getfield 78, 3) := by decide +kernel
theorem dX9_here_8 : decode cX9_here 8 = .ok (.if_icmp .ge 15, 3) := by decide +kernel
theorem dX9_here_11 : decode cX9_here 11 = .ok (.aload_n 0, 1) := by decide +kernel
theorem dX9_here_12 : decode cX9_here 12 = .ok (.getfield 29, 3) := by decide +kernel
theorem dX9_here_15 : decode cX9_here 15 = .ok (.aload_n 0, 1) := by decide +kernel
theorem dX9_here_16 : decode cX9_here 16 = .ok (.getfield 81, 3) := by decide +kernel
theorem dX9_here_19 : decode cX9_here 19 = .ok (.iaload, 1) := by decide +kernel
theorem dX9_here_20 : decode cX9_here 20 = .ok (.goto 4, 3) := by decide +kernel
theorem dX9_here_23 : decode cX9_here 23 = .ok (.iconst (-1), 1) := by decide +kernel
theorem dX9_here_24 : decode cX9_here 24 = .ok (.ireturn, 1) := by decide +kernel
theorem c_X9_here {a0 : Nat} : CWp S N d MX9_here [.ref a0] I J P Q ↔ Wp S N d MX9_here 0 [some (.ref a0)] [] I J P Q := by
  rw [cwp_iff]
  exact ⟨fun h => h.2, fun h => ⟨Nat.le_of_ble_eq_true rfl, h⟩⟩
theorem e_X9_here_0 {w : Nat} : Wp S N d MX9_here 0 [some (.ref w)] [] I J P Q ↔ Wp S N d MX9_here 1 [some (.ref w)] [.ref w] I J P Q := wp_lod (len := 1) rfl rfl rfl rfl dX9_here_0
theorem e_X9_here_1 {v0 : Nat} {x0 : Option Value} : Wp S N d MX9_here 1 [x0] [.ref v0] I J P Q ↔ S v0 = 9 ∧ Wp S N d MX9_here 4 [x0] [.int (I v0 11)] I J P Q := wp_getf rfl rfl rfl rfl dX9_here_1
theorem e_X9_here_4 {v0 : Int32} {w : Nat} : Wp S N d MX9_here 4 [some (.ref w)] [.int v0] I J P Q ↔ Wp S N d MX9_here 5 [some (.ref w)] [.ref w, .int v0] I J P Q := wp_lod (len := 1) rfl rfl rfl rfl dX9_here_4
theorem e_X9_here_5 {v0 : Nat} {v1 : Int32} {x0 : Option Value} : Wp S N d MX9_here 5 [x0] [.ref v0, .int v1] I J P Q ↔ S v0 = 9 ∧ Wp S N d MX9_here 8 [x0] [.int (I v0 10), .int v1] I J P Q := wp_getf rfl rfl rfl rfl dX9_here_5
theorem e_X9_here_8 {v0 : Int32} {v1 : Int32} {x0 : Option Value} : Wp S N d MX9_here 8 [x0] [.int v0, .int v1] I J P Q ↔ (v0 ≤ v1 → Wp S N d MX9_here 23 [x0] [] I J P Q) ∧ (¬ v0 ≤ v1 → Wp S N d MX9_here 11 [x0] [] I J P Q) := wp_br rfl rfl (by decide) dX9_here_8
theorem e_X9_here_11 {w : Nat} : Wp S N d MX9_here 11 [some (.ref w)] [] I J P Q ↔ Wp S N d MX9_here 12 [some (.ref w)] [.ref w] I J P Q := wp_lod (len := 1) rfl rfl rfl rfl dX9_here_11
theorem e_X9_here_12 {v0 : Nat} {x0 : Option Value} : Wp S N d MX9_here 12 [x0] [.ref v0] I J P Q ↔ S v0 = 9 ∧ Wp S N d MX9_here 15 [x0] [va_rf (P v0 9)] I J P Q := wp_getf rfl rfl rfl rfl dX9_here_12
theorem e_X9_here_15 {v0 : Nat} {w : Nat} : Wp S N d MX9_here 15 [some (.ref w)] [.ref v0] I J P Q ↔ Wp S N d MX9_here 16 [some (.ref w)] [.ref w, .ref v0] I J P Q := wp_lod (len := 1) rfl rfl rfl rfl dX9_here_15
theorem e_X9_here_16 {v0 : Nat} {v1 : Nat} {x0 : Option Value} : Wp S N d MX9_here 16 [x0] [.ref v0, .ref v1] I J P Q ↔ S v0 = 9 ∧ Wp S N d MX9_here 19 [x0] [.int (I v0 11), .ref v1] I J P Q := wp_getf rfl rfl rfl rfl dX9_here_16
theorem e_X9_here_19 {v0 : Int32} {v1 : Nat} {x0 : Option Value} : Wp S N d MX9_here 19 [x0] [.int v0, .ref v1] I J P Q ↔ (S v1 = 10 ∧ vp_in v0 (N v1)) ∧ Wp S N d MX9_here 20 [x0] [.int (I v1 v0.toNatClampNeg)] I J P Q := wp_ald rfl rfl dX9_here_19
theorem e_X9_here_20 {v0 : Int32} {x0 : Option Value} : Wp S N d MX9_here 20 [x0] [.int v0] I J P Q ↔ Wp S N d MX9_here 24 [x0] [.int v0] I J P Q := wp_go (len := 3) rfl (fun _ _ => rfl) rfl (by decide) dX9_here_20
theorem e_X9_here_23  {x0 : Option Value} : Wp S N d MX9_here 23 [x0] [] I J P Q ↔ Wp S N d MX9_here 24 [x0] [.int (-1)] I J P Q := wp_iconst (by decide) dX9_here_23
theorem e_X9_here_24 {v0 : Int32} {x0 : Option Value} : Wp S N d MX9_here 24 [x0] [.int v0] I J P Q ↔ Q (some (.int v0)) I J P := wp_iret rfl dX9_here_24
theorem dX9_skips_0 : decode cX9_skips 0 = .ok (.aload_n 0, 1) := by decide +kernel
theorem dX9_skips_1 : decode cX9_skips 1 = .ok (.invokevirtual 84, 3) := by decide +kernel
theorem dX9_skips_4 : decode cX9_skips 4 = .ok (.iload_n 1, 1) := by decide +kernel
theorem dX9_skips_5 : decode cX9_skips 5 = .ok (.if_icmp .eq 5, 3) := by decide +kernel
theorem dX9_skips_8 : decode cX9_skips 8 = .ok (.iconst 0, 1) := by decide +kernel
theorem dX9_skips_9 : decode cX9_skips 9 = .ok (.ireturn, 1) := by decide +kernel
theorem dX9_skips_10 : decode cX9_skips 10 = .ok (.aload_n 0, 1) := by decide +kernel
theorem dX9_skips_11 : decode cX9_skips 11 = .ok (.dup, 1) := by decide +kernel
theorem dX9_skips_12 : decode cX9_skips 12 = .ok (.getfield 81, 3) := by decide +kernel
theorem dX9_skips_15 : decode cX9_skips 15 = .ok (.iconst 1, 1) := by decide +kernel
theorem dX9_skips_16 : decode cX9_skips 16 = .ok (.iadd, 1) := by decide +kernel
theorem dX9_skips_17 : decode cX9_skips 17 = .ok (.putfield 81, 3) := by decide +kernel
theorem dX9_skips_20 : decode cX9_skips 20 = .ok (.iconst 1, 1) := by decide +kernel
theorem dX9_skips_21 : decode cX9_skips 21 = .ok (.ireturn, 1) := by decide +kernel
theorem c_X9_skips {a0 : Nat} {a1 : Int32} : CWp S N d MX9_skips [.ref a0, .int a1] I J P Q ↔ Wp S N d MX9_skips 0 [some (.ref a0), some (.int a1)] [] I J P Q := by
  rw [cwp_iff]
  exact ⟨fun h => h.2, fun h => ⟨Nat.le_of_ble_eq_true rfl, h⟩⟩
theorem e_X9_skips_0 {w : Nat} {x1 : Option Value} : Wp S N d MX9_skips 0 [some (.ref w), x1] [] I J P Q ↔ Wp S N d MX9_skips 1 [some (.ref w), x1] [.ref w] I J P Q := wp_lod (len := 1) rfl rfl rfl rfl dX9_skips_0
theorem e_X9_skips_1 {v0 : Nat} {x0 x1 : Option Value} : Wp S N (d + 1) MX9_skips 1 [x0, x1] [.ref v0] I J P Q ↔ S v0 = 9 ∧ CWp S N d MX9_here [.ref v0] I J P (fun r I1 J1 P1 => Wp S N (d + 1) MX9_skips 4 [x0, x1] (r.toList ++ []) I1 J1 P1 Q) := wp_callV (M' := MX9_here) (As := []) rfl rfl rfl rfl (by decide) (Nat.le_of_ble_eq_true rfl) dX9_skips_1
theorem e_X9_skips_4 {v0 : Int32} {w : Int32} {x0 : Option Value} : Wp S N d MX9_skips 4 [x0, some (.int w)] [.int v0] I J P Q ↔ Wp S N d MX9_skips 5 [x0, some (.int w)] [.int w, .int v0] I J P Q := wp_lod (len := 1) rfl rfl rfl rfl dX9_skips_4
theorem e_X9_skips_5 {v0 : Int32} {v1 : Int32} {x0 x1 : Option Value} : Wp S N d MX9_skips 5 [x0, x1] [.int v0, .int v1] I J P Q ↔ (v1 = v0 → Wp S N d MX9_skips 10 [x0, x1] [] I J P Q) ∧ (¬ v1 = v0 → Wp S N d MX9_skips 8 [x0, x1] [] I J P Q) := wp_br rfl rfl (by decide) dX9_skips_5
theorem e_X9_skips_8  {x0 x1 : Option Value} : Wp S N d MX9_skips 8 [x0, x1] [] I J P Q ↔ Wp S N d MX9_skips 9 [x0, x1] [.int 0] I J P Q := wp_iconst (by decide) dX9_skips_8
theorem e_X9_skips_9 {v0 : Int32} (hb : isB v0) {x0 x1 : Option Value} : Wp S N d MX9_skips 9 [x0, x1] [.int v0] I J P Q ↔ Q (some (.int v0)) I J P := wp_zret rfl dX9_skips_9 hb
theorem e_X9_skips_10 {w : Nat} {x1 : Option Value} : Wp S N d MX9_skips 10 [some (.ref w), x1] [] I J P Q ↔ Wp S N d MX9_skips 11 [some (.ref w), x1] [.ref w] I J P Q := wp_lod (len := 1) rfl rfl rfl rfl dX9_skips_10
theorem e_X9_skips_11 {v0 : Nat} {x0 x1 : Option Value} : Wp S N d MX9_skips 11 [x0, x1] [.ref v0] I J P Q ↔ Wp S N d MX9_skips 12 [x0, x1] [.ref v0, .ref v0] I J P Q := wp_alu (len := 1) rfl rfl rfl dX9_skips_11
theorem e_X9_skips_12 {v0 : Nat} {v1 : Nat} {x0 x1 : Option Value} : Wp S N d MX9_skips 12 [x0, x1] [.ref v0, .ref v1] I J P Q ↔ S v0 = 9 ∧ Wp S N d MX9_skips 15 [x0, x1] [.int (I v0 11), .ref v1] I J P Q := wp_getf rfl rfl rfl rfl dX9_skips_12
theorem e_X9_skips_15 {v0 : Int32} {v1 : Nat} {x0 x1 : Option Value} : Wp S N d MX9_skips 15 [x0, x1] [.int v0, .ref v1] I J P Q ↔ Wp S N d MX9_skips 16 [x0, x1] [.int 1, .int v0, .ref v1] I J P Q := wp_iconst (by decide) dX9_skips_15
theorem e_X9_skips_16 {v0 : Int32} {v1 : Int32} {v2 : Nat} {x0 x1 : Option Value} : Wp S N d MX9_skips 16 [x0, x1] [.int v0, .int v1, .ref v2] I J P Q ↔ Wp S N d MX9_skips 17 [x0, x1] [.int (v1 + v0), .ref v2] I J P Q := wp_alu (len := 1) rfl rfl rfl dX9_skips_16
theorem e_X9_skips_17 {v0 : Int32} {v1 : Nat} {x0 x1 : Option Value} : Wp S N d MX9_skips 17 [x0, x1] [.int v0, .ref v1] I J P Q ↔ S v1 = 9 ∧ Wp S N d MX9_skips 20 [x0, x1] [] (u2 I v1 11 v0) J P Q := wp_putI rfl rfl rfl rfl dX9_skips_17
theorem e_X9_skips_20  {x0 x1 : Option Value} : Wp S N d MX9_skips 20 [x0, x1] [] I J P Q ↔ Wp S N d MX9_skips 21 [x0, x1] [.int 1] I J P Q := wp_iconst (by decide) dX9_skips_20
theorem e_X9_skips_21 {v0 : Int32} (hb : isB v0) {x0 x1 : Option Value} : Wp S N d MX9_skips 21 [x0, x1] [.int v0] I J P Q ↔ Q (some (.int v0)) I J P := wp_zret rfl dX9_skips_21 hb
theorem dX9_number_0 : decode cX9_number 0 = .ok (.aload_n 0, 1) := by decide +kernel
theorem dX9_number_1 : decode cX9_number 1 = .ok (.iconst 0, 1) := by decide +kernel
theorem dX9_number_2 : decode cX9_number 2 = .ok (.putfield 88, 3) := by decide +kernel
theorem dX9_number_5 : decode cX9_number 5 = .ok (.iconst 0, 1) := by decide +kernel
theorem dX9_number_6 : decode cX9_number 6 = .ok (.istore_n 1, 1) := by decide +kernel
theorem dX9_number_7 : decode cX9_number 7 = .ok (.iload_n 1, 1) := by decide +kernel
theorem dX9_number_8 : decode cX9_number 8 = .ok (.iconst 4, 1) := by decide +kernel
theorem dX9_number_9 : decode cX9_number 9 = .ok (.if_icmp .ge 52, 3) := by decide +kernel
theorem dX9_number_12 : decode cX9_number 12 = .ok (.aload_n 0, 1) := by decide +kernel
theorem dX9_number_13 : decode cX9_number 13 = .ok (.invokevirtual 84, 3) := by decide +kernel
theorem dX9_number_16 : decode cX9_number 16 = .ok (.bipush 48, 2) := by decide +kernel
theorem dX9_number_18 : decode cX9_number 18 = .ok (.bipush 57, 2) := by decide +kernel
theorem dX9_number_20 : decode cX9_number 20 = .ok (.invokestatic 60, 3) := by decide +kernel
theorem dX9_number_23 : decode cX9_number 23 = .ok (.ifCond .eq 38, 3) := by decide +kernel
theorem dX9_number_26 : decode cX9_number 26 = .ok (.aload_n 0, 1) := by decide +kernel
theorem dX9_number_27 : decode cX9_number 27 = .ok (.bipush 10, 2) := by decide +kernel
theorem dX9_number_29 : decode cX9_number 29 = .ok (.aload_n 0, 1) := by decide +kernel
theorem dX9_number_30 : decode cX9_number 30 = .ok (.getfield 88, 3) := by decide +kernel
theorem dX9_number_33 : decode cX9_number 33 = .ok (.imul, 1) := by decide +kernel
theorem dX9_number_34 : decode cX9_number 34 = .ok (.aload_n 0, 1) := by decide +kernel
theorem dX9_number_35 : decode cX9_number 35 = .ok (.invokevirtual 84, 3) := by decide +kernel
theorem dX9_number_38 : decode cX9_number 38 = .ok (.iadd, 1) := by decide +kernel
theorem dX9_number_39 : decode cX9_number 39 = .ok (.bipush 48, 2) := by decide +kernel
theorem dX9_number_41 : decode cX9_number 41 = .ok (.isub, 1) := by decide +kernel
theorem dX9_number_42 : decode cX9_number 42 = .ok (.putfield 88, 3) := by decide +kernel
theorem dX9_number_45 : decode cX9_number 45 = .ok (.aload_n 0, 1) := by decide +kernel
theorem dX9_number_46 : decode cX9_number 46 = .ok (.dup, 1) := by decide +kernel
theorem dX9_number_47 : decode cX9_number 47 = .ok (.getfield 81, 3) := by decide +kernel
theorem dX9_number_50 : decode cX9_number 50 = .ok (.iconst 1, 1) := by decide +kernel
theorem dX9_number_51 : decode cX9_number 51 = .ok (.iadd, 1) := by decide +kernel
theorem dX9_number_52 : decode cX9_number 52 = .ok (.putfield 81, 3) := by decide +kernel
theorem dX9_number_55 : decode cX9_number 55 = .ok (.iinc 1 1, 3) := by decide +kernel
theorem dX9_number_58 : decode cX9_number 58 = .ok (.goto (-51), 3) := by decide +kernel
theorem dX9_number_61 : decode cX9_number 61 = .ok (.iload_n 1, 1) := by decide +kernel
theorem dX9_number_62 : decode cX9_number 62 = .ok (.ifCond .le 7, 3) := by decide +kernel
theorem dX9_number_65 : decode cX9_number 65 = .ok (.iconst 1, 1) := by decide +kernel
theorem dX9_number_66 : decode cX9_number 66 = .ok (.goto 4, 3) := by decide +kernel
theorem dX9_number_69 : decode cX9_number 69 = .ok (.iconst 0, 1) := by decide +kernel
theorem dX9_number_70 : decode cX9_number 70 = .ok (.ireturn, 1) := by decide +kernel
theorem c_X9_number {a0 : Nat} : CWp S N d MX9_number [.ref a0] I J P Q ↔ Wp S N d MX9_number 0 [some (.ref a0), none] [] I J P Q := by
  rw [cwp_iff]
  exact ⟨fun h => h.2, fun h => ⟨Nat.le_of_ble_eq_true rfl, h⟩⟩
theorem e_X9_number_0 {w : Nat} {x1 : Option Value} : Wp S N d MX9_number 0 [some (.ref w), x1] [] I J P Q ↔ Wp S N d MX9_number 1 [some (.ref w), x1] [.ref w] I J P Q := wp_lod (len := 1) rfl rfl rfl rfl dX9_number_0
theorem e_X9_number_1 {v0 : Nat} {x0 x1 : Option Value} : Wp S N d MX9_number 1 [x0, x1] [.ref v0] I J P Q ↔ Wp S N d MX9_number 2 [x0, x1] [.int 0, .ref v0] I J P Q := wp_iconst (by decide) dX9_number_1
theorem e_X9_number_2 {v0 : Int32} {v1 : Nat} {x0 x1 : Option Value} : Wp S N d MX9_number 2 [x0, x1] [.int v0, .ref v1] I J P Q ↔ S v1 = 9 ∧ Wp S N d MX9_number 5 [x0, x1] [] (u2 I v1 12 v0) J P Q := wp_putI rfl rfl rfl rfl dX9_number_2
theorem e_X9_number_5  {x0 x1 : Option Value} : Wp S N d MX9_number 5 [x0, x1] [] I J P Q ↔ Wp S N d MX9_number 6 [x0, x1] [.int 0] I J P Q := wp_iconst (by decide) dX9_number_5
theorem e_X9_number_6 {v0 : Int32} {x0 x1 : Option Value} : Wp S N d MX9_number 6 [x0, x1] [.int v0] I J P Q ↔ Wp S N d MX9_number 7 [kl x0, some (.int v0)] [] I J P Q := wp_sto (len := 1) rfl rfl rfl rfl (Nat.le_of_ble_eq_true rfl) rfl dX9_number_6
theorem e_X9_number_7 {w : Int32} {x0 : Option Value} : Wp S N d MX9_number 7 [x0, some (.int w)] [] I J P Q ↔ Wp S N d MX9_number 8 [x0, some (.int w)] [.int w] I J P Q := wp_lod (len := 1) rfl rfl rfl rfl dX9_number_7
theorem e_X9_number_8 {v0 : Int32} {x0 x1 : Option Value} : Wp S N d MX9_number 8 [x0, x1] [.int v0] I J P Q ↔ Wp S N d MX9_number 9 [x0, x1] [.int 4, .int v0] I J P Q := wp_iconst (by decide) dX9_number_8
theorem e_X9_number_9 {v0 : Int32} {v1 : Int32} {x0 x1 : Option Value} : Wp S N d MX9_number 9 [x0, x1] [.int v0, .int v1] I J P Q ↔ (v0 ≤ v1 → Wp S N d MX9_number 61 [x0, x1] [] I J P Q) ∧ (¬ v0 ≤ v1 → Wp S N d MX9_number 12 [x0, x1] [] I J P Q) := wp_br rfl rfl (by decide) dX9_number_9
theorem e_X9_number_12 {w : Nat} {x1 : Option Value} : Wp S N d MX9_number 12 [some (.ref w), x1] [] I J P Q ↔ Wp S N d MX9_number 13 [some (.ref w), x1] [.ref w] I J P Q := wp_lod (len := 1) rfl rfl rfl rfl dX9_number_12
theorem e_X9_number_13 {v0 : Nat} {x0 x1 : Option Value} : Wp S N (d + 1) MX9_number 13 [x0, x1] [.ref v0] I J P Q ↔ S v0 = 9 ∧ CWp S N d MX9_here [.ref v0] I J P (fun r I1 J1 P1 => Wp S N (d + 1) MX9_number 16 [x0, x1] (r.toList ++ []) I1 J1 P1 Q) := wp_callV (M' := MX9_here) (As := []) rfl rfl rfl rfl (by decide) (Nat.le_of_ble_eq_true rfl) dX9_number_13
theorem e_X9_number_16 {v0 : Int32} {x0 x1 : Option Value} : Wp S N d MX9_number 16 [x0, x1] [.int v0] I J P Q ↔ Wp S N d MX9_number 18 [x0, x1] [.int 48, .int v0] I J P Q := wp_bipush (by decide) dX9_number_16
theorem e_X9_number_18 {v0 : Int32} {v1 : Int32} {x0 x1 : Option Value} : Wp S N d MX9_number 18 [x0, x1] [.int v0, .int v1] I J P Q ↔ Wp S N d MX9_number 20 [x0, x1] [.int 57, .int v0, .int v1] I J P Q := wp_bipush (by decide) dX9_number_18
theorem e_X9_number_20 {v0 : Int32} {v1 : Int32} {v2 : Int32} {x0 x1 : Option Value} : Wp S N (d + 1) MX9_number 20 [x0, x1] [.int v0, .int v1, .int v2] I J P Q ↔ CWp S N d MX9_in [.int v2, .int v1, .int v0] I J P (fun r I1 J1 P1 => Wp S N (d + 1) MX9_number 23 [x0, x1] (r.toList ++ []) I1 J1 P1 Q) := wp_callS (M' := MX9_in) (As := [.int v2, .int v1, .int v0]) rfl rfl rfl rfl (Nat.le_of_ble_eq_true rfl) dX9_number_20
theorem e_X9_number_23 {v0 : Int32} {x0 x1 : Option Value} : Wp S N d MX9_number 23 [x0, x1] [.int v0] I J P Q ↔ (v0 = 0 → Wp S N d MX9_number 61 [x0, x1] [] I J P Q) ∧ (¬ v0 = 0 → Wp S N d MX9_number 26 [x0, x1] [] I J P Q) := wp_br rfl rfl (by decide) dX9_number_23
theorem e_X9_number_26 {w : Nat} {x1 : Option Value} : Wp S N d MX9_number 26 [some (.ref w), x1] [] I J P Q ↔ Wp S N d MX9_number 27 [some (.ref w), x1] [.ref w] I J P Q := wp_lod (len := 1) rfl rfl rfl rfl dX9_number_26
theorem e_X9_number_27 {v0 : Nat} {x0 x1 : Option Value} : Wp S N d MX9_number 27 [x0, x1] [.ref v0] I J P Q ↔ Wp S N d MX9_number 29 [x0, x1] [.int 10, .ref v0] I J P Q := wp_bipush (by decide) dX9_number_27
theorem e_X9_number_29 {v0 : Int32} {v1 : Nat} {w : Nat} {x1 : Option Value} : Wp S N d MX9_number 29 [some (.ref w), x1] [.int v0, .ref v1] I J P Q ↔ Wp S N d MX9_number 30 [some (.ref w), x1] [.ref w, .int v0, .ref v1] I J P Q := wp_lod (len := 1) rfl rfl rfl rfl dX9_number_29
theorem e_X9_number_30 {v0 : Nat} {v1 : Int32} {v2 : Nat} {x0 x1 : Option Value} : Wp S N d MX9_number 30 [x0, x1] [.ref v0, .int v1, .ref v2] I J P Q ↔ S v0 = 9 ∧ Wp S N d MX9_number 33 [x0, x1] [.int (I v0 12), .int v1, .ref v2] I J P Q := wp_getf rfl rfl rfl rfl dX9_number_30
theorem e_X9_number_33 {v0 : Int32} {v1 : Int32} {v2 : Nat} {x0 x1 : Option Value} : Wp S N d MX9_number 33 [x0, x1] [.int v0, .int v1, .ref v2] I J P Q ↔ Wp S N d MX9_number 34 [x0, x1] [.int (v1 * v0), .ref v2] I J P Q := wp_alu (len := 1) rfl rfl rfl dX9_number_33
theorem e_X9_number_34 {v0 : Int32} {v1 : Nat} {w : Nat} {x1 : Option Value} : Wp S N d MX9_number 34 [some (.ref w), x1] [.int v0, .ref v1] I J P Q ↔ Wp S N d MX9_number 35 [some (.ref w), x1] [.ref w, .int v0, .ref v1] I J P Q := wp_lod (len := 1) rfl rfl rfl rfl dX9_number_34
theorem e_X9_number_35 {v0 : Nat} {v1 : Int32} {v2 : Nat} {x0 x1 : Option Value} : Wp S N (d + 1) MX9_number 35 [x0, x1] [.ref v0, .int v1, .ref v2] I J P Q ↔ S v0 = 9 ∧ CWp S N d MX9_here [.ref v0] I J P (fun r I1 J1 P1 => Wp S N (d + 1) MX9_number 38 [x0, x1] (r.toList ++ [.int v1, .ref v2]) I1 J1 P1 Q) := wp_callV (M' := MX9_here) (As := []) rfl rfl rfl rfl (by decide) (Nat.le_of_ble_eq_true rfl) dX9_number_35
theorem e_X9_number_38 {v0 : Int32} {v1 : Int32} {v2 : Nat} {x0 x1 : Option Value} : Wp S N d MX9_number 38 [x0, x1] [.int v0, .int v1, .ref v2] I J P Q ↔ Wp S N d MX9_number 39 [x0, x1] [.int (v1 + v0), .ref v2] I J P Q := wp_alu (len := 1) rfl rfl rfl dX9_number_38
theorem e_X9_number_39 {v0 : Int32} {v1 : Nat} {x0 x1 : Option Value} : Wp S N d MX9_number 39 [x0, x1] [.int v0, .ref v1] I J P Q ↔ Wp S N d MX9_number 41 [x0, x1] [.int 48, .int v0, .ref v1] I J P Q := wp_bipush (by decide) dX9_number_39
theorem e_X9_number_41 {v0 : Int32} {v1 : Int32} {v2 : Nat} {x0 x1 : Option Value} : Wp S N d MX9_number 41 [x0, x1] [.int v0, .int v1, .ref v2] I J P Q ↔ Wp S N d MX9_number 42 [x0, x1] [.int (v1 - v0), .ref v2] I J P Q := wp_alu (len := 1) rfl rfl rfl dX9_number_41
theorem e_X9_number_42 {v0 : Int32} {v1 : Nat} {x0 x1 : Option Value} : Wp S N d MX9_number 42 [x0, x1] [.int v0, .ref v1] I J P Q ↔ S v1 = 9 ∧ Wp S N d MX9_number 45 [x0, x1] [] (u2 I v1 12 v0) J P Q := wp_putI rfl rfl rfl rfl dX9_number_42
theorem e_X9_number_45 {w : Nat} {x1 : Option Value} : Wp S N d MX9_number 45 [some (.ref w), x1] [] I J P Q ↔ Wp S N d MX9_number 46 [some (.ref w), x1] [.ref w] I J P Q := wp_lod (len := 1) rfl rfl rfl rfl dX9_number_45
theorem e_X9_number_46 {v0 : Nat} {x0 x1 : Option Value} : Wp S N d MX9_number 46 [x0, x1] [.ref v0] I J P Q ↔ Wp S N d MX9_number 47 [x0, x1] [.ref v0, .ref v0] I J P Q := wp_alu (len := 1) rfl rfl rfl dX9_number_46
theorem e_X9_number_47 {v0 : Nat} {v1 : Nat} {x0 x1 : Option Value} : Wp S N d MX9_number 47 [x0, x1] [.ref v0, .ref v1] I J P Q ↔ S v0 = 9 ∧ Wp S N d MX9_number 50 [x0, x1] [.int (I v0 11), .ref v1] I J P Q := wp_getf rfl rfl rfl rfl dX9_number_47
theorem e_X9_number_50 {v0 : Int32} {v1 : Nat} {x0 x1 : Option Value} : Wp S N d MX9_number 50 [x0, x1] [.int v0, .ref v1] I J P Q ↔ Wp S N d MX9_number 51 [x0, x1] [.int 1, .int v0, .ref v1] I J P Q := wp_iconst (by decide) dX9_number_50
theorem e_X9_number_51 {v0 : Int32} {v1 : Int32} {v2 : Nat} {x0 x1 : Option Value} : Wp S N d MX9_number 51 [x0, x1] [.int v0, .int v1, .ref v2] I J P Q ↔ Wp S N d MX9_number 52 [x0, x1] [.int (v1 + v0), .ref v2] I J P Q := wp_alu (len := 1) rfl rfl rfl dX9_number_51
theorem e_X9_number_52 {v0 : Int32} {v1 : Nat} {x0 x1 : Option Value} : Wp S N d MX9_number 52 [x0, x1] [.int v0, .ref v1] I J P Q ↔ S v1 = 9 ∧ Wp S N d MX9_number 55 [x0, x1] [] (u2 I v1 11 v0) J P Q := wp_putI rfl rfl rfl rfl dX9_number_52
theorem e_X9_number_55 {w : Int32} {x0 : Option Value} : Wp S N d MX9_number 55 [x0, some (.int w)] [] I J P Q ↔ Wp S N d MX9_number 58 [kl x0, some (.int (w + 1))] [] I J P Q := wp_inc rfl rfl dX9_number_55
theorem e_X9_number_58  {x0 x1 : Option Value} : Wp S N d MX9_number 58 [x0, x1] [] I J P Q ↔ Wp S N d MX9_number 7 [x0, x1] [] I J P Q := wp_go (len := 3) rfl (fun _ _ => rfl) rfl (by decide) dX9_number_58
theorem e_X9_number_61 {w : Int32} {x0 : Option Value} : Wp S N d MX9_number 61 [x0, some (.int w)] [] I J P Q ↔ Wp S N d MX9_number 62 [x0, some (.int w)] [.int w] I J P Q := wp_lod (len := 1) rfl rfl rfl rfl dX9_number_61
theorem e_X9_number_62 {v0 : Int32} {x0 x1 : Option Value} : Wp S N d MX9_number 62 [x0, x1] [.int v0] I J P Q ↔ (v0 ≤ 0 → Wp S N d MX9_number 69 [x0, x1] [] I J P Q) ∧ (¬ v0 ≤ 0 → Wp S N d MX9_number 65 [x0, x1] [] I J P Q) := wp_br rfl rfl (by decide) dX9_number_62
theorem e_X9_number_65  {x0 x1 : Option Value} : Wp S N d MX9_number 65 [x0, x1] [] I J P Q ↔ Wp S N d MX9_number 66 [x0, x1] [.int 1] I J P Q := wp_iconst (by decide) dX9_number_65
theorem e_X9_number_66 {v0 : Int32} {x0 x1 : Option Value} : Wp S N d MX9_number 66 [x0, x1] [.int v0] I J P Q ↔ Wp S N d MX9_number 70 [x0, x1] [.int v0] I J P Q := wp_go (len := 3) rfl (fun _ _ => rfl) rfl (by decide) dX9_number_66
theorem e_X9_number_69  {x0 x1 : Option Value} : Wp S N d MX9_number 69 [x0, x1] [] I J P Q ↔ Wp S N d MX9_number 70 [x0, x1] [.int 0] I J P Q := wp_iconst (by decide) dX9_number_69
theorem e_X9_number_70 {v0 : Int32} (hb : isB v0) {x0 x1 : Option Value} : Wp S N d MX9_number 70 [x0, x1] [.int v0] I J P Q ↔ Q (some (.int v0)) I J P := wp_zret rfl dX9_number_70 hb
theorem dX9_rate_0 : decode cX9_rate 0 = .ok (.aload_n 0, 1) := by decide +kernel
theorem dX9_rate_1 : decode cX9_rate 1 = .ok (.aload_n 0, 1) := by decide +kernel
theorem dX9_rate_2 : decode cX9_rate 2 = .ok (.getfield 91, 3) := by decide +kernel
theorem dX9_rate_5 : decode cX9_rate 5 = .ok (.ifCond .ne 13, 3) := by decide +kernel
theorem dX9_rate_8 : decode cX9_rate 8 = .ok (.aload_n 0, 1) := by decide +kernel
theorem dX9_rate_9 : decode cX9_rate 9 = .ok (.getfield 88, 3) := by decide +kernel
theorem dX9_rate_12 : decode cX9_rate 12 = .ok (.sipush 999, 3) := by decide +kernel
theorem dX9_rate_15 : decode cX9_rate 15 = .ok (.if_icmp .le 7, 3) := by decide +kernel
theorem dX9_rate_18 : decode cX9_rate 18 = .ok (.iconst 1, 1) := by decide +kernel
theorem dX9_rate_19 : decode cX9_rate 19 = .ok (.goto 4, 3) := by decide +kernel
theorem dX9_rate_22 : decode cX9_rate 22 = .ok (.iconst 0, 1) := by decide +kernel
theorem dX9_rate_23 : decode cX9_rate 23 = .ok (.putfield 91, 3) := by decide +kernel
theorem dX9_rate_26 : decode cX9_rate 26 = .ok (.return_, 1) := by decide +kernel
theorem c_X9_rate {a0 : Nat} : CWp S N d MX9_rate [.ref a0] I J P Q ↔ Wp S N d MX9_rate 0 [some (.ref a0)] [] I J P Q := by
  rw [cwp_iff]
  exact ⟨fun h => h.2, fun h => ⟨Nat.le_of_ble_eq_true rfl, h⟩⟩
theorem e_X9_rate_0 {w : Nat} : Wp S N d MX9_rate 0 [some (.ref w)] [] I J P Q ↔ Wp S N d MX9_rate 1 [some (.ref w)] [.ref w] I J P Q := wp_lod (len := 1) rfl rfl rfl rfl dX9_rate_0
theorem e_X9_rate_1 {v0 : Nat} {w : Nat} : Wp S N d MX9_rate 1 [some (.ref w)] [.ref v0] I J P Q ↔ Wp S N d MX9_rate 2 [some (.ref w)] [.ref w, .ref v0] I J P Q := wp_lod (len := 1) rfl rfl rfl rfl dX9_rate_1
theorem e_X9_rate_2 {v0 : Nat} {v1 : Nat} {x0 : Option Value} : Wp S N d MX9_rate 2 [x0] [.ref v0, .ref v1] I J P Q ↔ S v0 = 9 ∧ Wp S N d MX9_rate 5 [x0] [.int (I v0 14), .ref v1] I J P Q := wp_getf rfl rfl rfl rfl dX9_rate_2
theorem e_X9_rate_5 {v0 : Int32} {v1 : Nat} {x0 : Option Value} : Wp S N d MX9_rate 5 [x0] [.int v0, .ref v1] I J P Q ↔ (¬ v0 = 0 → Wp S N d MX9_rate 18 [x0] [.ref v1] I J P Q) ∧ (v0 = 0 → Wp S N d MX9_rate 8 [x0] [.ref v1] I J P Q) := wp_brn rfl rfl (by decide) dX9_rate_5
theorem e_X9_rate_8 {v0 : Nat} {w : Nat} : Wp S N d MX9_rate 8 [some (.ref w)] [.ref v0] I J P Q ↔ Wp S N d MX9_rate 9 [some (.ref w)] [.ref w, .ref v0] I J P Q := wp_lod (len := 1) rfl rfl rfl rfl dX9_rate_8
theorem e_X9_rate_9 {v0 : Nat} {v1 : Nat} {x0 : Option Value} : Wp S N d MX9_rate 9 [x0] [.ref v0, .ref v1] I J P Q ↔ S v0 = 9 ∧ Wp S N d MX9_rate 12 [x0] [.int (I v0 12), .ref v1] I J P Q := wp_getf rfl rfl rfl rfl dX9_rate_9
theorem e_X9_rate_12 {v0 : Int32} {v1 : Nat} {x0 : Option Value} : Wp S N d MX9_rate 12 [x0] [.int v0, .ref v1] I J P Q ↔ Wp S N d MX9_rate 15 [x0] [.int 999, .int v0, .ref v1] I J P Q := wp_sipush (by decide) dX9_rate_12
theorem e_X9_rate_15 {v0 : Int32} {v1 : Int32} {v2 : Nat} {x0 : Option Value} : Wp S N d MX9_rate 15 [x0] [.int v0, .int v1, .ref v2] I J P Q ↔ (v1 ≤ v0 → Wp S N d MX9_rate 22 [x0] [.ref v2] I J P Q) ∧ (¬ v1 ≤ v0 → Wp S N d MX9_rate 18 [x0] [.ref v2] I J P Q) := wp_br rfl rfl (by decide) dX9_rate_15
theorem e_X9_rate_18 {v0 : Nat} {x0 : Option Value} : Wp S N d MX9_rate 18 [x0] [.ref v0] I J P Q ↔ Wp S N d MX9_rate 19 [x0] [.int 1, .ref v0] I J P Q := wp_iconst (by decide) dX9_rate_18
theorem e_X9_rate_19 {v0 : Int32} {v1 : Nat} {x0 : Option Value} : Wp S N d MX9_rate 19 [x0] [.int v0, .ref v1] I J P Q ↔ Wp S N d MX9_rate 23 [x0] [.int v0, .ref v1] I J P Q := wp_go (len := 3) rfl (fun _ _ => rfl) rfl (by decide) dX9_rate_19
theorem e_X9_rate_22 {v0 : Nat} {x0 : Option Value} : Wp S N d MX9_rate 22 [x0] [.ref v0] I J P Q ↔ Wp S N d MX9_rate 23 [x0] [.int 0, .ref v0] I J P Q := wp_iconst (by decide) dX9_rate_22
theorem e_X9_rate_23 {v0 : Int32} {v1 : Nat} (hb : isB v0) {x0 : Option Value} : Wp S N d MX9_rate 23 [x0] [.int v0, .ref v1] I J P Q ↔ S v1 = 9 ∧ Wp S N d MX9_rate 26 [x0] [] (u2 I v1 14 v0) J P Q := wp_putZ rfl rfl rfl rfl dX9_rate_23 hb
theorem e_X9_rate_26  {x0 : Option Value} : Wp S N d MX9_rate 26 [x0] [] I J P Q ↔ Q none I J P := wp_vret rfl dX9_rate_26
theorem dX9_brackets_0 : decode cX9_brackets 0 = .ok (.iconst 0, 1) := by decide +kernel
theorem dX9_brackets_1 : decode cX9_brackets 1 = .ok (.istore_n 1, 1) := by decide +kernel
theorem dX9_brackets_2 : decode cX9_brackets 2 = .ok (.iconst (-1), 1) := by decide +kernel
theorem dX9_brackets_3 : decode cX9_brackets 3 = .ok (.istore_n 2, 1) := by decide +kernel
theorem dX9_brackets_4 : decode cX9_brackets 4 = .ok (.aload_n 0, 1) := by decide +kernel
theorem dX9_brackets_5 : decode cX9_brackets 5 = .ok (.invokevirtual 94, 3) := by decide +kernel
theorem dX9_brackets_8 : decode cX9_brackets 8 = .ok (.ifCond .ne 5, 3) := by decide +kernel
theorem dX9_brackets_11 : decode cX9_brackets 11 = .ok (.iconst 0, 1) := by decide +kernel
theorem dX9_brackets_12 : decode cX9_brackets 12 = .ok (.ireturn, 1) := by decide +kernel
theorem dX9_brackets_13 : decode cX9_brackets 13 = .ok (.aload_n 0, 1) := by decide +kernel
theorem dX9_brackets_14 : decode cX9_brackets 14 = .ok (.aload_n 0, 1) := by decide +kernel
theorem dX9_brackets_15 : decode cX9_brackets 15 = .ok (.getfield 91, 3) := by decide +kernel
theorem dX9_brackets_18 : decode cX9_brackets 18 = .ok (.ifCond .ne 31, 3) := by decide +kernel
theorem dX9_brackets_21 : decode cX9_brackets 21 = .ok (.iload_n 1, 1) := by decide +kernel
theorem dX9_brackets_22 : decode cX9_brackets 22 = .ok (.bipush 6, 2) := by decide +kernel
theorem dX9_brackets_24 : decode cX9_brackets 24 = .ok (.if_icmp .eq 25, 3) := by decide +kernel
theorem dX9_brackets_27 : decode cX9_brackets 27 = .ok (.iload_n 1, 1) := by decide +kernel
theorem dX9_brackets_28 : decode cX9_brackets 28 = .ok (.ifCond .ne 13, 3) := by decide +kernel
theorem dX9_brackets_31 : decode cX9_brackets 31 = .ok (.aload_n 0, 1) := by decide +kernel
theorem dX9_brackets_32 : decode cX9_brackets 32 = .ok (.getfield 88, 3) := by decide +kernel
theorem dX9_brackets_35 : decode cX9_brackets 35 = .ok (.ifCond .eq 18, 3) := by decide +kernel
theorem dX9_brackets_38 : decode cX9_brackets 38 = .ok (.goto 11, 3) := by decide +kernel
theorem dX9_brackets_41 : decode cX9_brackets 41 = .ok (.aload_n 0, 1) := by decide +kernel
theorem dX9_brackets_42 : decode cX9_brackets 42 = .ok (.getfield 88, 3) := by decide +kernel
theorem dX9_brackets_45 : decode cX9_brackets 45 = .ok (.iload_n 2, 1) := by decide +kernel
theorem dX9_brackets_46 : decode cX9_brackets 46 = .ok (.if_icmp .gt 7, 3) := by decide +kernel
theorem dX9_brackets_49 : decode cX9_brackets 49 = .ok (.iconst 1, 1) := by decide +kernel
theorem dX9_brackets_50 : decode cX9_brackets 50 = .ok (.goto 4, 3) := by decide +kernel
theorem dX9_brackets_53 : decode cX9_brackets 53 = .ok (.iconst 0, 1) := by decide +kernel
theorem dX9_brackets_54 : decode cX9_brackets 54 = .ok (.putfield 91, 3) := by decide +kernel
theorem dX9_brackets_57 : decode cX9_brackets 57 = .ok (.aload_n 0, 1) := by decide +kernel
theorem dX9_brackets_58 : decode cX9_brackets 58 = .ok (.getfield 88, 3) := by decide +kernel
theorem dX9_brackets_61 : decode cX9_brackets 61 = .ok (.istore_n 2, 1) := by decide +kernel
theorem dX9_brackets_62 : decode cX9_brackets 62 = .ok (.aload_n 0, 1) := by decide +kernel
theorem dX9_brackets_63 : decode cX9_brackets 63 = .ok (.bipush 58, 2) := by decide +kernel
theorem dX9_brackets_65 : decode cX9_brackets 65 = .ok (.invokevirtual 97, 3) := by decide +kernel
theorem dX9_brackets_68 : decode cX9_brackets 68 = .ok (.ifCond .eq 10, 3) := by decide +kernel
theorem dX9_brackets_71 : decode cX9_brackets 71 = .ok (.aload_n 0, 1) := by decide +kernel
theorem dX9_brackets_72 : decode cX9_brackets 72 = .ok (.invokevirtual 94, 3) := by decide +kernel
theorem dX9_brackets_75 : decode cX9_brackets 75 = .ok (.ifCond .ne 5, 3) := by decide +kernel
theorem dX9_brackets_78 : decode cX9_brackets 78 = .ok (.iconst 0, 1) := by decide +kernel
theorem dX9_brackets_79 : decode cX9_brackets 79 = .ok (.ireturn, 1) := by decide +kernel
theorem dX9_brackets_80 : decode cX9_brackets 80 = .ok (.aload_n 0, 1) := by decide +kernel
theorem dX9_brackets_81 : decode cX9_brackets 81 = .ok (.invokevirtual 101, 3) := by decide +kernel
theorem dX9_brackets_84 : decode cX9_brackets 84 = .ok (.iload_n 1, 1) := by decide +kernel
theorem dX9_brackets_85 : decode cX9_brackets 85 = .ok (.bipush 6, 2) := by decide +kernel
theorem dX9_brackets_87 : decode cX9_brackets 87 = .ok (.if_icmp .ge 33, 3) := by decide +kernel
theorem dX9_brackets_90 : decode cX9_brackets 90 = .ok (.aload_n 0, 1) := by decide +kernel
theorem dX9_brackets_91 : decode cX9_brackets 91 = .ok (.getfield 36, 3) := by decide +kernel
theorem dX9_brackets_94 : decode cX9_brackets 94 = .ok (.iconst 1, 1) := by decide +kernel
theorem dX9_brackets_95 : decode cX9_brackets 95 = .ok (.iconst 2, 1) := by decide +kernel
theorem dX9_brackets_96 : decode cX9_brackets 96 = .ok (.iload_n 1, 1) := by decide +kernel
theorem dX9_brackets_97 : decode cX9_brackets 97 = .ok (.imul, 1) := by decide +kernel
theorem dX9_brackets_98 : decode cX9_brackets 98 = .ok (.iadd, 1) := by decide +kernel
theorem dX9_brackets_99 : decode cX9_brackets 99 = .ok (.iload_n 2, 1) := by decide +kernel
theorem dX9_brackets_100 : decode cX9_brackets 100 = .ok (.iastore, 1) := by decide +kernel
theorem dX9_brackets_101 : decode cX9_brackets 101 = .ok (.aload_n 0, 1) := by decide +kernel
theorem dX9_brackets_102 : decode cX9_brackets 102 = .ok (.getfield 36, 3) := by decide +kernel
theorem dX9_brackets_105 : decode cX9_brackets 105 = .ok (.iconst 1, 1) := by decide +kernel
theorem dX9_brackets_106 : decode cX9_brackets 106 = .ok (.iconst 2, 1) := by decide +kernel
theorem dX9_brackets_107 : decode cX9_brackets 107 = .ok (.iload_n 1, 1) := by decide +kernel
theorem dX9_brackets_108 : decode cX9_brackets 108 = .ok (.imul, 1) := by decide +kernel
theorem dX9_brackets_109 : decode cX9_brackets 109 = .ok (.iadd, 1) := by decide +kernel
theorem dX9_brackets_110 : decode cX9_brackets 110 = .ok (.iconst 1, 1) := by decide +kernel
theorem dX9_brackets_111 : decode cX9_brackets 111 = .ok (.iadd, 1) := by decide +kernel
theorem dX9_brackets_112 : decode cX9_brackets 112 = .ok (.aload_n 0, 1) := by decide +kernel
theorem dX9_brackets_113 : decode cX9_brackets 113 = .ok (.getfield 88, 3) := by decide +kernel
theorem dX9_brackets_116 : decode cX9_brackets 116 = .ok (.iastore, 1) := by decide +kernel
theorem dX9_brackets_117 : decode cX9_brackets 117 = .ok (.iinc 1 1, 3) := by decide +kernel
theorem dX9_brackets_120 : decode cX9_brackets 120 = .ok (.aload_n 0, 1) := by decide +kernel
theorem dX9_brackets_121 : decode cX9_brackets 121 = .ok (.bipush 44, 2) := by decide +kernel
theorem dX9_brackets_123 : decode cX9_brackets 123 = .ok (.invokevirtual 97, 3) := by decide +kernel
theorem dX9_brackets_126 : decode cX9_brackets 126 = .ok (.ifCond .ne (-122), 3) := by decide +kernel
theorem dX9_brackets_129 : decode cX9_brackets 129 = .ok (.aload_n 0, 1) := by decide +kernel
theorem dX9_brackets_130 : decode cX9_brackets 130 = .ok (.getfield 36, 3) := by decide +kernel
theorem dX9_brackets_133 : decode cX9_brackets 133 = .ok (.iconst 0, 1) := by decide +kernel
theorem dX9_brackets_134 : decode cX9_brackets 134 = .ok (.iload_n 1, 1) := by decide +kernel
theorem dX9_brackets_135 : decode cX9_brackets 135 = .ok (.iastore, 1) := by decide +kernel
theorem dX9_brackets_136 : decode cX9_brackets 136 = .ok (.iconst 1, 1) := by decide +kernel
theorem dX9_brackets_137 : decode cX9_brackets 137 = .ok (.ireturn, 1) := by decide +kernel
theorem c_X9_brackets {a0 : Nat} : CWp S N d MX9_brackets [.ref a0] I J P Q ↔ Wp S N d MX9_brackets 0 [some (.ref a0), none, none] [] I J P Q := by
  rw [cwp_iff]
  exact ⟨fun h => h.2, fun h => ⟨Nat.le_of_ble_eq_true rfl, h⟩⟩
theorem e_X9_brackets_0  {x0 x1 x2 : Option Value} : Wp S N d MX9_brackets 0 [x0, x1, x2] [] I J P Q ↔ Wp S N d MX9_brackets 1 [x0, x1, x2] [.int 0] I J P Q := wp_iconst (by decide) dX9_brackets_0
theorem e_X9_brackets_1 {v0 : Int32} {x0 x1 x2 : Option Value} : Wp S N d MX9_brackets 1 [x0, x1, x2] [.int v0] I J P Q ↔ Wp S N d MX9_brackets 2 [kl x0, some (.int v0), x2] [] I J P Q := wp_sto (len := 1) rfl rfl rfl rfl (Nat.le_of_ble_eq_true rfl) rfl dX9_brackets_1
theorem e_X9_brackets_2  {x0 x1 x2 : Option Value} : Wp S N d MX9_brackets 2 [x0, x1, x2] [] I J P Q ↔ Wp S N d MX9_brackets 3 [x0, x1, x2] [.int (-1)] I J P Q := wp_iconst (by decide) dX9_brackets_2
theorem e_X9_brackets_3 {v0 : Int32} {x0 x1 x2 : Option Value} : Wp S N d MX9_brackets 3 [x0, x1, x2] [.int v0] I J P Q ↔ Wp S N d MX9_brackets 4 [x0, kl x1, some (.int v0)] [] I J P Q := wp_sto (len := 1) rfl rfl rfl rfl (Nat.le_of_ble_eq_true rfl) rfl dX9_brackets_3
theorem e_X9_brackets_4 {w : Nat} {x1 x2 : Option Value} : Wp S N d MX9_brackets 4 [some (.ref w), x1, x2] [] I J P Q ↔ Wp S N d MX9_brackets 5 [some (.ref w), x1, x2] [.ref w] I J P Q := wp_lod (len := 1) rfl rfl rfl rfl dX9_brackets_4
theorem e_X9_brackets_5 {v0 : Nat} {x0 x1 x2 : Option Value} : Wp S N (d + 1) MX9_brackets 5 [x0, x1, x2] [.ref v0] I J P Q ↔ S v0 = 9 ∧ CWp S N d MX9_number [.ref v0] I J P (fun r I1 J1 P1 => Wp S N (d + 1) MX9_brackets 8 [x0, x1, x2] (r.toList ++ []) I1 J1 P1 Q) := wp_callV (M' := MX9_number) (As := []) rfl rfl rfl rfl (by decide) (Nat.le_of_ble_eq_true rfl) dX9_brackets_5
theorem e_X9_brackets_8 {v0 : Int32} {x0 x1 x2 : Option Value} : Wp S N d MX9_brackets 8 [x0, x1, x2] [.int v0] I J P Q ↔ (¬ v0 = 0 → Wp S N d MX9_brackets 13 [x0, x1, x2] [] I J P Q) ∧ (v0 = 0 → Wp S N d MX9_brackets 11 [x0, x1, x2] [] I J P Q) := wp_brn rfl rfl (by decide) dX9_brackets_8
theorem e_X9_brackets_11  {x0 x1 x2 : Option Value} : Wp S N d MX9_brackets 11 [x0, x1, x2] [] I J P Q ↔ Wp S N d MX9_brackets 12 [x0, x1, x2] [.int 0] I J P Q := wp_iconst (by decide) dX9_brackets_11
theorem e_X9_brackets_12 {v0 : Int32} (hb : isB v0) {x0 x1 x2 : Option Value} : Wp S N d MX9_brackets 12 [x0, x1, x2] [.int v0] I J P Q ↔ Q (some (.int v0)) I J P := wp_zret rfl dX9_brackets_12 hb
theorem e_X9_brackets_13 {w : Nat} {x1 x2 : Option Value} : Wp S N d MX9_brackets 13 [some (.ref w), x1, x2] [] I J P Q ↔ Wp S N d MX9_brackets 14 [some (.ref w), x1, x2] [.ref w] I J P Q := wp_lod (len := 1) rfl rfl rfl rfl dX9_brackets_13
theorem e_X9_brackets_14 {v0 : Nat} {w : Nat} {x1 x2 : Option Value} : Wp S N d MX9_brackets 14 [some (.ref w), x1, x2] [.ref v0] I J P Q ↔ Wp S N d MX9_brackets 15 [some (.ref w), x1, x2] [.ref w, .ref v0] I J P Q := wp_lod (len := 1) rfl rfl rfl rfl dX9_brackets_14
theorem e_X9_brackets_15 {v0 : Nat} {v1 : Nat} {x0 x1 x2 : Option Value} : Wp S N d MX9_brackets 15 [x0, x1, x2] [.ref v0, .ref v1] I J P Q ↔ S v0 = 9 ∧ Wp S N d MX9_brackets 18 [x0, x1, x2] [.int (I v0 14), .ref v1] I J P Q := wp_getf rfl rfl rfl rfl dX9_brackets_15
theorem e_X9_brackets_18 {v0 : Int32} {v1 : Nat} {x0 x1 x2 : Option Value} : Wp S N d MX9_brackets 18 [x0, x1, x2] [.int v0, .ref v1] I J P Q ↔ (¬ v0 = 0 → Wp S N d MX9_brackets 49 [x0, x1, x2] [.ref v1] I J P Q) ∧ (v0 = 0 → Wp S N d MX9_brackets 21 [x0, x1, x2] [.ref v1] I J P Q) := wp_brn rfl rfl (by decide) dX9_brackets_18
theorem e_X9_brackets_21 {v0 : Nat} {w : Int32} {x0 x2 : Option Value} : Wp S N d MX9_brackets 21 [x0, some (.int w), x2] [.ref v0] I J P Q ↔ Wp S N d MX9_brackets 22 [x0, some (.int w), x2] [.int w, .ref v0] I J P Q := wp_lod (len := 1) rfl rfl rfl rfl dX9_brackets_21
theorem e_X9_brackets_22 {v0 : Int32} {v1 : Nat} {x0 x1 x2 : Option Value} : Wp S N d MX9_brackets 22 [x0, x1, x2] [.int v0, .ref v1] I J P Q ↔ Wp S N d MX9_brackets 24 [x0, x1, x2] [.int 6, .int v0, .ref v1] I J P Q := wp_bipush (by decide) dX9_brackets_22
theorem e_X9_brackets_24 {v0 : Int32} {v1 : Int32} {v2 : Nat} {x0 x1 x2 : Option Value} : Wp S N d MX9_brackets 24 [x0, x1, x2] [.int v0, .int v1, .ref v2] I J P Q ↔ (v1 = v0 → Wp S N d MX9_brackets 49 [x0, x1, x2] [.ref v2] I J P Q) ∧ (¬ v1 = v0 → Wp S N d MX9_brackets 27 [x0, x1, x2] [.ref v2] I J P Q) := wp_br rfl rfl (by decide) dX9_brackets_24
theorem e_X9_brackets_27 {v0 : Nat} {w : Int32} {x0 x2 : Option Value} : Wp S N d MX9_brackets 27 [x0, some (.int w), x2] [.ref v0] I J P Q ↔ Wp S N d MX9_brackets 28 [x0, some (.int w), x2] [.int w, .ref v0] I J P Q := wp_lod (len := 1) rfl rfl rfl rfl dX9_brackets_27
theorem e_X9_brackets_28 {v0 : Int32} {v1 : Nat} {x0 x1 x2 : Option Value} : Wp S N d MX9_brackets 28 [x0, x1, x2] [.int v0, .ref v1] I J P Q ↔ (¬ v0 = 0 → Wp S N d MX9_brackets 41 [x0, x1, x2] [.ref v1] I J P Q) ∧ (v0 = 0 → Wp S N d MX9_brackets 31 [x0, x1, x2] [.ref v1] I J P Q) := wp_brn rfl rfl (by decide) dX9_brackets_28
theorem e_X9_brackets_31 {v0 : Nat} {w : Nat} {x1 x2 : Option Value} : Wp S N d MX9_brackets 31 [some (.ref w), x1, x2] [.ref v0] I J P Q ↔ Wp S N d MX9_brackets 32 [some (.ref w), x1, x2] [.ref w, .ref v0] I J P Q := wp_lod (len := 1) rfl rfl rfl rfl dX9_brackets_31
theorem e_X9_brackets_32 {v0 : Nat} {v1 : Nat} {x0 x1 x2 : Option Value} : Wp S N d MX9_brackets 32 [x0, x1, x2] [.ref v0, .ref v1] I J P Q ↔ S v0 = 9 ∧ Wp S N d MX9_brackets 35 [x0, x1, x2] [.int (I v0 12), .ref v1] I J P Q := wp_getf rfl rfl rfl rfl dX9_brackets_32
theorem e_X9_brackets_35 {v0 : Int32} {v1 : Nat} {x0 x1 x2 : Option Value} : Wp S N d MX9_brackets 35 [x0, x1, x2] [.int v0, .ref v1] I J P Q ↔ (v0 = 0 → Wp S N d MX9_brackets 53 [x0, x1, x2] [.ref v1] I J P Q) ∧ (¬ v0 = 0 → Wp S N d MX9_brackets 38 [x0, x1, x2] [.ref v1] I J P Q) := wp_br rfl rfl (by decide) dX9_brackets_35
theorem e_X9_brackets_38 {v0 : Nat} {x0 x1 x2 : Option Value} : Wp S N d MX9_brackets 38 [x0, x1, x2] [.ref v0] I J P Q ↔ Wp S N d MX9_brackets 49 [x0, x1, x2] [.ref v0] I J P Q := wp_go (len := 3) rfl (fun _ _ => rfl) rfl (by decide) dX9_brackets_38
theorem e_X9_brackets_41 {v0 : Nat} {w : Nat} {x1 x2 : Option Value} : Wp S N d MX9_brackets 41 [some (.ref w), x1, x2] [.ref v0] I J P Q ↔ Wp S N d MX9_brackets 42 [some (.ref w), x1, x2] [.ref w, .ref v0] I J P Q := wp_lod (len := 1) rfl rfl rfl rfl dX9_brackets_41
theorem e_X9_brackets_42 {v0 : Nat} {v1 : Nat} {x0 x1 x2 : Option Value} : Wp S N d MX9_brackets 42 [x0, x1, x2] [.ref v0, .ref v1] I J P Q ↔ S v0 = 9 ∧ Wp S N d MX9_brackets 45 [x0, x1, x2] [.int (I v0 12), .ref v1] I J P Q := wp_getf rfl rfl rfl rfl dX9_brackets_42
theorem e_X9_brackets_45 {v0 : Int32} {v1 : Nat} {w : Int32} {x0 x1 : Option Value} : Wp S N d MX9_brackets 45 [x0, x1, some (.int w)] [.int v0, .ref v1] I J P Q ↔ Wp S N d MX9_brackets 46 [x0, x1, some (.int w)] [.int w, .int v0, .ref v1] I J P Q := wp_lod (len := 1) rfl rfl rfl rfl dX9_brackets_45
theorem e_X9_brackets_46 {v0 : Int32} {v1 : Int32} {v2 : Nat} {x0 x1 x2 : Option Value} : Wp S N d MX9_brackets 46 [x0, x1, x2] [.int v0, .int v1, .ref v2] I J P Q ↔ (v0 < v1 → Wp S N d MX9_brackets 53 [x0, x1, x2] [.ref v2] I J P Q) ∧ (¬ v0 < v1 → Wp S N d MX9_brackets 49 [x0, x1, x2] [.ref v2] I J P Q) := wp_br rfl rfl (by decide) dX9_brackets_46
theorem e_X9_brackets_49 {v0 : Nat} {x0 x1 x2 : Option Value} : Wp S N d MX9_brackets 49 [x0, x1, x2] [.ref v0] I J P Q ↔ Wp S N d MX9_brackets 50 [x0, x1, x2] [.int 1, .ref v0] I J P Q := wp_iconst (by decide) dX9_brackets_49
theorem e_X9_brackets_50 {v0 : Int32} {v1 : Nat} {x0 x1 x2 : Option Value} : Wp S N d MX9_brackets 50 [x0, x1, x2] [.int v0, .ref v1] I J P Q ↔ Wp S N d MX9_brackets 54 [x0, x1, x2] [.int v0, .ref v1] I J P Q := wp_go (len := 3) rfl (fun _ _ => rfl) rfl (by decide) dX9_brackets_50
theorem e_X9_brackets_53 {v0 : Nat} {x0 x1 x2 : Option Value} : Wp S N d MX9_brackets 53 [x0, x1, x2] [.ref v0] I J P Q ↔ Wp S N d MX9_brackets 54 [x0, x1, x2] [.int 0, .ref v0] I J P Q := wp_iconst (by decide) dX9_brackets_53
theorem e_X9_brackets_54 {v0 : Int32} {v1 : Nat} (hb : isB v0) {x0 x1 x2 : Option Value} : Wp S N d MX9_brackets 54 [x0, x1, x2] [.int v0, .ref v1] I J P Q ↔ S v1 = 9 ∧ Wp S N d MX9_brackets 57 [x0, x1, x2] [] (u2 I v1 14 v0) J P Q := wp_putZ rfl rfl rfl rfl dX9_brackets_54 hb
theorem e_X9_brackets_57 {w : Nat} {x1 x2 : Option Value} : Wp S N d MX9_brackets 57 [some (.ref w), x1, x2] [] I J P Q ↔ Wp S N d MX9_brackets 58 [some (.ref w), x1, x2] [.ref w] I J P Q := wp_lod (len := 1) rfl rfl rfl rfl dX9_brackets_57
theorem e_X9_brackets_58 {v0 : Nat} {x0 x1 x2 : Option Value} : Wp S N d MX9_brackets 58 [x0, x1, x2] [.ref v0] I J P Q ↔ S v0 = 9 ∧ Wp S N d MX9_brackets 61 [x0, x1, x2] [.int (I v0 12)] I J P Q := wp_getf rfl rfl rfl rfl dX9_brackets_58
theorem e_X9_brackets_61 {v0 : Int32} {x0 x1 x2 : Option Value} : Wp S N d MX9_brackets 61 [x0, x1, x2] [.int v0] I J P Q ↔ Wp S N d MX9_brackets 62 [x0, kl x1, some (.int v0)] [] I J P Q := wp_sto (len := 1) rfl rfl rfl rfl (Nat.le_of_ble_eq_true rfl) rfl dX9_brackets_61
theorem e_X9_brackets_62 {w : Nat} {x1 x2 : Option Value} : Wp S N d MX9_brackets 62 [some (.ref w), x1, x2] [] I J P Q ↔ Wp S N d MX9_brackets 63 [some (.ref w), x1, x2] [.ref w] I J P Q := wp_lod (len := 1) rfl rfl rfl rfl dX9_brackets_62
theorem e_X9_brackets_63 {v0 : Nat} {x0 x1 x2 : Option Value} : Wp S N d MX9_brackets 63 [x0, x1, x2] [.ref v0] I J P Q ↔ Wp S N d MX9_brackets 65 [x0, x1, x2] [.int 58, .ref v0] I J P Q := wp_bipush (by decide) dX9_brackets_63
theorem e_X9_brackets_65 {v0 : Int32} {v1 : Nat} {x0 x1 x2 : Option Value} : Wp S N (d + 1) MX9_brackets 65 [x0, x1, x2] [.int v0, .ref v1] I J P Q ↔ S v1 = 9 ∧ CWp S N d MX9_skips [.ref v1, .int v0] I J P (fun r I1 J1 P1 => Wp S N (d + 1) MX9_brackets 68 [x0, x1, x2] (r.toList ++ []) I1 J1 P1 Q) := wp_callV (M' := MX9_skips) (As := [.int v0]) rfl rfl rfl rfl (by decide) (Nat.le_of_ble_eq_true rfl) dX9_brackets_65
theorem e_X9_brackets_68 {v0 : Int32} {x0 x1 x2 : Option Value} : Wp S N d MX9_brackets 68 [x0, x1, x2] [.int v0] I J P Q ↔ (v0 = 0 → Wp S N d MX9_brackets 78 [x0, x1, x2] [] I J P Q) ∧ (¬ v0 = 0 → Wp S N d MX9_brackets 71 [x0, x1, x2] [] I J P Q) := wp_br rfl rfl (by decide) dX9_brackets_68
theorem e_X9_brackets_71 {w : Nat} {x1 x2 : Option Value} : Wp S N d MX9_brackets 71 [some (.ref w), x1, x2] [] I J P Q ↔ Wp S N d MX9_brackets 72 [some (.ref w), x1, x2] [.ref w] I J P Q := wp_lod (len := 1) rfl rfl rfl rfl dX9_brackets_71
theorem e_X9_brackets_72 {v0 : Nat} {x0 x1 x2 : Option Value} : Wp S N (d + 1) MX9_brackets 72 [x0, x1, x2] [.ref v0] I J P Q ↔ S v0 = 9 ∧ CWp S N d MX9_number [.ref v0] I J P (fun r I1 J1 P1 => Wp S N (d + 1) MX9_brackets 75 [x0, x1, x2] (r.toList ++ []) I1 J1 P1 Q) := wp_callV (M' := MX9_number) (As := []) rfl rfl rfl rfl (by decide) (Nat.le_of_ble_eq_true rfl) dX9_brackets_72
theorem e_X9_brackets_75 {v0 : Int32} {x0 x1 x2 : Option Value} : Wp S N d MX9_brackets 75 [x0, x1, x2] [.int v0] I J P Q ↔ (¬ v0 = 0 → Wp S N d MX9_brackets 80 [x0, x1, x2] [] I J P Q) ∧ (v0 = 0 → Wp S N d MX9_brackets 78 [x0, x1, x2] [] I J P Q) := wp_brn rfl rfl (by decide) dX9_brackets_75
theorem e_X9_brackets_78  {x0 x1 x2 : Option Value} : Wp S N d MX9_brackets 78 [x0, x1, x2] [] I J P Q ↔ Wp S N d MX9_brackets 79 [x0, x1, x2] [.int 0] I J P Q := wp_iconst (by decide) dX9_brackets_78
theorem e_X9_brackets_79 {v0 : Int32} (hb : isB v0) {x0 x1 x2 : Option Value} : Wp S N d MX9_brackets 79 [x0, x1, x2] [.int v0] I J P Q ↔ Q (some (.int v0)) I J P := wp_zret rfl dX9_brackets_79 hb
theorem e_X9_brackets_80 {w : Nat} {x1 x2 : Option Value} : Wp S N d MX9_brackets 80 [some (.ref w), x1, x2] [] I J P Q ↔ Wp S N d MX9_brackets 81 [some (.ref w), x1, x2] [.ref w] I J P Q := wp_lod (len := 1) rfl rfl rfl rfl dX9_brackets_80
theorem e_X9_brackets_81 {v0 : Nat} {x0 x1 x2 : Option Value} : Wp S N (d + 1) MX9_brackets 81 [x0, x1, x2] [.ref v0] I J P Q ↔ S v0 = 9 ∧ CWp S N d MX9_rate [.ref v0] I J P (fun r I1 J1 P1 => Wp S N (d + 1) MX9_brackets 84 [x0, x1, x2] (r.toList ++ []) I1 J1 P1 Q) := wp_callV (M' := MX9_rate) (As := []) rfl rfl rfl rfl (by decide) (Nat.le_of_ble_eq_true rfl) dX9_brackets_81
theorem e_X9_brackets_84 {w : Int32} {x0 x2 : Option Value} : Wp S N d MX9_brackets 84 [x0, some (.int w), x2] [] I J P Q ↔ Wp S N d MX9_brackets 85 [x0, some (.int w), x2] [.int w] I J P Q := wp_lod (len := 1) rfl rfl rfl rfl dX9_brackets_84
theorem e_X9_brackets_85 {v0 : Int32} {x0 x1 x2 : Option Value} : Wp S N d MX9_brackets 85 [x0, x1, x2] [.int v0] I J P Q ↔ Wp S N d MX9_brackets 87 [x0, x1, x2] [.int 6, .int v0] I J P Q := wp_bipush (by decide) dX9_brackets_85
theorem e_X9_brackets_87 {v0 : Int32} {v1 : Int32} {x0 x1 x2 : Option Value} : Wp S N d MX9_brackets 87 [x0, x1, x2] [.int v0, .int v1] I J P Q ↔ (v0 ≤ v1 → Wp S N d MX9_brackets 120 [x0, x1, x2] [] I J P Q) ∧ (¬ v0 ≤ v1 → Wp S N d MX9_brackets 90 [x0, x1, x2] [] I J P Q) := wp_br rfl rfl (by decide) dX9_brackets_87
theorem e_X9_brackets_90 {w : Nat} {x1 x2 : Option Value} : Wp S N d MX9_brackets 90 [some (.ref w), x1, x2] [] I J P Q ↔ Wp S N d MX9_brackets 91 [some (.ref w), x1, x2] [.ref w] I J P Q := wp_lod (len := 1) rfl rfl rfl rfl dX9_brackets_90
theorem e_X9_brackets_91 {v0 : Nat} {x0 x1 x2 : Option Value} : Wp S N d MX9_brackets 91 [x0, x1, x2] [.ref v0] I J P Q ↔ S v0 = 9 ∧ Wp S N d MX9_brackets 94 [x0, x1, x2] [va_rf (P v0 15)] I J P Q := wp_getf rfl rfl rfl rfl dX9_brackets_91
theorem e_X9_brackets_94 {v0 : Nat} {x0 x1 x2 : Option Value} : Wp S N d MX9_brackets 94 [x0, x1, x2] [.ref v0] I J P Q ↔ Wp S N d MX9_brackets 95 [x0, x1, x2] [.int 1, .ref v0] I J P Q := wp_iconst (by decide) dX9_brackets_94
theorem e_X9_brackets_95 {v0 : Int32} {v1 : Nat} {x0 x1 x2 : Option Value} : Wp S N d MX9_brackets 95 [x0, x1, x2] [.int v0, .ref v1] I J P Q ↔ Wp S N d MX9_brackets 96 [x0, x1, x2] [.int 2, .int v0, .ref v1] I J P Q := wp_iconst (by decide) dX9_brackets_95
theorem e_X9_brackets_96 {v0 : Int32} {v1 : Int32} {v2 : Nat} {w : Int32} {x0 x2 : Option Value} : Wp S N d MX9_brackets 96 [x0, some (.int w), x2] [.int v0, .int v1, .ref v2] I J P Q ↔ Wp S N d MX9_brackets 97 [x0, some (.int w), x2] [.int w, .int v0, .int v1, .ref v2] I J P Q := wp_lod (len := 1) rfl rfl rfl rfl dX9_brackets_96
theorem e_X9_brackets_97 {v0 : Int32} {v1 : Int32} {v2 : Int32} {v3 : Nat} {x0 x1 x2 : Option Value} : Wp S N d MX9_brackets 97 [x0, x1, x2] [.int v0, .int v1, .int v2, .ref v3] I J P Q ↔ Wp S N d MX9_brackets 98 [x0, x1, x2] [.int (v1 * v0), .int v2, .ref v3] I J P Q := wp_alu (len := 1) rfl rfl rfl dX9_brackets_97
theorem e_X9_brackets_98 {v0 : Int32} {v1 : Int32} {v2 : Nat} {x0 x1 x2 : Option Value} : Wp S N d MX9_brackets 98 [x0, x1, x2] [.int v0, .int v1, .ref v2] I J P Q ↔ Wp S N d MX9_brackets 99 [x0, x1, x2] [.int (v1 + v0), .ref v2] I J P Q := wp_alu (len := 1) rfl rfl rfl dX9_brackets_98
theorem e_X9_brackets_99 {v0 : Int32} {v1 : Nat} {w : Int32} {x0 x1 : Option Value} : Wp S N d MX9_brackets 99 [x0, x1, some (.int w)] [.int v0, .ref v1] I J P Q ↔ Wp S N d MX9_brackets 100 [x0, x1, some (.int w)] [.int w, .int v0, .ref v1] I J P Q := wp_lod (len := 1) rfl rfl rfl rfl dX9_brackets_99
theorem e_X9_brackets_100 {v0 : Int32} {v1 : Int32} {v2 : Nat} {x0 x1 x2 : Option Value} : Wp S N d MX9_brackets 100 [x0, x1, x2] [.int v0, .int v1, .ref v2] I J P Q ↔ (S v2 = 10 ∧ vp_in v1 (N v2)) ∧ Wp S N d MX9_brackets 101 [x0, x1, x2] [] (u2 I v2 v1.toNatClampNeg v0) J P Q := wp_ast rfl rfl dX9_brackets_100
theorem e_X9_brackets_101 {w : Nat} {x1 x2 : Option Value} : Wp S N d MX9_brackets 101 [some (.ref w), x1, x2] [] I J P Q ↔ Wp S N d MX9_brackets 102 [some (.ref w), x1, x2] [.ref w] I J P Q := wp_lod (len := 1) rfl rfl rfl rfl dX9_brackets_101
theorem e_X9_brackets_102 {v0 : Nat} {x0 x1 x2 : Option Value} : Wp S N d MX9_brackets 102 [x0, x1, x2] [.ref v0] I J P Q ↔ S v0 = 9 ∧ Wp S N d MX9_brackets 105 [x0, x1, x2] [va_rf (P v0 15)] I J P Q := wp_getf rfl rfl rfl rfl dX9_brackets_102
theorem e_X9_brackets_105 {v0 : Nat} {x0 x1 x2 : Option Value} : Wp S N d MX9_brackets 105 [x0, x1, x2] [.ref v0] I J P Q ↔ Wp S N d MX9_brackets 106 [x0, x1, x2] [.int 1, .ref v0] I J P Q := wp_iconst (by decide) dX9_brackets_105
theorem e_X9_brackets_106 {v0 : Int32} {v1 : Nat} {x0 x1 x2 : Option Value} : Wp S N d MX9_brackets 106 [x0, x1, x2] [.int v0, .ref v1] I J P Q ↔ Wp S N d MX9_brackets 107 [x0, x1, x2] [.int 2, .int v0, .ref v1] I J P Q := wp_iconst (by decide) dX9_brackets_106
theorem e_X9_brackets_107 {v0 : Int32} {v1 : Int32} {v2 : Nat} {w : Int32} {x0 x2 : Option Value} : Wp S N d MX9_brackets 107 [x0, some (.int w), x2] [.int v0, .int v1, .ref v2] I J P Q ↔ Wp S N d MX9_brackets 108 [x0, some (.int w), x2] [.int w, .int v0, .int v1, .ref v2] I J P Q := wp_lod (len := 1) rfl rfl rfl rfl dX9_brackets_107
theorem e_X9_brackets_108 {v0 : Int32} {v1 : Int32} {v2 : Int32} {v3 : Nat} {x0 x1 x2 : Option Value} : Wp S N d MX9_brackets 108 [x0, x1, x2] [.int v0, .int v1, .int v2, .ref v3] I J P Q ↔ Wp S N d MX9_brackets 109 [x0, x1, x2] [.int (v1 * v0), .int v2, .ref v3] I J P Q := wp_alu (len := 1) rfl rfl rfl dX9_brackets_108
theorem e_X9_brackets_109 {v0 : Int32} {v1 : Int32} {v2 : Nat} {x0 x1 x2 : Option Value} : Wp S N d MX9_brackets 109 [x0, x1, x2] [.int v0, .int v1, .ref v2] I J P Q ↔ Wp S N d MX9_brackets 110 [x0, x1, x2] [.int (v1 + v0), .ref v2] I J P Q := wp_alu (len := 1) rfl rfl rfl dX9_brackets_109
theorem e_X9_brackets_110 {v0 : Int32} {v1 : Nat} {x0 x1 x2 : Option Value} : Wp S N d MX9_brackets 110 [x0, x1, x2] [.int v0, .ref v1] I J P Q ↔ Wp S N d MX9_brackets 111 [x0, x1, x2] [.int 1, .int v0, .ref v1] I J P Q := wp_iconst (by decide) dX9_brackets_110
theorem e_X9_brackets_111 {v0 : Int32} {v1 : Int32} {v2 : Nat} {x0 x1 x2 : Option Value} : Wp S N d MX9_brackets 111 [x0, x1, x2] [.int v0, .int v1, .ref v2] I J P Q ↔ Wp S N d MX9_brackets 112 [x0, x1, x2] [.int (v1 + v0), .ref v2] I J P Q := wp_alu (len := 1) rfl rfl rfl dX9_brackets_111
theorem e_X9_brackets_112 {v0 : Int32} {v1 : Nat} {w : Nat} {x1 x2 : Option Value} : Wp S N d MX9_brackets 112 [some (.ref w), x1, x2] [.int v0, .ref v1] I J P Q ↔ Wp S N d MX9_brackets 113 [some (.ref w), x1, x2] [.ref w, .int v0, .ref v1] I J P Q := wp_lod (len := 1) rfl rfl rfl rfl dX9_brackets_112
theorem e_X9_brackets_113 {v0 : Nat} {v1 : Int32} {v2 : Nat} {x0 x1 x2 : Option Value} : Wp S N d MX9_brackets 113 [x0, x1, x2] [.ref v0, .int v1, .ref v2] I J P Q ↔ S v0 = 9 ∧ Wp S N d MX9_brackets 116 [x0, x1, x2] [.int (I v0 12), .int v1, .ref v2] I J P Q := wp_getf rfl rfl rfl rfl dX9_brackets_113
theorem e_X9_brackets_116 {v0 : Int32} {v1 : Int32} {v2 : Nat} {x0 x1 x2 : Option Value} : Wp S N d MX9_brackets 116 [x0, x1, x2] [.int v0, .int v1, .ref v2] I J P Q ↔ (S v2 = 10 ∧ vp_in v1 (N v2)) ∧ Wp S N d MX9_brackets 117 [x0, x1, x2] [] (u2 I v2 v1.toNatClampNeg v0) J P Q := wp_ast rfl rfl dX9_brackets_116
theorem e_X9_brackets_117 {w : Int32} {x0 x2 : Option Value} : Wp S N d MX9_brackets 117 [x0, some (.int w), x2] [] I J P Q ↔ Wp S N d MX9_brackets 120 [kl x0, some (.int (w + 1)), x2] [] I J P Q := wp_inc rfl rfl dX9_brackets_117
theorem e_X9_brackets_120 {w : Nat} {x1 x2 : Option Value} : Wp S N d MX9_brackets 120 [some (.ref w), x1, x2] [] I J P Q ↔ Wp S N d MX9_brackets 121 [some (.ref w), x1, x2] [.ref w] I J P Q := wp_lod (len := 1) rfl rfl rfl rfl dX9_brackets_120
theorem e_X9_brackets_121 {v0 : Nat} {x0 x1 x2 : Option Value} : Wp S N d MX9_brackets 121 [x0, x1, x2] [.ref v0] I J P Q ↔ Wp S N d MX9_brackets 123 [x0, x1, x2] [.int 44, .ref v0] I J P Q := wp_bipush (by decide) dX9_brackets_121
theorem e_X9_brackets_123 {v0 : Int32} {v1 : Nat} {x0 x1 x2 : Option Value} : Wp S N (d + 1) MX9_brackets 123 [x0, x1, x2] [.int v0, .ref v1] I J P Q ↔ S v1 = 9 ∧ CWp S N d MX9_skips [.ref v1, .int v0] I J P (fun r I1 J1 P1 => Wp S N (d + 1) MX9_brackets 126 [x0, x1, x2] (r.toList ++ []) I1 J1 P1 Q) := wp_callV (M' := MX9_skips) (As := [.int v0]) rfl rfl rfl rfl (by decide) (Nat.le_of_ble_eq_true rfl) dX9_brackets_123
theorem e_X9_brackets_126 {v0 : Int32} {x0 x1 x2 : Option Value} : Wp S N d MX9_brackets 126 [x0, x1, x2] [.int v0] I J P Q ↔ (¬ v0 = 0 → Wp S N d MX9_brackets 4 [x0, x1, x2] [] I J P Q) ∧ (v0 = 0 → Wp S N d MX9_brackets 129 [x0, x1, x2] [] I J P Q) := wp_brn rfl rfl (by decide) dX9_brackets_126
theorem e_X9_brackets_129 {w : Nat} {x1 x2 : Option Value} : Wp S N d MX9_brackets 129 [some (.ref w), x1, x2] [] I J P Q ↔ Wp S N d MX9_brackets 130 [some (.ref w), x1, x2] [.ref w] I J P Q := wp_lod (len := 1) rfl rfl rfl rfl dX9_brackets_129
theorem e_X9_brackets_130 {v0 : Nat} {x0 x1 x2 : Option Value} : Wp S N d MX9_brackets 130 [x0, x1, x2] [.ref v0] I J P Q ↔ S v0 = 9 ∧ Wp S N d MX9_brackets 133 [x0, x1, x2] [va_rf (P v0 15)] I J P Q := wp_getf rfl rfl rfl rfl dX9_brackets_130
theorem e_X9_brackets_133 {v0 : Nat} {x0 x1 x2 : Option Value} : Wp S N d MX9_brackets 133 [x0, x1, x2] [.ref v0] I J P Q ↔ Wp S N d MX9_brackets 134 [x0, x1, x2] [.int 0, .ref v0] I J P Q := wp_iconst (by decide) dX9_brackets_133
theorem e_X9_brackets_134 {v0 : Int32} {v1 : Nat} {w : Int32} {x0 x2 : Option Value} : Wp S N d MX9_brackets 134 [x0, some (.int w), x2] [.int v0, .ref v1] I J P Q ↔ Wp S N d MX9_brackets 135 [x0, some (.int w), x2] [.int w, .int v0, .ref v1] I J P Q := wp_lod (len := 1) rfl rfl rfl rfl dX9_brackets_134
theorem e_X9_brackets_135 {v0 : Int32} {v1 : Int32} {v2 : Nat} {x0 x1 x2 : Option Value} : Wp S N d MX9_brackets 135 [x0, x1, x2] [.int v0, .int v1, .ref v2] I J P Q ↔ (S v2 = 10 ∧ vp_in v1 (N v2)) ∧ Wp S N d MX9_brackets 136 [x0, x1, x2] [] (u2 I v2 v1.toNatClampNeg v0) J P Q := wp_ast rfl rfl dX9_brackets_135
theorem e_X9_brackets_136  {x0 x1 x2 : Option Value} : Wp S N d MX9_brackets 136 [x0, x1, x2] [] I J P Q ↔ Wp S N d MX9_brackets 137 [x0, x1, x2] [.int 1] I J P Q := wp_iconst (by decide) dX9_brackets_136
theorem e_X9_brackets_137 {v0 : Int32} (hb : isB v0) {x0 x1 x2 : Option Value} : Wp S N d MX9_brackets 137 [x0, x1, x2] [.int v0] I J P Q ↔ Q (some (.int v0)) I J P := wp_zret rfl dX9_brackets_137 hb
theorem dX9_numbers_0 : decode cX9_numbers 0 = .ok (.iconst 0, 1) := by decide +kernel
theorem dX9_numbers_1 : decode cX9_numbers 1 = .ok (.istore 4, 2) := by decide +kernel
theorem dX9_numbers_3 : decode cX9_numbers 3 = .ok (.iload 4, 2) := by decide +kernel
theorem dX9_numbers_5 : decode cX9_numbers 5 = .ok (.iload_n 2, 1) := by decide +kernel
theorem dX9_numbers_6 : decode cX9_numbers 6 = .ok (.if_icmp .ge 63, 3) := by decide +kernel
theorem dX9_numbers_9 : decode cX9_numbers 9 = .ok (.iload 4, 2) := by decide +kernel
theorem dX9_numbers_11 : decode cX9_numbers 11 = .ok (.ifCond .le 12, 3) := by decide +kernel
theorem dX9_numbers_14 : decode cX9_numbers 14 = .ok (.aload_n 0, 1) := by decide +kernel
theorem dX9_numbers_15 : decode cX9_numbers 15 = .ok (.bipush 44, 2) := by decide +kernel
theorem dX9_numbers_17 : decode cX9_numbers 17 = .ok (.invokevirtual 97, 3) := by decide +kernel
theorem dX9_numbers_20 : decode cX9_numbers 20 = .ok (.ifCond .eq 10, 3) := by decide +kernel
theorem dX9_numbers_23 : decode cX9_numbers 23 = .ok (.aload_n 0, 1) := by decide +kernel
theorem dX9_numbers_24 : decode cX9_numbers 24 = .ok (.invokevirtual 94, 3) := by decide +kernel
theorem dX9_numbers_27 : decode cX9_numbers 27 = .ok (.ifCond .ne 5, 3) := by decide +kernel
theorem dX9_numbers_30 : decode cX9_numbers 30 = .ok (.iconst 0, 1) := by decide +kernel
theorem dX9_numbers_31 : decode cX9_numbers 31 = .ok (.ireturn, 1) := by decide +kernel
theorem dX9_numbers_32 : decode cX9_numbers 32 = .ok (.iload_n 3, 1) := by decide +kernel
theorem dX9_numbers_33 : decode cX9_numbers 33 = .ok (.iload 4, 2) := by decide +kernel
theorem dX9_numbers_35 : decode cX9_numbers 35 = .ok (.ishr, 1) := by decide +kernel
theorem dX9_numbers_36 : decode cX9_numbers 36 = .ok (.iconst 1, 1) := by decide +kernel
theorem dX9_numbers_37 : decode cX9_numbers 37 = .ok (.iand, 1) := by decide +kernel
theorem dX9_numbers_38 : decode cX9_numbers 38 = .ok (.iconst 1, 1) := by decide +kernel
theorem dX9_numbers_39 : decode cX9_numbers 39 = .ok (.if_icmp .ne 7, 3) := by decide +kernel
theorem dX9_numbers_42 : decode cX9_numbers 42 = .ok (.aload_n 0, 1) := by decide +kernel
theorem dX9_numbers_43 : decode cX9_numbers 43 = .ok (.invokevirtual 101, 3) := by decide +kernel
theorem dX9_numbers_46 : decode cX9_numbers 46 = .ok (.iload_n 1, 1) := by decide +kernel
theorem dX9_numbers_47 : decode cX9_numbers 47 = .ok (.ifCond .le 16, 3) := by decide +kernel
theorem dX9_numbers_50 : decode cX9_numbers 50 = .ok (.aload_n 0, 1) := by decide +kernel
theorem dX9_numbers_51 : decode cX9_numbers 51 = .ok (.getfield 36, 3) := by decide +kernel
theorem dX9_numbers_54 : decode cX9_numbers 54 = .ok (.iload_n 1, 1) := by decide +kernel
theorem dX9_numbers_55 : decode cX9_numbers 55 = .ok (.iload 4, 2) := by decide +kernel
theorem dX9_numbers_57 : decode cX9_numbers 57 = .ok (.iadd, 1) := by decide +kernel
theorem dX9_numbers_58 : decode cX9_numbers 58 = .ok (.aload_n 0, 1) := by decide +kernel
theorem dX9_numbers_59 : decode cX9_numbers 59 = .ok (.getfield 88, 3) := by decide +kernel
theorem dX9_numbers_62 : decode cX9_numbers 62 = .ok (.iastore, 1) := by decide +kernel
theorem dX9_numbers_63 : decode cX9_numbers 63 = .ok (.iinc 4 1, 3) := by decide +kernel
theorem dX9_numbers_66 : decode cX9_numbers 66 = .ok (.goto (-63), 3) := by decide +kernel
theorem dX9_numbers_69 : decode cX9_numbers 69 = .ok (.iconst 1, 1) := by decide +kernel
theorem dX9_numbers_70 : decode cX9_numbers 70 = .ok (.ireturn, 1) := by decide +kernel
theorem c_X9_numbers {a0 : Nat} {a1 : Int32} {a2 : Int32} {a3 : Int32} : CWp S N d MX9_numbers [.ref a0, .int a1, .int a2, .int a3] I J P Q ↔ Wp S N d MX9_numbers 0 [some (.ref a0), some (.int a1), some (.int a2), some (.int a3), none] [] I J P Q := by
  rw [cwp_iff]
  exact ⟨fun h => h.2, fun h => ⟨Nat.le_of_ble_eq_true rfl, h⟩⟩
theorem e_X9_numbers_0  {x0 x1 x2 x3 x4 : Option Value} : Wp S N d MX9_numbers 0 [x0, x1, x2, x3, x4] [] I J P Q ↔ Wp S N d MX9_numbers 1 [x0, x1, x2, x3, x4] [.int 0] I J P Q := wp_iconst (by decide) dX9_numbers_0
theorem e_X9_numbers_1 {v0 : Int32} {x0 x1 x2 x3 x4 : Option Value} : Wp S N d MX9_numbers 1 [x0, x1, x2, x3, x4] [.int v0] I J P Q ↔ Wp S N d MX9_numbers 3 [x0, x1, x2, kl x3, some (.int v0)] [] I J P Q := wp_sto (len := 2) rfl rfl rfl rfl (Nat.le_of_ble_eq_true rfl) rfl dX9_numbers_1
theorem e_X9_numbers_3 {w : Int32} {x0 x1 x2 x3 : Option Value} : Wp S N d MX9_numbers 3 [x0, x1, x2, x3, some (.int w)] [] I J P Q ↔ Wp S N d MX9_numbers 5 [x0, x1, x2, x3, some (.int w)] [.int w] I J P Q := wp_lod (len := 2) rfl rfl rfl rfl dX9_numbers_3
theorem e_X9_numbers_5 {v0 : Int32} {w : Int32} {x0 x1 x3 x4 : Option Value} : Wp S N d MX9_numbers 5 [x0, x1, some (.int w), x3, x4] [.int v0] I J P Q ↔ Wp S N d MX9_numbers 6 [x0, x1, some (.int w), x3, x4] [.int w, .int v0] I J P Q := wp_lod (len := 1) rfl rfl rfl rfl dX9_numbers_5
theorem e_X9_numbers_6 {v0 : Int32} {v1 : Int32} {x0 x1 x2 x3 x4 : Option Value} : Wp S N d MX9_numbers 6 [x0, x1, x2, x3, x4] [.int v0, .int v1] I J P Q ↔ (v0 ≤ v1 → Wp S N d MX9_numbers 69 [x0, x1, x2, x3, x4] [] I J P Q) ∧ (¬ v0 ≤ v1 → Wp S N d MX9_numbers 9 [x0, x1, x2, x3, x4] [] I J P Q) := wp_br rfl rfl (by decide) dX9_numbers_6
theorem e_X9_numbers_9 {w : Int32} {x0 x1 x2 x3 : Option Value} : Wp S N d MX9_numbers 9 [x0, x1, x2, x3, some (.int w)] [] I J P Q ↔ Wp S N d MX9_numbers 11 [x0, x1, x2, x3, some (.int w)] [.int w] I J P Q := wp_lod (len := 2) rfl rfl rfl rfl dX9_numbers_9
theorem e_X9_numbers_11 {v0 : Int32} {x0 x1 x2 x3 x4 : Option Value} : Wp S N d MX9_numbers 11 [x0, x1, x2, x3, x4] [.int v0] I J P Q ↔ (v0 ≤ 0 → Wp S N d MX9_numbers 23 [x0, x1, x2, x3, x4] [] I J P Q) ∧ (¬ v0 ≤ 0 → Wp S N d MX9_numbers 14 [x0, x1, x2, x3, x4] [] I J P Q) := wp_br rfl rfl (by decide) dX9_numbers_11
theorem e_X9_numbers_14 {w : Nat} {x1 x2 x3 x4 : Option Value} : Wp S N d MX9_numbers 14 [some (.ref w), x1, x2, x3, x4] [] I J P Q ↔ Wp S N d MX9_numbers 15 [some (.ref w), x1, x2, x3, x4] [.ref w] I J P Q := wp_lod (len := 1) rfl rfl rfl rfl dX9_numbers_14
theorem e_X9_numbers_15 {v0 : Nat} {x0 x1 x2 x3 x4 : Option Value} : Wp S N d MX9_numbers 15 [x0, x1, x2, x3, x4] [.ref v0] I J P Q ↔ Wp S N d MX9_numbers 17 [x0, x1, x2, x3, x4] [.int 44, .ref v0] I J P Q := wp_bipush (by decide) dX9_numbers_15
theorem e_X9_numbers_17 {v0 : Int32} {v1 : Nat} {x0 x1 x2 x3 x4 : Option Value} : Wp S N (d + 1) MX9_numbers 17 [x0, x1, x2, x3, x4] [.int v0, .ref v1] I J P Q ↔ S v1 = 9 ∧ CWp S N d MX9_skips [.ref v1, .int v0] I J P (fun r I1 J1 P1 => Wp S N (d + 1) MX9_numbers 20 [x0, x1, x2, x3, x4] (r.toList ++ []) I1 J1 P1 Q) := wp_callV (M' := MX9_skips) (As := [.int v0]) rfl rfl rfl rfl (by decide) (Nat.le_of_ble_eq_true rfl) dX9_numbers_17
theorem e_X9_numbers_20 {v0 : Int32} {x0 x1 x2 x3 x4 : Option Value} : Wp S N d MX9_numbers 20 [x0, x1, x2, x3, x4] [.int v0] I J P Q ↔ (v0 = 0 → Wp S N d MX9_numbers 30 [x0, x1, x2, x3, x4] [] I J P Q) ∧ (¬ v0 = 0 → Wp S N d MX9_numbers 23 [x0, x1, x2, x3, x4] [] I J P Q) := wp_br rfl rfl (by decide) dX9_numbers_20
theorem e_X9_numbers_23 {w : Nat} {x1 x2 x3 x4 : Option Value} : Wp S N d MX9_numbers 23 [some (.ref w), x1, x2, x3, x4] [] I J P Q ↔ Wp S N d MX9_numbers 24 [some (.ref w), x1, x2, x3, x4] [.ref w] I J P Q := wp_lod (len := 1) rfl rfl rfl rfl dX9_numbers_23
theorem e_X9_numbers_24 {v0 : Nat} {x0 x1 x2 x3 x4 : Option Value} : Wp S N (d + 1) MX9_numbers 24 [x0, x1, x2, x3, x4] [.ref v0] I J P Q ↔ S v0 = 9 ∧ CWp S N d MX9_number [.ref v0] I J P (fun r I1 J1 P1 => Wp S N (d + 1) MX9_numbers 27 [x0, x1, x2, x3, x4] (r.toList ++ []) I1 J1 P1 Q) := wp_callV (M' := MX9_number) (As := []) rfl rfl rfl rfl (by decide) (Nat.le_of_ble_eq_true rfl) dX9_numbers_24
theorem e_X9_numbers_27 {v0 : Int32} {x0 x1 x2 x3 x4 : Option Value} : Wp S N d MX9_numbers 27 [x0, x1, x2, x3, x4] [.int v0] I J P Q ↔ (¬ v0 = 0 → Wp S N d MX9_numbers 32 [x0, x1, x2, x3, x4] [] I J P Q) ∧ (v0 = 0 → Wp S N d MX9_numbers 30 [x0, x1, x2, x3, x4] [] I J P Q) := wp_brn rfl rfl (by decide) dX9_numbers_27
theorem e_X9_numbers_30  {x0 x1 x2 x3 x4 : Option Value} : Wp S N d MX9_numbers 30 [x0, x1, x2, x3, x4] [] I J P Q ↔ Wp S N d MX9_numbers 31 [x0, x1, x2, x3, x4] [.int 0] I J P Q := wp_iconst (by decide) dX9_numbers_30
theorem e_X9_numbers_31 {v0 : Int32} (hb : isB v0) {x0 x1 x2 x3 x4 : Option Value} : Wp S N d MX9_numbers 31 [x0, x1, x2, x3, x4] [.int v0] I J P Q ↔ Q (some (.int v0)) I J P := wp_zret rfl dX9_numbers_31 hb
theorem e_X9_numbers_32 {w : Int32} {x0 x1 x2 x4 : Option Value} : Wp S N d MX9_numbers 32 [x0, x1, x2, some (.int w), x4] [] I J P Q ↔ Wp S N d MX9_numbers 33 [x0, x1, x2, some (.int w), x4] [.int w] I J P Q := wp_lod (len := 1) rfl rfl rfl rfl dX9_numbers_32
theorem e_X9_numbers_33 {v0 : Int32} {w : Int32} {x0 x1 x2 x3 : Option Value} : Wp S N d MX9_numbers 33 [x0, x1, x2, x3, some (.int w)] [.int v0] I J P Q ↔ Wp S N d MX9_numbers 35 [x0, x1, x2, x3, some (.int w)] [.int w, .int v0] I J P Q := wp_lod (len := 2) rfl rfl rfl rfl dX9_numbers_33
theorem e_X9_numbers_35 {v0 : Int32} {v1 : Int32} {x0 x1 x2 x3 x4 : Option Value} : Wp S N d MX9_numbers 35 [x0, x1, x2, x3, x4] [.int v0, .int v1] I J P Q ↔ Wp S N d MX9_numbers 36 [x0, x1, x2, x3, x4] [.int (v1 >>> (v0 &&& 31))] I J P Q := wp_alu (len := 1) rfl rfl rfl dX9_numbers_35
theorem e_X9_numbers_36 {v0 : Int32} {x0 x1 x2 x3 x4 : Option Value} : Wp S N d MX9_numbers 36 [x0, x1, x2, x3, x4] [.int v0] I J P Q ↔ Wp S N d MX9_numbers 37 [x0, x1, x2, x3, x4] [.int 1, .int v0] I J P Q := wp_iconst (by decide) dX9_numbers_36
theorem e_X9_numbers_37 {v0 : Int32} {v1 : Int32} {x0 x1 x2 x3 x4 : Option Value} : Wp S N d MX9_numbers 37 [x0, x1, x2, x3, x4] [.int v0, .int v1] I J P Q ↔ Wp S N d MX9_numbers 38 [x0, x1, x2, x3, x4] [.int (v1 &&& v0)] I J P Q := wp_alu (len := 1) rfl rfl rfl dX9_numbers_37
theorem e_X9_numbers_38 {v0 : Int32} {x0 x1 x2 x3 x4 : Option Value} : Wp S N d MX9_numbers 38 [x0, x1, x2, x3, x4] [.int v0] I J P Q ↔ Wp S N d MX9_numbers 39 [x0, x1, x2, x3, x4] [.int 1, .int v0] I J P Q := wp_iconst (by decide) dX9_numbers_38
theorem e_X9_numbers_39 {v0 : Int32} {v1 : Int32} {x0 x1 x2 x3 x4 : Option Value} : Wp S N d MX9_numbers 39 [x0, x1, x2, x3, x4] [.int v0, .int v1] I J P Q ↔ (¬ v1 = v0 → Wp S N d MX9_numbers 46 [x0, x1, x2, x3, x4] [] I J P Q) ∧ (v1 = v0 → Wp S N d MX9_numbers 42 [x0, x1, x2, x3, x4] [] I J P Q) := wp_brn rfl rfl (by decide) dX9_numbers_39
theorem e_X9_numbers_42 {w : Nat} {x1 x2 x3 x4 : Option Value} : Wp S N d MX9_numbers 42 [some (.ref w), x1, x2, x3, x4] [] I J P Q ↔ Wp S N d MX9_numbers 43 [some (.ref w), x1, x2, x3, x4] [.ref w] I J P Q := wp_lod (len := 1) rfl rfl rfl rfl dX9_numbers_42
theorem e_X9_numbers_43 {v0 : Nat} {x0 x1 x2 x3 x4 : Option Value} : Wp S N (d + 1) MX9_numbers 43 [x0, x1, x2, x3, x4] [.ref v0] I J P Q ↔ S v0 = 9 ∧ CWp S N d MX9_rate [.ref v0] I J P (fun r I1 J1 P1 => Wp S N (d + 1) MX9_numbers 46 [x0, x1, x2, x3, x4] (r.toList ++ []) I1 J1 P1 Q) := wp_callV (M' := MX9_rate) (As := []) rfl rfl rfl rfl (by decide) (Nat.le_of_ble_eq_true rfl) dX9_numbers_43
theorem e_X9_numbers_46 {w : Int32} {x0 x2 x3 x4 : Option Value} : Wp S N d MX9_numbers 46 [x0, some (.int w), x2, x3, x4] [] I J P Q ↔ Wp S N d MX9_numbers 47 [x0, some (.int w), x2, x3, x4] [.int w] I J P Q := wp_lod (len := 1) rfl rfl rfl rfl dX9_numbers_46
theorem e_X9_numbers_47 {v0 : Int32} {x0 x1 x2 x3 x4 : Option Value} : Wp S N d MX9_numbers 47 [x0, x1, x2, x3, x4] [.int v0] I J P Q ↔ (v0 ≤ 0 → Wp S N d MX9_numbers 63 [x0, x1, x2, x3, x4] [] I J P Q) ∧ (¬ v0 ≤ 0 → Wp S N d MX9_numbers 50 [x0, x1, x2, x3, x4] [] I J P Q) := wp_br rfl rfl (by decide) dX9_numbers_47
theorem e_X9_numbers_50 {w : Nat} {x1 x2 x3 x4 : Option Value} : Wp S N d MX9_numbers 50 [some (.ref w), x1, x2, x3, x4] [] I J P Q ↔ Wp S N d MX9_numbers 51 [some (.ref w), x1, x2, x3, x4] [.ref w] I J P Q := wp_lod (len := 1) rfl rfl rfl rfl dX9_numbers_50
theorem e_X9_numbers_51 {v0 : Nat} {x0 x1 x2 x3 x4 : Option Value} : Wp S N d MX9_numbers 51 [x0, x1, x2, x3, x4] [.ref v0] I J P Q ↔ S v0 = 9 ∧ Wp S N d MX9_numbers 54 [x0, x1, x2, x3, x4] [va_rf (P v0 15)] I J P Q := wp_getf rfl rfl rfl rfl dX9_numbers_51
theorem e_X9_numbers_54 {v0 : Nat} {w : Int32} {x0 x2 x3 x4 : Option Value} : Wp S N d MX9_numbers 54 [x0, some (.int w), x2, x3, x4] [.ref v0] I J P Q ↔ Wp S N d MX9_numbers 55 [x0, some (.int w), x2, x3, x4] [.int w, .ref v0] I J P Q := wp_lod (len := 1) rfl rfl rfl rfl dX9_numbers_54
theorem e_X9_numbers_55 {v0 : Int32} {v1 : Nat} {w : Int32} {x0 x1 x2 x3 : Option Value} : Wp S N d MX9_numbers 55 [x0, x1, x2, x3, some (.int w)] [.int v0, .ref v1] I J P Q ↔ Wp S N d MX9_numbers 57 [x0, x1, x2, x3, some (.int w)] [.int w, .int v0, .ref v1] I J P Q := wp_lod (len := 2) rfl rfl rfl rfl dX9_numbers_55
theorem e_X9_numbers_57 {v0 : Int32} {v1 : Int32} {v2 : Nat} {x0 x1 x2 x3 x4 : Option Value} : Wp S N d MX9_numbers 57 [x0, x1, x2, x3, x4] [.int v0, .int v1, .ref v2] I J P Q ↔ Wp S N d MX9_numbers 58 [x0, x1, x2, x3, x4] [.int (v1 + v0), .ref v2] I J P Q := wp_alu (len := 1) rfl rfl rfl dX9_numbers_57
theorem e_X9_numbers_58 {v0 : Int32} {v1 : Nat} {w : Nat} {x1 x2 x3 x4 : Option Value} : Wp S N d MX9_numbers 58 [some (.ref w), x1, x2, x3, x4] [.int v0, .ref v1] I J P Q ↔ Wp S N d MX9_numbers 59 [some (.ref w), x1, x2, x3, x4] [.ref w, .int v0, .ref v1] I J P Q := wp_lod (len := 1) rfl rfl rfl rfl dX9_numbers_58
theorem e_X9_numbers_59 {v0 : Nat} {v1 : Int32} {v2 : Nat} {x0 x1 x2 x3 x4 : Option Value} : Wp S N d MX9_numbers 59 [x0, x1, x2, x3, x4] [.ref v0, .int v1, .ref v2] I J P Q ↔ S v0 = 9 ∧ Wp S N d MX9_numbers 62 [x0, x1, x2, x3, x4] [.int (I v0 12), .int v1, .ref v2] I J P Q := wp_getf rfl rfl rfl rfl dX9_numbers_59
theorem e_X9_numbers_62 {v0 : Int32} {v1 : Int32} {v2 : Nat} {x0 x1 x2 x3 x4 : Option Value} : Wp S N d MX9_numbers 62 [x0, x1, x2, x3, x4] [.int v0, .int v1, .ref v2] I J P Q ↔ (S v2 = 10 ∧ vp_in v1 (N v2)) ∧ Wp S N d MX9_numbers 63 [x0, x1, x2, x3, x4] [] (u2 I v2 v1.toNatClampNeg v0) J P Q := wp_ast rfl rfl dX9_numbers_62
theorem e_X9_numbers_63 {w : Int32} {x0 x1 x2 x3 : Option Value} : Wp S N d MX9_numbers 63 [x0, x1, x2, x3, some (.int w)] [] I J P Q ↔ Wp S N d MX9_numbers 66 [x0, x1, x2, kl x3, some (.int (w + 1))] [] I J P Q := wp_inc rfl rfl dX9_numbers_63
theorem e_X9_numbers_66  {x0 x1 x2 x3 x4 : Option Value} : Wp S N d MX9_numbers 66 [x0, x1, x2, x3, x4] [] I J P Q ↔ Wp S N d MX9_numbers 3 [x0, x1, x2, x3, x4] [] I J P Q := wp_go (len := 3) rfl (fun _ _ => rfl) rfl (by decide) dX9_numbers_66
theorem e_X9_numbers_69  {x0 x1 x2 x3 x4 : Option Value} : Wp S N d MX9_numbers 69 [x0, x1, x2, x3, x4] [] I J P Q ↔ Wp S N d MX9_numbers 70 [x0, x1, x2, x3, x4] [.int 1] I J P Q := wp_iconst (by decide) dX9_numbers_69
theorem e_X9_numbers_70 {v0 : Int32} (hb : isB v0) {x0 x1 x2 x3 x4 : Option Value} : Wp S N d MX9_numbers 70 [x0, x1, x2, x3, x4] [.int v0] I J P Q ↔ Q (some (.int v0)) I J P := wp_zret rfl dX9_numbers_70 hb
theorem dX9_chargeComes_0 : decode cX9_chargeComes 0 = .ok (.aload_n 0, 1) := by decide +kernel
theorem dX9_chargeComes_1 : decode cX9_chargeComes 1 = .ok (.getfield 36, 3) := by decide +kernel
theorem dX9_chargeComes_4 : decode cX9_chargeComes 4 = .ok (.bipush 18, 2) := by decide +kernel
theorem dX9_chargeComes_6 : decode cX9_chargeComes 6 = .ok (.iaload, 1) := by decide +kernel
theorem dX9_chargeComes_7 : decode cX9_chargeComes 7 = .ok (.iconst 4, 1) := by decide +kernel
theorem dX9_chargeComes_8 : decode cX9_chargeComes 8 = .ok (.if_icmp .ge 7, 3) := by decide +kernel
theorem dX9_chargeComes_11 : decode cX9_chargeComes 11 = .ok (.iconst 1, 1) := by decide +kernel
theorem dX9_chargeComes_12 : decode cX9_chargeComes 12 = .ok (.goto 4, 3) := by decide +kernel
theorem dX9_chargeComes_15 : decode cX9_chargeComes 15 = .ok (.iconst 0, 1) := by decide +kernel
theorem dX9_chargeComes_16 : decode cX9_chargeComes 16 = .ok (.istore_n 1, 1) := by decide +kernel
theorem dX9_chargeComes_17 : decode cX9_chargeComes 17 = .ok (.aload_n 0, 1) := by decide +kernel
theorem dX9_chargeComes_18 : decode cX9_chargeComes 18 = .ok (.iload_n 1, 1) := by decide +kernel
theorem dX9_chargeComes_19 : decode cX9_chargeComes 19 = .ok (.ifCond .eq 18, 3) := by decide +kernel
theorem dX9_chargeComes_22 : decode cX9_chargeComes 22 = .ok (.bipush 19, 2) := by decide +kernel
theorem dX9_chargeComes_24 : decode cX9_chargeComes 24 = .ok (.iconst 2, 1) := by decide +kernel
theorem dX9_chargeComes_25 : decode cX9_chargeComes 25 = .ok (.aload_n 0, 1) := by decide +kernel
theorem dX9_chargeComes_26 : decode cX9_chargeComes 26 = .ok (.getfield 36, 3) := by decide +kernel
theorem dX9_chargeComes_29 : decode cX9_chargeComes 29 = .ok (.bipush 18, 2) := by decide +kernel
theorem dX9_chargeComes_31 : decode cX9_chargeComes 31 = .ok (.iaload, 1) := by decide +kernel
theorem dX9_chargeComes_32 : decode cX9_chargeComes 32 = .ok (.imul, 1) := by decide +kernel
theorem dX9_chargeComes_33 : decode cX9_chargeComes 33 = .ok (.iadd, 1) := by decide +kernel
theorem dX9_chargeComes_34 : decode cX9_chargeComes 34 = .ok (.goto 4, 3) := by decide +kernel
theorem dX9_chargeComes_37 : decode cX9_chargeComes 37 = .ok (.iconst (-1), 1) := by decide +kernel
theorem dX9_chargeComes_38 : decode cX9_chargeComes 38 = .ok (.iconst 2, 1) := by decide +kernel
theorem dX9_chargeComes_39 : decode cX9_chargeComes 39 = .ok (.iconst 0, 1) := by decide +kernel
theorem dX9_chargeComes_40 : decode cX9_chargeComes 40 = .ok (.invokevirtual 104, 3) := by decide +kernel
theorem dX9_chargeComes_43 : decode cX9_chargeComes 43 = .ok (.ifCond .ne 5, 3) := by decide +kernel
theorem dX9_chargeComes_46 : decode cX9_chargeComes 46 = .ok (.iconst 0, 1) := by decide +kernel
theorem dX9_chargeComes_47 : decode cX9_chargeComes 47 = .ok (.ireturn, 1) := by decide +kernel
theorem dX9_chargeComes_48 : decode cX9_chargeComes 48 = .ok (.aload_n 0, 1) := by decide +kernel
theorem dX9_chargeComes_49 : decode cX9_chargeComes 49 = .ok (.aload_n 0, 1) := by decide +kernel
theorem dX9_chargeComes_50 : decode cX9_chargeComes 50 = .ok (.getfield 91, 3) := by decide +kernel
theorem dX9_chargeComes_53 : decode cX9_chargeComes 53 = .ok (.ifCond .ne 7, 3) := by decide +kernel
theorem dX9_chargeComes_56 : decode cX9_chargeComes 56 = .ok (.iload_n 1, 1) := by decide +kernel
theorem dX9_chargeComes_57 : decode cX9_chargeComes 57 = .ok (.ifCond .ne 7, 3) := by decide +kernel
theorem dX9_chargeComes_60 : decode cX9_chargeComes 60 = .ok (.iconst 1, 1) := by decide +kernel
theorem dX9_chargeComes_61 : decode cX9_chargeComes 61 = .ok (.goto 4, 3) := by decide +kernel
theorem dX9_chargeComes_64 : decode cX9_chargeComes 64 = .ok (.iconst 0, 1) := by decide +kernel
theorem dX9_chargeComes_65 : decode cX9_chargeComes 65 = .ok (.putfield 91, 3) := by decide +kernel
theorem dX9_chargeComes_68 : decode cX9_chargeComes 68 = .ok (.aload_n 0, 1) := by decide +kernel
theorem dX9_chargeComes_69 : decode cX9_chargeComes 69 = .ok (.getfield 36, 3) := by decide +kernel
theorem dX9_chargeComes_72 : decode cX9_chargeComes 72 = .ok (.bipush 18, 2) := by decide +kernel
theorem dX9_chargeComes_74 : decode cX9_chargeComes 74 = .ok (.dup2, 1) := by decide +kernel
theorem dX9_chargeComes_75 : decode cX9_chargeComes 75 = .ok (.iaload, 1) := by decide +kernel
theorem dX9_chargeComes_76 : decode cX9_chargeComes 76 = .ok (.iload_n 1, 1) := by decide +kernel
theorem dX9_chargeComes_77 : decode cX9_chargeComes 77 = .ok (.ifCond .eq 7, 3) := by decide +kernel
theorem dX9_chargeComes_80 : decode cX9_chargeComes 80 = .ok (.iconst 1, 1) := by decide +kernel
theorem dX9_chargeComes_81 : decode cX9_chargeComes 81 = .ok (.goto 4, 3) := by decide +kernel
theorem dX9_chargeComes_84 : decode cX9_chargeComes 84 = .ok (.iconst 0, 1) := by decide +kernel
theorem dX9_chargeComes_85 : decode cX9_chargeComes 85 = .ok (.iadd, 1) := by decide +kernel
theorem dX9_chargeComes_86 : decode cX9_chargeComes 86 = .ok (.iastore, 1) := by decide +kernel
theorem dX9_chargeComes_87 : decode cX9_chargeComes 87 = .ok (.iconst 1, 1) := by decide +kernel
theorem dX9_chargeComes_88 : decode cX9_chargeComes 88 = .ok (.ireturn, 1) := by decide +kernel
theorem c_X9_chargeComes {a0 : Nat} : CWp S N d MX9_chargeComes [.ref a0] I J P Q ↔ Wp S N d MX9_chargeComes 0 [some (.ref a0), none] [] I J P Q := by
  rw [cwp_iff]
  exact ⟨fun h => h.2, fun h => ⟨Nat.le_of_ble_eq_true rfl, h⟩⟩
theorem e_X9_chargeComes_0 {w : Nat} {x1 : Option Value} : Wp S N d MX9_chargeComes 0 [some (.ref w), x1] [] I J P Q ↔ Wp S N d MX9_chargeComes 1 [some (.ref w), x1] [.ref w] I J P Q := wp_lod (len := 1) rfl rfl rfl rfl dX9_chargeComes_0
theorem e_X9_chargeComes_1 {v0 : Nat} {x0 x1 : Option Value} : Wp S N d MX9_chargeComes 1 [x0, x1] [.ref v0] I J P Q ↔ S v0 = 9 ∧ Wp S N d MX9_chargeComes 4 [x0, x1] [va_rf (P v0 15)] I J P Q := wp_getf rfl rfl rfl rfl dX9_chargeComes_1
theorem e_X9_chargeComes_4 {v0 : Nat} {x0 x1 : Option Value} : Wp S N d MX9_chargeComes 4 [x0, x1] [.ref v0] I J P Q ↔ Wp S N d MX9_chargeComes 6 [x0, x1] [.int 18, .ref v0] I J P Q := wp_bipush (by decide) dX9_chargeComes_4
theorem e_X9_chargeComes_6 {v0 : Int32} {v1 : Nat} {x0 x1 : Option Value} : Wp S N d MX9_chargeComes 6 [x0, x1] [.int v0, .ref v1] I J P Q ↔ (S v1 = 10 ∧ vp_in v0 (N v1)) ∧ Wp S N d MX9_chargeComes 7 [x0, x1] [.int (I v1 v0.toNatClampNeg)] I J P Q := wp_ald rfl rfl dX9_chargeComes_6
theorem e_X9_chargeComes_7 {v0 : Int32} {x0 x1 : Option Value} : Wp S N d MX9_chargeComes 7 [x0, x1] [.int v0] I J P Q ↔ Wp S N d MX9_chargeComes 8 [x0, x1] [.int 4, .int v0] I J P Q := wp_iconst (by decide) dX9_chargeComes_7
theorem e_X9_chargeComes_8 {v0 : Int32} {v1 : Int32} {x0 x1 : Option Value} : Wp S N d MX9_chargeComes 8 [x0, x1] [.int v0, .int v1] I J P Q ↔ (v0 ≤ v1 → Wp S N d MX9_chargeComes 15 [x0, x1] [] I J P Q) ∧ (¬ v0 ≤ v1 → Wp S N d MX9_chargeComes 11 [x0, x1] [] I J P Q) := wp_br rfl rfl (by decide) dX9_chargeComes_8
theorem e_X9_chargeComes_11  {x0 x1 : Option Value} : Wp S N d MX9_chargeComes 11 [x0, x1] [] I J P Q ↔ Wp S N d MX9_chargeComes 12 [x0, x1] [.int 1] I J P Q := wp_iconst (by decide) dX9_chargeComes_11
theorem e_X9_chargeComes_12 {v0 : Int32} {x0 x1 : Option Value} : Wp S N d MX9_chargeComes 12 [x0, x1] [.int v0] I J P Q ↔ Wp S N d MX9_chargeComes 16 [x0, x1] [.int v0] I J P Q := wp_go (len := 3) rfl (fun _ _ => rfl) rfl (by decide) dX9_chargeComes_12
theorem e_X9_chargeComes_15  {x0 x1 : Option Value} : Wp S N d MX9_chargeComes 15 [x0, x1] [] I J P Q ↔ Wp S N d MX9_chargeComes 16 [x0, x1] [.int 0] I J P Q := wp_iconst (by decide) dX9_chargeComes_15
theorem e_X9_chargeComes_16 {v0 : Int32} {x0 x1 : Option Value} : Wp S N d MX9_chargeComes 16 [x0, x1] [.int v0] I J P Q ↔ Wp S N d MX9_chargeComes 17 [kl x0, some (.int v0)] [] I J P Q := wp_sto (len := 1) rfl rfl rfl rfl (Nat.le_of_ble_eq_true rfl) rfl dX9_chargeComes_16
theorem e_X9_chargeComes_17 {w : Nat} {x1 : Option Value} : Wp S N d MX9_chargeComes 17 [some (.ref w), x1] [] I J P Q ↔ Wp S N d MX9_chargeComes 18 [some (.ref w), x1] [.ref w] I J P Q := wp_lod (len := 1) rfl rfl rfl rfl dX9_chargeComes_17
theorem e_X9_chargeComes_18 {v0 : Nat} {w : Int32} {x0 : Option Value} : Wp S N d MX9_chargeComes 18 [x0, some (.int w)] [.ref v0] I J P Q ↔ Wp S N d MX9_chargeComes 19 [x0, some (.int w)] [.int w, .ref v0] I J P Q := wp_lod (len := 1) rfl rfl rfl rfl dX9_chargeComes_18
theorem e_X9_chargeComes_19 {v0 : Int32} {v1 : Nat} {x0 x1 : Option Value} : Wp S N d MX9_chargeComes 19 [x0, x1] [.int v0, .ref v1] I J P Q ↔ (v0 = 0 → Wp S N d MX9_chargeComes 37 [x0, x1] [.ref v1] I J P Q) ∧ (¬ v0 = 0 → Wp S N d MX9_chargeComes 22 [x0, x1] [.ref v1] I J P Q) := wp_br rfl rfl (by decide) dX9_chargeComes_19
theorem e_X9_chargeComes_22 {v0 : Nat} {x0 x1 : Option Value} : Wp S N d MX9_chargeComes 22 [x0, x1] [.ref v0] I J P Q ↔ Wp S N d MX9_chargeComes 24 [x0, x1] [.int 19, .ref v0] I J P Q := wp_bipush (by decide) dX9_chargeComes_22
theorem e_X9_chargeComes_24 {v0 : Int32} {v1 : Nat} {x0 x1 : Option Value} : Wp S N d MX9_chargeComes 24 [x0, x1] [.int v0, .ref v1] I J P Q ↔ Wp S N d MX9_chargeComes 25 [x0, x1] [.int 2, .int v0, .ref v1] I J P Q := wp_iconst (by decide) dX9_chargeComes_24
theorem e_X9_chargeComes_25 {v0 : Int32} {v1 : Int32} {v2 : Nat} {w : Nat} {x1 : Option Value} : Wp S N d MX9_chargeComes 25 [some (.ref w), x1] [.int v0, .int v1, .ref v2] I J P Q ↔ Wp S N d MX9_chargeComes 26 [some (.ref w), x1] [.ref w, .int v0, .int v1, .ref v2] I J P Q := wp_lod (len := 1) rfl rfl rfl rfl dX9_chargeComes_25
theorem e_X9_chargeComes_26 {v0 : Nat} {v1 : Int32} {v2 : Int32} {v3 : Nat} {x0 x1 : Option Value} : Wp S N d MX9_chargeComes 26 [x0, x1] [.ref v0, .int v1, .int v2, .ref v3] I J P Q ↔ S v0 = 9 ∧ Wp S N d MX9_chargeComes 29 [x0, x1] [va_rf (P v0 15), .int v1, .int v2, .ref v3] I J P Q := wp_getf rfl rfl rfl rfl dX9_chargeComes_26
theorem e_X9_chargeComes_29 {v0 : Nat} {v1 : Int32} {v2 : Int32} {v3 : Nat} {x0 x1 : Option Value} : Wp S N d MX9_chargeComes 29 [x0, x1] [.ref v0, .int v1, .int v2, .ref v3] I J P Q ↔ Wp S N d MX9_chargeComes 31 [x0, x1] [.int 18, .ref v0, .int v1, .int v2, .ref v3] I J P Q := wp_bipush (by decide) dX9_chargeComes_29
theorem e_X9_chargeComes_31 {v0 : Int32} {v1 : Nat} {v2 : Int32} {v3 : Int32} {v4 : Nat} {x0 x1 : Option Value} : Wp S N d MX9_chargeComes 31 [x0, x1] [.int v0, .ref v1, .int v2, .int v3, .ref v4] I J P Q ↔ (S v1 = 10 ∧ vp_in v0 (N v1)) ∧ Wp S N d MX9_chargeComes 32 [x0, x1] [.int (I v1 v0.toNatClampNeg), .int v2, .int v3, .ref v4] I J P Q := wp_ald rfl rfl dX9_chargeComes_31
theorem e_X9_chargeComes_32 {v0 : Int32} {v1 : Int32} {v2 : Int32} {v3 : Nat} {x0 x1 : Option Value} : Wp S N d MX9_chargeComes 32 [x0, x1] [.int v0, .int v1, .int v2, .ref v3] I J P Q ↔ Wp S N d MX9_chargeComes 33 [x0, x1] [.int (v1 * v0), .int v2, .ref v3] I J P Q := wp_alu (len := 1) rfl rfl rfl dX9_chargeComes_32
theorem e_X9_chargeComes_33 {v0 : Int32} {v1 : Int32} {v2 : Nat} {x0 x1 : Option Value} : Wp S N d MX9_chargeComes 33 [x0, x1] [.int v0, .int v1, .ref v2] I J P Q ↔ Wp S N d MX9_chargeComes 34 [x0, x1] [.int (v1 + v0), .ref v2] I J P Q := wp_alu (len := 1) rfl rfl rfl dX9_chargeComes_33
theorem e_X9_chargeComes_34 {v0 : Int32} {v1 : Nat} {x0 x1 : Option Value} : Wp S N d MX9_chargeComes 34 [x0, x1] [.int v0, .ref v1] I J P Q ↔ Wp S N d MX9_chargeComes 38 [x0, x1] [.int v0, .ref v1] I J P Q := wp_go (len := 3) rfl (fun _ _ => rfl) rfl (by decide) dX9_chargeComes_34
theorem e_X9_chargeComes_37 {v0 : Nat} {x0 x1 : Option Value} : Wp S N d MX9_chargeComes 37 [x0, x1] [.ref v0] I J P Q ↔ Wp S N d MX9_chargeComes 38 [x0, x1] [.int (-1), .ref v0] I J P Q := wp_iconst (by decide) dX9_chargeComes_37
theorem e_X9_chargeComes_38 {v0 : Int32} {v1 : Nat} {x0 x1 : Option Value} : Wp S N d MX9_chargeComes 38 [x0, x1] [.int v0, .ref v1] I J P Q ↔ Wp S N d MX9_chargeComes 39 [x0, x1] [.int 2, .int v0, .ref v1] I J P Q := wp_iconst (by decide) dX9_chargeComes_38
theorem e_X9_chargeComes_39 {v0 : Int32} {v1 : Int32} {v2 : Nat} {x0 x1 : Option Value} : Wp S N d MX9_chargeComes 39 [x0, x1] [.int v0, .int v1, .ref v2] I J P Q ↔ Wp S N d MX9_chargeComes 40 [x0, x1] [.int 0, .int v0, .int v1, .ref v2] I J P Q := wp_iconst (by decide) dX9_chargeComes_39
theorem e_X9_chargeComes_40 {v0 : Int32} {v1 : Int32} {v2 : Int32} {v3 : Nat} {x0 x1 : Option Value} : Wp S N (d + 1) MX9_chargeComes 40 [x0, x1] [.int v0, .int v1, .int v2, .ref v3] I J P Q ↔ S v3 = 9 ∧ CWp S N d MX9_numbers [.ref v3, .int v2, .int v1, .int v0] I J P (fun r I1 J1 P1 => Wp S N (d + 1) MX9_chargeComes 43 [x0, x1] (r.toList ++ []) I1 J1 P1 Q) := wp_callV (M' := MX9_numbers) (As := [.int v2, .int v1, .int v0]) rfl rfl rfl rfl (by decide) (Nat.le_of_ble_eq_true rfl) dX9_chargeComes_40
theorem e_X9_chargeComes_43 {v0 : Int32} {x0 x1 : Option Value} : Wp S N d MX9_chargeComes 43 [x0, x1] [.int v0] I J P Q ↔ (¬ v0 = 0 → Wp S N d MX9_chargeComes 48 [x0, x1] [] I J P Q) ∧ (v0 = 0 → Wp S N d MX9_chargeComes 46 [x0, x1] [] I J P Q) := wp_brn rfl rfl (by decide) dX9_chargeComes_43
theorem e_X9_chargeComes_46  {x0 x1 : Option Value} : Wp S N d MX9_chargeComes 46 [x0, x1] [] I J P Q ↔ Wp S N d MX9_chargeComes 47 [x0, x1] [.int 0] I J P Q := wp_iconst (by decide) dX9_chargeComes_46
theorem e_X9_chargeComes_47 {v0 : Int32} (hb : isB v0) {x0 x1 : Option Value} : Wp S N d MX9_chargeComes 47 [x0, x1] [.int v0] I J P Q ↔ Q (some (.int v0)) I J P := wp_zret rfl dX9_chargeComes_47 hb
theorem e_X9_chargeComes_48 {w : Nat} {x1 : Option Value} : Wp S N d MX9_chargeComes 48 [some (.ref w), x1] [] I J P Q ↔ Wp S N d MX9_chargeComes 49 [some (.ref w), x1] [.ref w] I J P Q := wp_lod (len := 1) rfl rfl rfl rfl dX9_chargeComes_48
theorem e_X9_chargeComes_49 {v0 : Nat} {w : Nat} {x1 : Option Value} : Wp S N d MX9_chargeComes 49 [some (.ref w), x1] [.ref v0] I J P Q ↔ Wp S N d MX9_chargeComes 50 [some (.ref w), x1] [.ref w, .ref v0] I J P Q := wp_lod (len := 1) rfl rfl rfl rfl dX9_chargeComes_49
theorem e_X9_chargeComes_50 {v0 : Nat} {v1 : Nat} {x0 x1 : Option Value} : Wp S N d MX9_chargeComes 50 [x0, x1] [.ref v0, .ref v1] I J P Q ↔ S v0 = 9 ∧ Wp S N d MX9_chargeComes 53 [x0, x1] [.int (I v0 14), .ref v1] I J P Q := wp_getf rfl rfl rfl rfl dX9_chargeComes_50
theorem e_X9_chargeComes_53 {v0 : Int32} {v1 : Nat} {x0 x1 : Option Value} : Wp S N d MX9_chargeComes 53 [x0, x1] [.int v0, .ref v1] I J P Q ↔ (¬ v0 = 0 → Wp S N d MX9_chargeComes 60 [x0, x1] [.ref v1] I J P Q) ∧ (v0 = 0 → Wp S N d MX9_chargeComes 56 [x0, x1] [.ref v1] I J P Q) := wp_brn rfl rfl (by decide) dX9_chargeComes_53
theorem e_X9_chargeComes_56 {v0 : Nat} {w : Int32} {x0 : Option Value} : Wp S N d MX9_chargeComes 56 [x0, some (.int w)] [.ref v0] I J P Q ↔ Wp S N d MX9_chargeComes 57 [x0, some (.int w)] [.int w, .ref v0] I J P Q := wp_lod (len := 1) rfl rfl rfl rfl dX9_chargeComes_56
theorem e_X9_chargeComes_57 {v0 : Int32} {v1 : Nat} {x0 x1 : Option Value} : Wp S N d MX9_chargeComes 57 [x0, x1] [.int v0, .ref v1] I J P Q ↔ (¬ v0 = 0 → Wp S N d MX9_chargeComes 64 [x0, x1] [.ref v1] I J P Q) ∧ (v0 = 0 → Wp S N d MX9_chargeComes 60 [x0, x1] [.ref v1] I J P Q) := wp_brn rfl rfl (by decide) dX9_chargeComes_57
theorem e_X9_chargeComes_60 {v0 : Nat} {x0 x1 : Option Value} : Wp S N d MX9_chargeComes 60 [x0, x1] [.ref v0] I J P Q ↔ Wp S N d MX9_chargeComes 61 [x0, x1] [.int 1, .ref v0] I J P Q := wp_iconst (by decide) dX9_chargeComes_60
theorem e_X9_chargeComes_61 {v0 : Int32} {v1 : Nat} {x0 x1 : Option Value} : Wp S N d MX9_chargeComes 61 [x0, x1] [.int v0, .ref v1] I J P Q ↔ Wp S N d MX9_chargeComes 65 [x0, x1] [.int v0, .ref v1] I J P Q := wp_go (len := 3) rfl (fun _ _ => rfl) rfl (by decide) dX9_chargeComes_61
theorem e_X9_chargeComes_64 {v0 : Nat} {x0 x1 : Option Value} : Wp S N d MX9_chargeComes 64 [x0, x1] [.ref v0] I J P Q ↔ Wp S N d MX9_chargeComes 65 [x0, x1] [.int 0, .ref v0] I J P Q := wp_iconst (by decide) dX9_chargeComes_64
theorem e_X9_chargeComes_65 {v0 : Int32} {v1 : Nat} (hb : isB v0) {x0 x1 : Option Value} : Wp S N d MX9_chargeComes 65 [x0, x1] [.int v0, .ref v1] I J P Q ↔ S v1 = 9 ∧ Wp S N d MX9_chargeComes 68 [x0, x1] [] (u2 I v1 14 v0) J P Q := wp_putZ rfl rfl rfl rfl dX9_chargeComes_65 hb
theorem e_X9_chargeComes_68 {w : Nat} {x1 : Option Value} : Wp S N d MX9_chargeComes 68 [some (.ref w), x1] [] I J P Q ↔ Wp S N d MX9_chargeComes 69 [some (.ref w), x1] [.ref w] I J P Q := wp_lod (len := 1) rfl rfl rfl rfl dX9_chargeComes_68
theorem e_X9_chargeComes_69 {v0 : Nat} {x0 x1 : Option Value} : Wp S N d MX9_chargeComes 69 [x0, x1] [.ref v0] I J P Q ↔ S v0 = 9 ∧ Wp S N d MX9_chargeComes 72 [x0, x1] [va_rf (P v0 15)] I J P Q := wp_getf rfl rfl rfl rfl dX9_chargeComes_69
theorem e_X9_chargeComes_72 {v0 : Nat} {x0 x1 : Option Value} : Wp S N d MX9_chargeComes 72 [x0, x1] [.ref v0] I J P Q ↔ Wp S N d MX9_chargeComes 74 [x0, x1] [.int 18, .ref v0] I J P Q := wp_bipush (by decide) dX9_chargeComes_72
theorem e_X9_chargeComes_74 {v0 : Int32} {v1 : Nat} {x0 x1 : Option Value} : Wp S N d MX9_chargeComes 74 [x0, x1] [.int v0, .ref v1] I J P Q ↔ Wp S N d MX9_chargeComes 75 [x0, x1] [.int v0, .ref v1, .int v0, .ref v1] I J P Q := wp_alu (len := 1) rfl rfl rfl dX9_chargeComes_74
theorem e_X9_chargeComes_75 {v0 : Int32} {v1 : Nat} {v2 : Int32} {v3 : Nat} {x0 x1 : Option Value} : Wp S N d MX9_chargeComes 75 [x0, x1] [.int v0, .ref v1, .int v2, .ref v3] I J P Q ↔ (S v1 = 10 ∧ vp_in v0 (N v1)) ∧ Wp S N d MX9_chargeComes 76 [x0, x1] [.int (I v1 v0.toNatClampNeg), .int v2, .ref v3] I J P Q := wp_ald rfl rfl dX9_chargeComes_75
theorem e_X9_chargeComes_76 {v0 : Int32} {v1 : Int32} {v2 : Nat} {w : Int32} {x0 : Option Value} : Wp S N d MX9_chargeComes 76 [x0, some (.int w)] [.int v0, .int v1, .ref v2] I J P Q ↔ Wp S N d MX9_chargeComes 77 [x0, some (.int w)] [.int w, .int v0, .int v1, .ref v2] I J P Q := wp_lod (len := 1) rfl rfl rfl rfl dX9_chargeComes_76
theorem e_X9_chargeComes_77 {v0 : Int32} {v1 : Int32} {v2 : Int32} {v3 : Nat} {x0 x1 : Option Value} : Wp S N d MX9_chargeComes 77 [x0, x1] [.int v0, .int v1, .int v2, .ref v3] I J P Q ↔ (v0 = 0 → Wp S N d MX9_chargeComes 84 [x0, x1] [.int v1, .int v2, .ref v3] I J P Q) ∧ (¬ v0 = 0 → Wp S N d MX9_chargeComes 80 [x0, x1] [.int v1, .int v2, .ref v3] I J P Q) := wp_br rfl rfl (by decide) dX9_chargeComes_77
theorem e_X9_chargeComes_80 {v0 : Int32} {v1 : Int32} {v2 : Nat} {x0 x1 : Option Value} : Wp S N d MX9_chargeComes 80 [x0, x1] [.int v0, .int v1, .ref v2] I J P Q ↔ Wp S N d MX9_chargeComes 81 [x0, x1] [.int 1, .int v0, .int v1, .ref v2] I J P Q := wp_iconst (by decide) dX9_chargeComes_80
theorem e_X9_chargeComes_81 {v0 : Int32} {v1 : Int32} {v2 : Int32} {v3 : Nat} {x0 x1 : Option Value} : Wp S N d MX9_chargeComes 81 [x0, x1] [.int v0, .int v1, .int v2, .ref v3] I J P Q ↔ Wp S N d MX9_chargeComes 85 [x0, x1] [.int v0, .int v1, .int v2, .ref v3] I J P Q := wp_go (len := 3) rfl (fun _ _ => rfl) rfl (by decide) dX9_chargeComes_81
theorem e_X9_chargeComes_84 {v0 : Int32} {v1 : Int32} {v2 : Nat} {x0 x1 : Option Value} : Wp S N d MX9_chargeComes 84 [x0, x1] [.int v0, .int v1, .ref v2] I J P Q ↔ Wp S N d MX9_chargeComes 85 [x0, x1] [.int 0, .int v0, .int v1, .ref v2] I J P Q := wp_iconst (by decide) dX9_chargeComes_84
theorem e_X9_chargeComes_85 {v0 : Int32} {v1 : Int32} {v2 : Int32} {v3 : Nat} {x0 x1 : Option Value} : Wp S N d MX9_chargeComes 85 [x0, x1] [.int v0, .int v1, .int v2, .ref v3] I J P Q ↔ Wp S N d MX9_chargeComes 86 [x0, x1] [.int (v1 + v0), .int v2, .ref v3] I J P Q := wp_alu (len := 1) rfl rfl rfl dX9_chargeComes_85
theorem e_X9_chargeComes_86 {v0 : Int32} {v1 : Int32} {v2 : Nat} {x0 x1 : Option Value} : Wp S N d MX9_chargeComes 86 [x0, x1] [.int v0, .int v1, .ref v2] I J P Q ↔ (S v2 = 10 ∧ vp_in v1 (N v2)) ∧ Wp S N d MX9_chargeComes 87 [x0, x1] [] (u2 I v2 v1.toNatClampNeg v0) J P Q := wp_ast rfl rfl dX9_chargeComes_86
theorem e_X9_chargeComes_87  {x0 x1 : Option Value} : Wp S N d MX9_chargeComes 87 [x0, x1] [] I J P Q ↔ Wp S N d MX9_chargeComes 88 [x0, x1] [.int 1] I J P Q := wp_iconst (by decide) dX9_chargeComes_87
theorem e_X9_chargeComes_88 {v0 : Int32} (hb : isB v0) {x0 x1 : Option Value} : Wp S N d MX9_chargeComes 88 [x0, x1] [.int v0] I J P Q ↔ Q (some (.int v0)) I J P := wp_zret rfl dX9_chargeComes_88 hb
theorem dX9_creditComes_0 : decode cX9_creditComes 0 = .ok (.aload_n 0, 1) := by decide +kernel
theorem dX9_creditComes_1 : decode cX9_creditComes 1 = .ok (.getfield 36, 3) := by decide +kernel
theorem dX9_creditComes_4 : decode cX9_creditComes 4 = .ok (.bipush 27, 2) := by decide +kernel
theorem dX9_creditComes_6 : decode cX9_creditComes 6 = .ok (.iaload, 1) := by decide +kernel
theorem dX9_creditComes_7 : decode cX9_creditComes 7 = .ok (.bipush 6, 2) := by decide +kernel
theorem dX9_creditComes_9 : decode cX9_creditComes 9 = .ok (.if_icmp .ge 7, 3) := by decide +kernel
theorem dX9_creditComes_12 : decode cX9_creditComes 12 = .ok (.iconst 1, 1) := by decide +kernel
theorem dX9_creditComes_13 : decode cX9_creditComes 13 = .ok (.goto 4, 3) := by decide +kernel
theorem dX9_creditComes_16 : decode cX9_creditComes 16 = .ok (.iconst 0, 1) := by decide +kernel
theorem dX9_creditComes_17 : decode cX9_creditComes 17 = .ok (.istore_n 2, 1) := by decide +kernel
theorem dX9_creditComes_18 : decode cX9_creditComes 18 = .ok (.bipush 28, 2) := by decide +kernel
theorem dX9_creditComes_20 : decode cX9_creditComes 20 = .ok (.bipush 6, 2) := by decide +kernel
theorem dX9_creditComes_22 : decode cX9_creditComes 22 = .ok (.aload_n 0, 1) := by decide +kernel
theorem dX9_creditComes_23 : decode cX9_creditComes 23 = .ok (.getfield 36, 3) := by decide +kernel
theorem dX9_creditComes_26 : decode cX9_creditComes 26 = .ok (.bipush 27, 2) := by decide +kernel
theorem dX9_creditComes_28 : decode cX9_creditComes 28 = .ok (.iaload, 1) := by decide +kernel
theorem dX9_creditComes_29 : decode cX9_creditComes 29 = .ok (.imul, 1) := by decide +kernel
theorem dX9_creditComes_30 : decode cX9_creditComes 30 = .ok (.iadd, 1) := by decide +kernel
theorem dX9_creditComes_31 : decode cX9_creditComes 31 = .ok (.istore_n 3, 1) := by decide +kernel
theorem dX9_creditComes_32 : decode cX9_creditComes 32 = .ok (.aload_n 0, 1) := by decide +kernel
theorem dX9_creditComes_33 : decode cX9_creditComes 33 = .ok (.iload_n 2, 1) := by decide +kernel
theorem dX9_creditComes_34 : decode cX9_creditComes 34 = .ok (.ifCond .eq 9, 3) := by decide +kernel
theorem dX9_creditComes_37 : decode cX9_creditComes 37 = .ok (.iload_n 3, 1) := by decide +kernel
theorem dX9_creditComes_38 : decode cX9_creditComes 38 = .ok (.iconst 1, 1) := by decide +kernel
theorem dX9_creditComes_39 : decode cX9_creditComes 39 = .ok (.iadd, 1) := by decide +kernel
theorem dX9_creditComes_40 : decode cX9_creditComes 40 = .ok (.goto 4, 3) := by decide +kernel
theorem dX9_creditComes_43 : decode cX9_creditComes 43 = .ok (.iconst (-1), 1) := by decide +kernel
theorem dX9_creditComes_44 : decode cX9_creditComes 44 = .ok (.iconst 4, 1) := by decide +kernel
theorem dX9_creditComes_45 : decode cX9_creditComes 45 = .ok (.bipush 10, 2) := by decide +kernel
theorem dX9_creditComes_47 : decode cX9_creditComes 47 = .ok (.invokevirtual 104, 3) := by decide +kernel
theorem dX9_creditComes_50 : decode cX9_creditComes 50 = .ok (.ifCond .ne 5, 3) := by decide +kernel
theorem dX9_creditComes_53 : decode cX9_creditComes 53 = .ok (.iconst 0, 1) := by decide +kernel
theorem dX9_creditComes_54 : decode cX9_creditComes 54 = .ok (.ireturn, 1) := by decide +kernel
theorem dX9_creditComes_55 : decode cX9_creditComes 55 = .ok (.aload_n 0, 1) := by decide +kernel
theorem dX9_creditComes_56 : decode cX9_creditComes 56 = .ok (.bipush 42, 2) := by decide +kernel
theorem dX9_creditComes_58 : decode cX9_creditComes 58 = .ok (.invokevirtual 97, 3) := by decide +kernel
theorem dX9_creditComes_61 : decode cX9_creditComes 61 = .ok (.istore 4, 2) := by decide +kernel
theorem dX9_creditComes_63 : decode cX9_creditComes 63 = .ok (.aload_n 0, 1) := by decide +kernel
theorem dX9_creditComes_64 : decode cX9_creditComes 64 = .ok (.aload_n 0, 1) := by decide +kernel
theorem dX9_creditComes_65 : decode cX9_creditComes 65 = .ok (.getfield 91, 3) := by decide +kernel
theorem dX9_creditComes_68 : decode cX9_creditComes 68 = .ok (.ifCond .ne 7, 3) := by decide +kernel
theorem dX9_creditComes_71 : decode cX9_creditComes 71 = .ok (.iload_n 2, 1) := by decide +kernel
theorem dX9_creditComes_72 : decode cX9_creditComes 72 = .ok (.ifCond .ne 7, 3) := by decide +kernel
theorem dX9_creditComes_75 : decode cX9_creditComes 75 = .ok (.iconst 1, 1) := by decide +kernel
theorem dX9_creditComes_76 : decode cX9_creditComes 76 = .ok (.goto 4, 3) := by decide +kernel
theorem dX9_creditComes_79 : decode cX9_creditComes 79 = .ok (.iconst 0, 1) := by decide +kernel
theorem dX9_creditComes_80 : decode cX9_creditComes 80 = .ok (.putfield 91, 3) := by decide +kernel
theorem dX9_creditComes_83 : decode cX9_creditComes 83 = .ok (.iload_n 2, 1) := by decide +kernel
theorem dX9_creditComes_84 : decode cX9_creditComes 84 = .ok (.ifCond .eq 39, 3) := by decide +kernel
theorem dX9_creditComes_87 : decode cX9_creditComes 87 = .ok (.aload_n 0, 1) := by decide +kernel
theorem dX9_creditComes_88 : decode cX9_creditComes 88 = .ok (.getfield 36, 3) := by decide +kernel
theorem dX9_creditComes_91 : decode cX9_creditComes 91 = .ok (.iload_n 3, 1) := by decide +kernel
theorem dX9_creditComes_92 : decode cX9_creditComes 92 = .ok (.iload_n 1, 1) := by decide +kernel
theorem dX9_creditComes_93 : decode cX9_creditComes 93 = .ok (.iastore, 1) := by decide +kernel
theorem dX9_creditComes_94 : decode cX9_creditComes 94 = .ok (.aload_n 0, 1) := by decide +kernel
theorem dX9_creditComes_95 : decode cX9_creditComes 95 = .ok (.getfield 36, 3) := by decide +kernel
theorem dX9_creditComes_98 : decode cX9_creditComes 98 = .ok (.iload_n 3, 1) := by decide +kernel
theorem dX9_creditComes_99 : decode cX9_creditComes 99 = .ok (.iconst 5, 1) := by decide +kernel
theorem dX9_creditComes_100 : decode cX9_creditComes 100 = .ok (.iadd, 1) := by decide +kernel
theorem dX9_creditComes_101 : decode cX9_creditComes 101 = .ok (.iload 4, 2) := by decide +kernel
theorem dX9_creditComes_103 : decode cX9_creditComes 103 = .ok (.ifCond .eq 7, 3) := by decide +kernel
theorem dX9_creditComes_106 : decode cX9_creditComes 106 = .ok (.iconst 1, 1) := by decide +kernel
theorem dX9_creditComes_107 : decode cX9_creditComes 107 = .ok (.goto 4, 3) := by decide +kernel
theorem dX9_creditComes_110 : decode cX9_creditComes 110 = .ok (.iconst 0, 1) := by decide +kernel
theorem dX9_creditComes_111 : decode cX9_creditComes 111 = .ok (.iastore, 1) := by decide +kernel
theorem dX9_creditComes_112 : decode cX9_creditComes 112 = .ok (.aload_n 0, 1) := by decide +kernel
theorem dX9_creditComes_113 : decode cX9_creditComes 113 = .ok (.getfield 36, 3) := by decide +kernel
theorem dX9_creditComes_116 : decode cX9_creditComes 116 = .ok (.bipush 27, 2) := by decide +kernel
theorem dX9_creditComes_118 : decode cX9_creditComes 118 = .ok (.dup2, 1) := by decide +kernel
theorem dX9_creditComes_119 : decode cX9_creditComes 119 = .ok (.iaload, 1) := by decide +kernel
theorem dX9_creditComes_120 : decode cX9_creditComes 120 = .ok (.iconst 1, 1) := by decide +kernel
theorem dX9_creditComes_121 : decode cX9_creditComes 121 = .ok (.iadd, 1) := by decide +kernel
theorem dX9_creditComes_122 : decode cX9_creditComes 122 = .ok (.iastore, 1) := by decide +kernel
theorem dX9_creditComes_123 : decode cX9_creditComes 123 = .ok (.iconst 1, 1) := by decide +kernel
theorem dX9_creditComes_124 : decode cX9_creditComes 124 = .ok (.ireturn, 1) := by decide +kernel
theorem c_X9_creditComes {a0 : Nat} {a1 : Int32} : CWp S N d MX9_creditComes [.ref a0, .int a1] I J P Q ↔ Wp S N d MX9_creditComes 0 [some (.ref a0), some (.int a1), none, none, none] [] I J P Q := by
  rw [cwp_iff]
  exact ⟨fun h => h.2, fun h => ⟨Nat.le_of_ble_eq_true rfl, h⟩⟩
theorem e_X9_creditComes_0 {w : Nat} {x1 x2 x3 x4 : Option Value} : Wp S N d MX9_creditComes 0 [some (.ref w), x1, x2, x3, x4] [] I J P Q ↔ Wp S N d MX9_creditComes 1 [some (.ref w), x1, x2, x3, x4] [.ref w] I J P Q := wp_lod (len := 1) rfl rfl rfl rfl dX9_creditComes_0
theorem e_X9_creditComes_1 {v0 : Nat} {x0 x1 x2 x3 x4 : Option Value} : Wp S N d MX9_creditComes 1 [x0, x1, x2, x3, x4] [.ref v0] I J P Q ↔ S v0 = 9 ∧ Wp S N d MX9_creditComes 4 [x0, x1, x2, x3, x4] [va_rf (P v0 15)] I J P Q := wp_getf rfl rfl rfl rfl dX9_creditComes_1
theorem e_X9_creditComes_4 {v0 : Nat} {x0 x1 x2 x3 x4 : Option Value} : Wp S N d MX9_creditComes 4 [x0, x1, x2, x3, x4] [.ref v0] I J P Q ↔ Wp S N d MX9_creditComes 6 [x0, x1, x2, x3, x4] [.int 27, .ref v0] I J P Q := wp_bipush (by decide) dX9_creditComes_4
theorem e_X9_creditComes_6 {v0 : Int32} {v1 : Nat} {x0 x1 x2 x3 x4 : Option Value} : Wp S N d MX9_creditComes 6 [x0, x1, x2, x3, x4] [.int v0, .ref v1] I J P Q ↔ (S v1 = 10 ∧ vp_in v0 (N v1)) ∧ Wp S N d MX9_creditComes 7 [x0, x1, x2, x3, x4] [.int (I v1 v0.toNatClampNeg)] I J P Q := wp_ald rfl rfl dX9_creditComes_6
theorem e_X9_creditComes_7 {v0 : Int32} {x0 x1 x2 x3 x4 : Option Value} : Wp S N d MX9_creditComes 7 [x0, x1, x2, x3, x4] [.int v0] I J P Q ↔ Wp S N d MX9_creditComes 9 [x0, x1, x2, x3, x4] [.int 6, .int v0] I J P Q := wp_bipush (by decide) dX9_creditComes_7
theorem e_X9_creditComes_9 {v0 : Int32} {v1 : Int32} {x0 x1 x2 x3 x4 : Option Value} : Wp S N d MX9_creditComes 9 [x0, x1, x2, x3, x4] [.int v0, .int v1] I J P Q ↔ (v0 ≤ v1 → Wp S N d MX9_creditComes 16 [x0, x1, x2, x3, x4] [] I J P Q) ∧ (¬ v0 ≤ v1 → Wp S N d MX9_creditComes 12 [x0, x1, x2, x3, x4] [] I J P Q) := wp_br rfl rfl (by decide) dX9_creditComes_9
theorem e_X9_creditComes_12  {x0 x1 x2 x3 x4 : Option Value} : Wp S N d MX9_creditComes 12 [x0, x1, x2, x3, x4] [] I J P Q ↔ Wp S N d MX9_creditComes 13 [x0, x1, x2, x3, x4] [.int 1] I J P Q := wp_iconst (by decide) dX9_creditComes_12
theorem e_X9_creditComes_13 {v0 : Int32} {x0 x1 x2 x3 x4 : Option Value} : Wp S N d MX9_creditComes 13 [x0, x1, x2, x3, x4] [.int v0] I J P Q ↔ Wp S N d MX9_creditComes 17 [x0, x1, x2, x3, x4] [.int v0] I J P Q := wp_go (len := 3) rfl (fun _ _ => rfl) rfl (by decide) dX9_creditComes_13
theorem e_X9_creditComes_16  {x0 x1 x2 x3 x4 : Option Value} : Wp S N d MX9_creditComes 16 [x0, x1, x2, x3, x4] [] I J P Q ↔ Wp S N d MX9_creditComes 17 [x0, x1, x2, x3, x4] [.int 0] I J P Q := wp_iconst (by decide) dX9_creditComes_16
theorem e_X9_creditComes_17 {v0 : Int32} {x0 x1 x2 x3 x4 : Option Value} : Wp S N d MX9_creditComes 17 [x0, x1, x2, x3, x4] [.int v0] I J P Q ↔ Wp S N d MX9_creditComes 18 [x0, kl x1, some (.int v0), x3, x4] [] I J P Q := wp_sto (len := 1) rfl rfl rfl rfl (Nat.le_of_ble_eq_true rfl) rfl dX9_creditComes_17
theorem e_X9_creditComes_18  {x0 x1 x2 x3 x4 : Option Value} : Wp S N d MX9_creditComes 18 [x0, x1, x2, x3, x4] [] I J P Q ↔ Wp S N d MX9_creditComes 20 [x0, x1, x2, x3, x4] [.int 28] I J P Q := wp_bipush (by decide) dX9_creditComes_18
theorem e_X9_creditComes_20 {v0 : Int32} {x0 x1 x2 x3 x4 : Option Value} : Wp S N d MX9_creditComes 20 [x0, x1, x2, x3, x4] [.int v0] I J P Q ↔ Wp S N d MX9_creditComes 22 [x0, x1, x2, x3, x4] [.int 6, .int v0] I J P Q := wp_bipush (by decide) dX9_creditComes_20
theorem e_X9_creditComes_22 {v0 : Int32} {v1 : Int32} {w : Nat} {x1 x2 x3 x4 : Option Value} : Wp S N d MX9_creditComes 22 [some (.ref w), x1, x2, x3, x4] [.int v0, .int v1] I J P Q ↔ Wp S N d MX9_creditComes 23 [some (.ref w), x1, x2, x3, x4] [.ref w, .int v0, .int v1] I J P Q := wp_lod (len := 1) rfl rfl rfl rfl dX9_creditComes_22
theorem e_X9_creditComes_23 {v0 : Nat} {v1 : Int32} {v2 : Int32} {x0 x1 x2 x3 x4 : Option Value} : Wp S N d MX9_creditComes 23 [x0, x1, x2, x3, x4] [.ref v0, .int v1, .int v2] I J P Q ↔ S v0 = 9 ∧ Wp S N d MX9_creditComes 26 [x0, x1, x2, x3, x4] [va_rf (P v0 15), .int v1, .int v2] I J P Q := wp_getf rfl rfl rfl rfl dX9_creditComes_23
theorem e_X9_creditComes_26 {v0 : Nat} {v1 : Int32} {v2 : Int32} {x0 x1 x2 x3 x4 : Option Value} : Wp S N d MX9_creditComes 26 [x0, x1, x2, x3, x4] [.ref v0, .int v1, .int v2] I J P Q ↔ Wp S N d MX9_creditComes 28 [x0, x1, x2, x3, x4] [.int 27, .ref v0, .int v1, .int v2] I J P Q := wp_bipush (by decide) dX9_creditComes_26
theorem e_X9_creditComes_28 {v0 : Int32} {v1 : Nat} {v2 : Int32} {v3 : Int32} {x0 x1 x2 x3 x4 : Option Value} : Wp S N d MX9_creditComes 28 [x0, x1, x2, x3, x4] [.int v0, .ref v1, .int v2, .int v3] I J P Q ↔ (S v1 = 10 ∧ vp_in v0 (N v1)) ∧ Wp S N d MX9_creditComes 29 [x0, x1, x2, x3, x4] [.int (I v1 v0.toNatClampNeg), .int v2, .int v3] I J P Q := wp_ald rfl rfl dX9_creditComes_28
theorem e_X9_creditComes_29 {v0 : Int32} {v1 : Int32} {v2 : Int32} {x0 x1 x2 x3 x4 : Option Value} : Wp S N d MX9_creditComes 29 [x0, x1, x2, x3, x4] [.int v0, .int v1, .int v2] I J P Q ↔ Wp S N d MX9_creditComes 30 [x0, x1, x2, x3, x4] [.int (v1 * v0), .int v2] I J P Q := wp_alu (len := 1) rfl rfl rfl dX9_creditComes_29
theorem e_X9_creditComes_30 {v0 : Int32} {v1 : Int32} {x0 x1 x2 x3 x4 : Option Value} : Wp S N d MX9_creditComes 30 [x0, x1, x2, x3, x4] [.int v0, .int v1] I J P Q ↔ Wp S N d MX9_creditComes 31 [x0, x1, x2, x3, x4] [.int (v1 + v0)] I J P Q := wp_alu (len := 1) rfl rfl rfl dX9_creditComes_30
theorem e_X9_creditComes_31 {v0 : Int32} {x0 x1 x2 x3 x4 : Option Value} : Wp S N d MX9_creditComes 31 [x0, x1, x2, x3, x4] [.int v0] I J P Q ↔ Wp S N d MX9_creditComes 32 [x0, x1, kl x2, some (.int v0), x4] [] I J P Q := wp_sto (len := 1) rfl rfl rfl rfl (Nat.le_of_ble_eq_true rfl) rfl dX9_creditComes_31
theorem e_X9_creditComes_32 {w : Nat} {x1 x2 x3 x4 : Option Value} : Wp S N d MX9_creditComes 32 [some (.ref w), x1, x2, x3, x4] [] I J P Q ↔ Wp S N d MX9_creditComes 33 [some (.ref w), x1, x2, x3, x4] [.ref w] I J P Q := wp_lod (len := 1) rfl rfl rfl rfl dX9_creditComes_32
theorem e_X9_creditComes_33 {v0 : Nat} {w : Int32} {x0 x1 x3 x4 : Option Value} : Wp S N d MX9_creditComes 33 [x0, x1, some (.int w), x3, x4] [.ref v0] I J P Q ↔ Wp S N d MX9_creditComes 34 [x0, x1, some (.int w), x3, x4] [.int w, .ref v0] I J P Q := wp_lod (len := 1) rfl rfl rfl rfl dX9_creditComes_33
theorem e_X9_creditComes_34 {v0 : Int32} {v1 : Nat} {x0 x1 x2 x3 x4 : Option Value} : Wp S N d MX9_creditComes 34 [x0, x1, x2, x3, x4] [.int v0, .ref v1] I J P Q ↔ (v0 = 0 → Wp S N d MX9_creditComes 43 [x0, x1, x2, x3, x4] [.ref v1] I J P Q) ∧ (¬ v0 = 0 → Wp S N d MX9_creditComes 37 [x0, x1, x2, x3, x4] [.ref v1] I J P Q) := wp_br rfl rfl (by decide) dX9_creditComes_34
theorem e_X9_creditComes_37 {v0 : Nat} {w : Int32} {x0 x1 x2 x4 : Option Value} : Wp S N d MX9_creditComes 37 [x0, x1, x2, some (.int w), x4] [.ref v0] I J P Q ↔ Wp S N d MX9_creditComes 38 [x0, x1, x2, some (.int w), x4] [.int w, .ref v0] I J P Q := wp_lod (len := 1) rfl rfl rfl rfl dX9_creditComes_37
theorem e_X9_creditComes_38 {v0 : Int32} {v1 : Nat} {x0 x1 x2 x3 x4 : Option Value} : Wp S N d MX9_creditComes 38 [x0, x1, x2, x3, x4] [.int v0, .ref v1] I J P Q ↔ Wp S N d MX9_creditComes 39 [x0, x1, x2, x3, x4] [.int 1, .int v0, .ref v1] I J P Q := wp_iconst (by decide) dX9_creditComes_38
theorem e_X9_creditComes_39 {v0 : Int32} {v1 : Int32} {v2 : Nat} {x0 x1 x2 x3 x4 : Option Value} : Wp S N d MX9_creditComes 39 [x0, x1, x2, x3, x4] [.int v0, .int v1, .ref v2] I J P Q ↔ Wp S N d MX9_creditComes 40 [x0, x1, x2, x3, x4] [.int (v1 + v0), .ref v2] I J P Q := wp_alu (len := 1) rfl rfl rfl dX9_creditComes_39
theorem e_X9_creditComes_40 {v0 : Int32} {v1 : Nat} {x0 x1 x2 x3 x4 : Option Value} : Wp S N d MX9_creditComes 40 [x0, x1, x2, x3, x4] [.int v0, .ref v1] I J P Q ↔ Wp S N d MX9_creditComes 44 [x0, x1, x2, x3, x4] [.int v0, .ref v1] I J P Q := wp_go (len := 3) rfl (fun _ _ => rfl) rfl (by decide) dX9_creditComes_40
theorem e_X9_creditComes_43 {v0 : Nat} {x0 x1 x2 x3 x4 : Option Value} : Wp S N d MX9_creditComes 43 [x0, x1, x2, x3, x4] [.ref v0] I J P Q ↔ Wp S N d MX9_creditComes 44 [x0, x1, x2, x3, x4] [.int (-1), .ref v0] I J P Q := wp_iconst (by decide) dX9_creditComes_43
theorem e_X9_creditComes_44 {v0 : Int32} {v1 : Nat} {x0 x1 x2 x3 x4 : Option Value} : Wp S N d MX9_creditComes 44 [x0, x1, x2, x3, x4] [.int v0, .ref v1] I J P Q ↔ Wp S N d MX9_creditComes 45 [x0, x1, x2, x3, x4] [.int 4, .int v0, .ref v1] I J P Q := wp_iconst (by decide) dX9_creditComes_44
theorem e_X9_creditComes_45 {v0 : Int32} {v1 : Int32} {v2 : Nat} {x0 x1 x2 x3 x4 : Option Value} : Wp S N d MX9_creditComes 45 [x0, x1, x2, x3, x4] [.int v0, .int v1, .ref v2] I J P Q ↔ Wp S N d MX9_creditComes 47 [x0, x1, x2, x3, x4] [.int 10, .int v0, .int v1, .ref v2] I J P Q := wp_bipush (by decide) dX9_creditComes_45
theorem e_X9_creditComes_47 {v0 : Int32} {v1 : Int32} {v2 : Int32} {v3 : Nat} {x0 x1 x2 x3 x4 : Option Value} : Wp S N (d + 1) MX9_creditComes 47 [x0, x1, x2, x3, x4] [.int v0, .int v1, .int v2, .ref v3] I J P Q ↔ S v3 = 9 ∧ CWp S N d MX9_numbers [.ref v3, .int v2, .int v1, .int v0] I J P (fun r I1 J1 P1 => Wp S N (d + 1) MX9_creditComes 50 [x0, x1, x2, x3, x4] (r.toList ++ []) I1 J1 P1 Q) := wp_callV (M' := MX9_numbers) (As := [.int v2, .int v1, .int v0]) rfl rfl rfl rfl (by decide) (Nat.le_of_ble_eq_true rfl) dX9_creditComes_47
theorem e_X9_creditComes_50 {v0 : Int32} {x0 x1 x2 x3 x4 : Option Value} : Wp S N d MX9_creditComes 50 [x0, x1, x2, x3, x4] [.int v0] I J P Q ↔ (¬ v0 = 0 → Wp S N d MX9_creditComes 55 [x0, x1, x2, x3, x4] [] I J P Q) ∧ (v0 = 0 → Wp S N d MX9_creditComes 53 [x0, x1, x2, x3, x4] [] I J P Q) := wp_brn rfl rfl (by decide) dX9_creditComes_50
theorem e_X9_creditComes_53  {x0 x1 x2 x3 x4 : Option Value} : Wp S N d MX9_creditComes 53 [x0, x1, x2, x3, x4] [] I J P Q ↔ Wp S N d MX9_creditComes 54 [x0, x1, x2, x3, x4] [.int 0] I J P Q := wp_iconst (by decide) dX9_creditComes_53
theorem e_X9_creditComes_54 {v0 : Int32} (hb : isB v0) {x0 x1 x2 x3 x4 : Option Value} : Wp S N d MX9_creditComes 54 [x0, x1, x2, x3, x4] [.int v0] I J P Q ↔ Q (some (.int v0)) I J P := wp_zret rfl dX9_creditComes_54 hb
theorem e_X9_creditComes_55 {w : Nat} {x1 x2 x3 x4 : Option Value} : Wp S N d MX9_creditComes 55 [some (.ref w), x1, x2, x3, x4] [] I J P Q ↔ Wp S N d MX9_creditComes 56 [some (.ref w), x1, x2, x3, x4] [.ref w] I J P Q := wp_lod (len := 1) rfl rfl rfl rfl dX9_creditComes_55
theorem e_X9_creditComes_56 {v0 : Nat} {x0 x1 x2 x3 x4 : Option Value} : Wp S N d MX9_creditComes 56 [x0, x1, x2, x3, x4] [.ref v0] I J P Q ↔ Wp S N d MX9_creditComes 58 [x0, x1, x2, x3, x4] [.int 42, .ref v0] I J P Q := wp_bipush (by decide) dX9_creditComes_56
theorem e_X9_creditComes_58 {v0 : Int32} {v1 : Nat} {x0 x1 x2 x3 x4 : Option Value} : Wp S N (d + 1) MX9_creditComes 58 [x0, x1, x2, x3, x4] [.int v0, .ref v1] I J P Q ↔ S v1 = 9 ∧ CWp S N d MX9_skips [.ref v1, .int v0] I J P (fun r I1 J1 P1 => Wp S N (d + 1) MX9_creditComes 61 [x0, x1, x2, x3, x4] (r.toList ++ []) I1 J1 P1 Q) := wp_callV (M' := MX9_skips) (As := [.int v0]) rfl rfl rfl rfl (by decide) (Nat.le_of_ble_eq_true rfl) dX9_creditComes_58
theorem e_X9_creditComes_61 {v0 : Int32} {x0 x1 x2 x3 x4 : Option Value} : Wp S N d MX9_creditComes 61 [x0, x1, x2, x3, x4] [.int v0] I J P Q ↔ Wp S N d MX9_creditComes 63 [x0, x1, x2, kl x3, some (.int v0)] [] I J P Q := wp_sto (len := 2) rfl rfl rfl rfl (Nat.le_of_ble_eq_true rfl) rfl dX9_creditComes_61
theorem e_X9_creditComes_63 {w : Nat} {x1 x2 x3 x4 : Option Value} : Wp S N d MX9_creditComes 63 [some (.ref w), x1, x2, x3, x4] [] I J P Q ↔ Wp S N d MX9_creditComes 64 [some (.ref w), x1, x2, x3, x4] [.ref w] I J P Q := wp_lod (len := 1) rfl rfl rfl rfl dX9_creditComes_63
theorem e_X9_creditComes_64 {v0 : Nat} {w : Nat} {x1 x2 x3 x4 : Option Value} : Wp S N d MX9_creditComes 64 [some (.ref w), x1, x2, x3, x4] [.ref v0] I J P Q ↔ Wp S N d MX9_creditComes 65 [some (.ref w), x1, x2, x3, x4] [.ref w, .ref v0] I J P Q := wp_lod (len := 1) rfl rfl rfl rfl dX9_creditComes_64
theorem e_X9_creditComes_65 {v0 : Nat} {v1 : Nat} {x0 x1 x2 x3 x4 : Option Value} : Wp S N d MX9_creditComes 65 [x0, x1, x2, x3, x4] [.ref v0, .ref v1] I J P Q ↔ S v0 = 9 ∧ Wp S N d MX9_creditComes 68 [x0, x1, x2, x3, x4] [.int (I v0 14), .ref v1] I J P Q := wp_getf rfl rfl rfl rfl dX9_creditComes_65
theorem e_X9_creditComes_68 {v0 : Int32} {v1 : Nat} {x0 x1 x2 x3 x4 : Option Value} : Wp S N d MX9_creditComes 68 [x0, x1, x2, x3, x4] [.int v0, .ref v1] I J P Q ↔ (¬ v0 = 0 → Wp S N d MX9_creditComes 75 [x0, x1, x2, x3, x4] [.ref v1] I J P Q) ∧ (v0 = 0 → Wp S N d MX9_creditComes 71 [x0, x1, x2, x3, x4] [.ref v1] I J P Q) := wp_brn rfl rfl (by decide) dX9_creditComes_68
theorem e_X9_creditComes_71 {v0 : Nat} {w : Int32} {x0 x1 x3 x4 : Option Value} : Wp S N d MX9_creditComes 71 [x0, x1, some (.int w), x3, x4] [.ref v0] I J P Q ↔ Wp S N d MX9_creditComes 72 [x0, x1, some (.int w), x3, x4] [.int w, .ref v0] I J P Q := wp_lod (len := 1) rfl rfl rfl rfl dX9_creditComes_71
theorem e_X9_creditComes_72 {v0 : Int32} {v1 : Nat} {x0 x1 x2 x3 x4 : Option Value} : Wp S N d MX9_creditComes 72 [x0, x1, x2, x3, x4] [.int v0, .ref v1] I J P Q ↔ (¬ v0 = 0 → Wp S N d MX9_creditComes 79 [x0, x1, x2, x3, x4] [.ref v1] I J P Q) ∧ (v0 = 0 → Wp S N d MX9_creditComes 75 [x0, x1, x2, x3, x4] [.ref v1] I J P Q) := wp_brn rfl rfl (by decide) dX9_creditComes_72
theorem e_X9_creditComes_75 {v0 : Nat} {x0 x1 x2 x3 x4 : Option Value} : Wp S N d MX9_creditComes 75 [x0, x1, x2, x3, x4] [.ref v0] I J P Q ↔ Wp S N d MX9_creditComes 76 [x0, x1, x2, x3, x4] [.int 1, .ref v0] I J P Q := wp_iconst (by decide) dX9_creditComes_75
theorem e_X9_creditComes_76 {v0 : Int32} {v1 : Nat} {x0 x1 x2 x3 x4 : Option Value} : Wp S N d MX9_creditComes 76 [x0, x1, x2, x3, x4] [.int v0, .ref v1] I J P Q ↔ Wp S N d MX9_creditComes 80 [x0, x1, x2, x3, x4] [.int v0, .ref v1] I J P Q := wp_go (len := 3) rfl (fun _ _ => rfl) rfl (by decide) dX9_creditComes_76
theorem e_X9_creditComes_79 {v0 : Nat} {x0 x1 x2 x3 x4 : Option Value} : Wp S N d MX9_creditComes 79 [x0, x1, x2, x3, x4] [.ref v0] I J P Q ↔ Wp S N d MX9_creditComes 80 [x0, x1, x2, x3, x4] [.int 0, .ref v0] I J P Q := wp_iconst (by decide) dX9_creditComes_79
theorem e_X9_creditComes_80 {v0 : Int32} {v1 : Nat} (hb : isB v0) {x0 x1 x2 x3 x4 : Option Value} : Wp S N d MX9_creditComes 80 [x0, x1, x2, x3, x4] [.int v0, .ref v1] I J P Q ↔ S v1 = 9 ∧ Wp S N d MX9_creditComes 83 [x0, x1, x2, x3, x4] [] (u2 I v1 14 v0) J P Q := wp_putZ rfl rfl rfl rfl dX9_creditComes_80 hb
theorem e_X9_creditComes_83 {w : Int32} {x0 x1 x3 x4 : Option Value} : Wp S N d MX9_creditComes 83 [x0, x1, some (.int w), x3, x4] [] I J P Q ↔ Wp S N d MX9_creditComes 84 [x0, x1, some (.int w), x3, x4] [.int w] I J P Q := wp_lod (len := 1) rfl rfl rfl rfl dX9_creditComes_83
theorem e_X9_creditComes_84 {v0 : Int32} {x0 x1 x2 x3 x4 : Option Value} : Wp S N d MX9_creditComes 84 [x0, x1, x2, x3, x4] [.int v0] I J P Q ↔ (v0 = 0 → Wp S N d MX9_creditComes 123 [x0, x1, x2, x3, x4] [] I J P Q) ∧ (¬ v0 = 0 → Wp S N d MX9_creditComes 87 [x0, x1, x2, x3, x4] [] I J P Q) := wp_br rfl rfl (by decide) dX9_creditComes_84
theorem e_X9_creditComes_87 {w : Nat} {x1 x2 x3 x4 : Option Value} : Wp S N d MX9_creditComes 87 [some (.ref w), x1, x2, x3, x4] [] I J P Q ↔ Wp S N d MX9_creditComes 88 [some (.ref w), x1, x2, x3, x4] [.ref w] I J P Q := wp_lod (len := 1) rfl rfl rfl rfl dX9_creditComes_87
theorem e_X9_creditComes_88 {v0 : Nat} {x0 x1 x2 x3 x4 : Option Value} : Wp S N d MX9_creditComes 88 [x0, x1, x2, x3, x4] [.ref v0] I J P Q ↔ S v0 = 9 ∧ Wp S N d MX9_creditComes 91 [x0, x1, x2, x3, x4] [va_rf (P v0 15)] I J P Q := wp_getf rfl rfl rfl rfl dX9_creditComes_88
theorem e_X9_creditComes_91 {v0 : Nat} {w : Int32} {x0 x1 x2 x4 : Option Value} : Wp S N d MX9_creditComes 91 [x0, x1, x2, some (.int w), x4] [.ref v0] I J P Q ↔ Wp S N d MX9_creditComes 92 [x0, x1, x2, some (.int w), x4] [.int w, .ref v0] I J P Q := wp_lod (len := 1) rfl rfl rfl rfl dX9_creditComes_91
theorem e_X9_creditComes_92 {v0 : Int32} {v1 : Nat} {w : Int32} {x0 x2 x3 x4 : Option Value} : Wp S N d MX9_creditComes 92 [x0, some (.int w), x2, x3, x4] [.int v0, .ref v1] I J P Q ↔ Wp S N d MX9_creditComes 93 [x0, some (.int w), x2, x3, x4] [.int w, .int v0, .ref v1] I J P Q := wp_lod (len := 1) rfl rfl rfl rfl dX9_creditComes_92
theorem e_X9_creditComes_93 {v0 : Int32} {v1 : Int32} {v2 : Nat} {x0 x1 x2 x3 x4 : Option Value} : Wp S N d MX9_creditComes 93 [x0, x1, x2, x3, x4] [.int v0, .int v1, .ref v2] I J P Q ↔ (S v2 = 10 ∧ vp_in v1 (N v2)) ∧ Wp S N d MX9_creditComes 94 [x0, x1, x2, x3, x4] [] (u2 I v2 v1.toNatClampNeg v0) J P Q := wp_ast rfl rfl dX9_creditComes_93
theorem e_X9_creditComes_94 {w : Nat} {x1 x2 x3 x4 : Option Value} : Wp S N d MX9_creditComes 94 [some (.ref w), x1, x2, x3, x4] [] I J P Q ↔ Wp S N d MX9_creditComes 95 [some (.ref w), x1, x2, x3, x4] [.ref w] I J P Q := wp_lod (len := 1) rfl rfl rfl rfl dX9_creditComes_94
theorem e_X9_creditComes_95 {v0 : Nat} {x0 x1 x2 x3 x4 : Option Value} : Wp S N d MX9_creditComes 95 [x0, x1, x2, x3, x4] [.ref v0] I J P Q ↔ S v0 = 9 ∧ Wp S N d MX9_creditComes 98 [x0, x1, x2, x3, x4] [va_rf (P v0 15)] I J P Q := wp_getf rfl rfl rfl rfl dX9_creditComes_95
theorem e_X9_creditComes_98 {v0 : Nat} {w : Int32} {x0 x1 x2 x4 : Option Value} : Wp S N d MX9_creditComes 98 [x0, x1, x2, some (.int w), x4] [.ref v0] I J P Q ↔ Wp S N d MX9_creditComes 99 [x0, x1, x2, some (.int w), x4] [.int w, .ref v0] I J P Q := wp_lod (len := 1) rfl rfl rfl rfl dX9_creditComes_98
theorem e_X9_creditComes_99 {v0 : Int32} {v1 : Nat} {x0 x1 x2 x3 x4 : Option Value} : Wp S N d MX9_creditComes 99 [x0, x1, x2, x3, x4] [.int v0, .ref v1] I J P Q ↔ Wp S N d MX9_creditComes 100 [x0, x1, x2, x3, x4] [.int 5, .int v0, .ref v1] I J P Q := wp_iconst (by decide) dX9_creditComes_99
theorem e_X9_creditComes_100 {v0 : Int32} {v1 : Int32} {v2 : Nat} {x0 x1 x2 x3 x4 : Option Value} : Wp S N d MX9_creditComes 100 [x0, x1, x2, x3, x4] [.int v0, .int v1, .ref v2] I J P Q ↔ Wp S N d MX9_creditComes 101 [x0, x1, x2, x3, x4] [.int (v1 + v0), .ref v2] I J P Q := wp_alu (len := 1) rfl rfl rfl dX9_creditComes_100
theorem e_X9_creditComes_101 {v0 : Int32} {v1 : Nat} {w : Int32} {x0 x1 x2 x3 : Option Value} : Wp S N d MX9_creditComes 101 [x0, x1, x2, x3, some (.int w)] [.int v0, .ref v1] I J P Q ↔ Wp S N d MX9_creditComes 103 [x0, x1, x2, x3, some (.int w)] [.int w, .int v0, .ref v1] I J P Q := wp_lod (len := 2) rfl rfl rfl rfl dX9_creditComes_101
theorem e_X9_creditComes_103 {v0 : Int32} {v1 : Int32} {v2 : Nat} {x0 x1 x2 x3 x4 : Option Value} : Wp S N d MX9_creditComes 103 [x0, x1, x2, x3, x4] [.int v0, .int v1, .ref v2] I J P Q ↔ (v0 = 0 → Wp S N d MX9_creditComes 110 [x0, x1, x2, x3, x4] [.int v1, .ref v2] I J P Q) ∧ (¬ v0 = 0 → Wp S N d MX9_creditComes 106 [x0, x1, x2, x3, x4] [.int v1, .ref v2] I J P Q) := wp_br rfl rfl (by decide) dX9_creditComes_103
theorem e_X9_creditComes_106 {v0 : Int32} {v1 : Nat} {x0 x1 x2 x3 x4 : Option Value} : Wp S N d MX9_creditComes 106 [x0, x1, x2, x3, x4] [.int v0, .ref v1] I J P Q ↔ Wp S N d MX9_creditComes 107 [x0, x1, x2, x3, x4] [.int 1, .int v0, .ref v1] I J P Q := wp_iconst (by decide) dX9_creditComes_106
theorem e_X9_creditComes_107 {v0 : Int32} {v1 : Int32} {v2 : Nat} {x0 x1 x2 x3 x4 : Option Value} : Wp S N d MX9_creditComes 107 [x0, x1, x2, x3, x4] [.int v0, .int v1, .ref v2] I J P Q ↔ Wp S N d MX9_creditComes 111 [x0, x1, x2, x3, x4] [.int v0, .int v1, .ref v2] I J P Q := wp_go (len := 3) rfl (fun _ _ => rfl) rfl (by decide) dX9_creditComes_107
theorem e_X9_creditComes_110 {v0 : Int32} {v1 : Nat} {x0 x1 x2 x3 x4 : Option Value} : Wp S N d MX9_creditComes 110 [x0, x1, x2, x3, x4] [.int v0, .ref v1] I J P Q ↔ Wp S N d MX9_creditComes 111 [x0, x1, x2, x3, x4] [.int 0, .int v0, .ref v1] I J P Q := wp_iconst (by decide) dX9_creditComes_110
theorem e_X9_creditComes_111 {v0 : Int32} {v1 : Int32} {v2 : Nat} {x0 x1 x2 x3 x4 : Option Value} : Wp S N d MX9_creditComes 111 [x0, x1, x2, x3, x4] [.int v0, .int v1, .ref v2] I J P Q ↔ (S v2 = 10 ∧ vp_in v1 (N v2)) ∧ Wp S N d MX9_creditComes 112 [x0, x1, x2, x3, x4] [] (u2 I v2 v1.toNatClampNeg v0) J P Q := wp_ast rfl rfl dX9_creditComes_111
theorem e_X9_creditComes_112 {w : Nat} {x1 x2 x3 x4 : Option Value} : Wp S N d MX9_creditComes 112 [some (.ref w), x1, x2, x3, x4] [] I J P Q ↔ Wp S N d MX9_creditComes 113 [some (.ref w), x1, x2, x3, x4] [.ref w] I J P Q := wp_lod (len := 1) rfl rfl rfl rfl dX9_creditComes_112
theorem e_X9_creditComes_113 {v0 : Nat} {x0 x1 x2 x3 x4 : Option Value} : Wp S N d MX9_creditComes 113 [x0, x1, x2, x3, x4] [.ref v0] I J P Q ↔ S v0 = 9 ∧ Wp S N d MX9_creditComes 116 [x0, x1, x2, x3, x4] [va_rf (P v0 15)] I J P Q := wp_getf rfl rfl rfl rfl dX9_creditComes_113
theorem e_X9_creditComes_116 {v0 : Nat} {x0 x1 x2 x3 x4 : Option Value} : Wp S N d MX9_creditComes 116 [x0, x1, x2, x3, x4] [.ref v0] I J P Q ↔ Wp S N d MX9_creditComes 118 [x0, x1, x2, x3, x4] [.int 27, .ref v0] I J P Q := wp_bipush (by decide) dX9_creditComes_116
theorem e_X9_creditComes_118 {v0 : Int32} {v1 : Nat} {x0 x1 x2 x3 x4 : Option Value} : Wp S N d MX9_creditComes 118 [x0, x1, x2, x3, x4] [.int v0, .ref v1] I J P Q ↔ Wp S N d MX9_creditComes 119 [x0, x1, x2, x3, x4] [.int v0, .ref v1, .int v0, .ref v1] I J P Q := wp_alu (len := 1) rfl rfl rfl dX9_creditComes_118
theorem e_X9_creditComes_119 {v0 : Int32} {v1 : Nat} {v2 : Int32} {v3 : Nat} {x0 x1 x2 x3 x4 : Option Value} : Wp S N d MX9_creditComes 119 [x0, x1, x2, x3, x4] [.int v0, .ref v1, .int v2, .ref v3] I J P Q ↔ (S v1 = 10 ∧ vp_in v0 (N v1)) ∧ Wp S N d MX9_creditComes 120 [x0, x1, x2, x3, x4] [.int (I v1 v0.toNatClampNeg), .int v2, .ref v3] I J P Q := wp_ald rfl rfl dX9_creditComes_119
theorem e_X9_creditComes_120 {v0 : Int32} {v1 : Int32} {v2 : Nat} {x0 x1 x2 x3 x4 : Option Value} : Wp S N d MX9_creditComes 120 [x0, x1, x2, x3, x4] [.int v0, .int v1, .ref v2] I J P Q ↔ Wp S N d MX9_creditComes 121 [x0, x1, x2, x3, x4] [.int 1, .int v0, .int v1, .ref v2] I J P Q := wp_iconst (by decide) dX9_creditComes_120
theorem e_X9_creditComes_121 {v0 : Int32} {v1 : Int32} {v2 : Int32} {v3 : Nat} {x0 x1 x2 x3 x4 : Option Value} : Wp S N d MX9_creditComes 121 [x0, x1, x2, x3, x4] [.int v0, .int v1, .int v2, .ref v3] I J P Q ↔ Wp S N d MX9_creditComes 122 [x0, x1, x2, x3, x4] [.int (v1 + v0), .int v2, .ref v3] I J P Q := wp_alu (len := 1) rfl rfl rfl dX9_creditComes_121
theorem e_X9_creditComes_122 {v0 : Int32} {v1 : Int32} {v2 : Nat} {x0 x1 x2 x3 x4 : Option Value} : Wp S N d MX9_creditComes 122 [x0, x1, x2, x3, x4] [.int v0, .int v1, .ref v2] I J P Q ↔ (S v2 = 10 ∧ vp_in v1 (N v2)) ∧ Wp S N d MX9_creditComes 123 [x0, x1, x2, x3, x4] [] (u2 I v2 v1.toNatClampNeg v0) J P Q := wp_ast rfl rfl dX9_creditComes_122
theorem e_X9_creditComes_123  {x0 x1 x2 x3 x4 : Option Value} : Wp S N d MX9_creditComes 123 [x0, x1, x2, x3, x4] [] I J P Q ↔ Wp S N d MX9_creditComes 124 [x0, x1, x2, x3, x4] [.int 1] I J P Q := wp_iconst (by decide) dX9_creditComes_123
theorem e_X9_creditComes_124 {v0 : Int32} (hb : isB v0) {x0 x1 x2 x3 x4 : Option Value} : Wp S N d MX9_creditComes 124 [x0, x1, x2, x3, x4] [.int v0] I J P Q ↔ Q (some (.int v0)) I J P := wp_zret rfl dX9_creditComes_124 hb
theorem dX9_item_0 : decode cX9_item 0 = .ok (.aload_n 0, 1) := by decide +kernel
theorem dX9_item_1 : decode cX9_item 1 = .ok (.bipush 98, 2) := by decide +kernel
theorem dX9_item_3 : decode cX9_item 3 = .ok (.invokevirtual 97, 3) := by decide +kernel
theorem dX9_item_6 : decode cX9_item 6 = .ok (.ifCond .eq 8, 3) := by decide +kernel
theorem dX9_item_9 : decode cX9_item 9 = .ok (.aload_n 0, 1) := by decide +kernel
theorem dX9_item_10 : decode cX9_item 10 = .ok (.invokevirtual 107, 3) := by decide +kernel
theorem dX9_item_13 : decode cX9_item 13 = .ok (.ireturn, 1) := by decide +kernel
theorem dX9_item_14 : decode cX9_item 14 = .ok (.aload_n 0, 1) := by decide +kernel
theorem dX9_item_15 : decode cX9_item 15 = .ok (.bipush 97, 2) := by decide +kernel
theorem dX9_item_17 : decode cX9_item 17 = .ok (.invokevirtual 97, 3) := by decide +kernel
theorem dX9_item_20 : decode cX9_item 20 = .ok (.ifCond .eq 12, 3) := by decide +kernel
theorem dX9_item_23 : decode cX9_item 23 = .ok (.aload_n 0, 1) := by decide +kernel
theorem dX9_item_24 : decode cX9_item 24 = .ok (.bipush 13, 2) := by decide +kernel
theorem dX9_item_26 : decode cX9_item 26 = .ok (.iconst 3, 1) := by decide +kernel
theorem dX9_item_27 : decode cX9_item 27 = .ok (.iconst 4, 1) := by decide +kernel
theorem dX9_item_28 : decode cX9_item 28 = .ok (.invokevirtual 104, 3) := by decide +kernel
theorem dX9_item_31 : decode cX9_item 31 = .ok (.ireturn, 1) := by decide +kernel
theorem dX9_item_32 : decode cX9_item 32 = .ok (.aload_n 0, 1) := by decide +kernel
theorem dX9_item_33 : decode cX9_item 33 = .ok (.bipush 109, 2) := by decide +kernel
theorem dX9_item_35 : decode cX9_item 35 = .ok (.invokevirtual 97, 3) := by decide +kernel
theorem dX9_item_38 : decode cX9_item 38 = .ok (.ifCond .eq 12, 3) := by decide +kernel
theorem dX9_item_41 : decode cX9_item 41 = .ok (.aload_n 0, 1) := by decide +kernel
theorem dX9_item_42 : decode cX9_item 42 = .ok (.bipush 16, 2) := by decide +kernel
theorem dX9_item_44 : decode cX9_item 44 = .ok (.iconst 2, 1) := by decide +kernel
theorem dX9_item_45 : decode cX9_item 45 = .ok (.iconst 2, 1) := by decide +kernel
theorem dX9_item_46 : decode cX9_item 46 = .ok (.invokevirtual 104, 3) := by decide +kernel
theorem dX9_item_49 : decode cX9_item 49 = .ok (.ireturn, 1) := by decide +kernel
theorem dX9_item_50 : decode cX9_item 50 = .ok (.aload_n 0, 1) := by decide +kernel
theorem dX9_item_51 : decode cX9_item 51 = .ok (.bipush 99, 2) := by decide +kernel
theorem dX9_item_53 : decode cX9_item 53 = .ok (.invokevirtual 97, 3) := by decide +kernel
theorem dX9_item_56 : decode cX9_item 56 = .ok (.ifCond .eq 8, 3) := by decide +kernel
theorem dX9_item_59 : decode cX9_item 59 = .ok (.aload_n 0, 1) := by decide +kernel
theorem dX9_item_60 : decode cX9_item 60 = .ok (.invokevirtual 110, 3) := by decide +kernel
theorem dX9_item_63 : decode cX9_item 63 = .ok (.ireturn, 1) := by decide +kernel
theorem dX9_item_64 : decode cX9_item 64 = .ok (.aload_n 0, 1) := by decide +kernel
theorem dX9_item_65 : decode cX9_item 65 = .ok (.invokevirtual 84, 3) := by decide +kernel
theorem dX9_item_68 : decode cX9_item 68 = .ok (.bipush 110, 2) := by decide +kernel
theorem dX9_item_70 : decode cX9_item 70 = .ok (.if_icmp .ne 7, 3) := by decide +kernel
theorem dX9_item_73 : decode cX9_item 73 = .ok (.iconst 0, 1) := by decide +kernel
theorem dX9_item_74 : decode cX9_item 74 = .ok (.goto 30, 3) := by decide +kernel
theorem dX9_item_77 : decode cX9_item 77 = .ok (.aload_n 0, 1) := by decide +kernel
theorem dX9_item_78 : decode cX9_item 78 = .ok (.invokevirtual 84, 3) := by decide +kernel
theorem dX9_item_81 : decode cX9_item 81 = .ok (.bipush 114, 2) := by decide +kernel
theorem dX9_item_83 : decode cX9_item 83 = .ok (.if_icmp .ne 7, 3) := by decide +kernel
theorem dX9_item_86 : decode cX9_item 86 = .ok (.iconst 1, 1) := by decide +kernel
theorem dX9_item_87 : decode cX9_item 87 = .ok (.goto 17, 3) := by decide +kernel
theorem dX9_item_90 : decode cX9_item 90 = .ok (.aload_n 0, 1) := by decide +kernel
theorem dX9_item_91 : decode cX9_item 91 = .ok (.invokevirtual 84, 3) := by decide +kernel
theorem dX9_item_94 : decode cX9_item 94 = .ok (.bipush 107, 2) := by decide +kernel
theorem dX9_item_96 : decode cX9_item 96 = .ok (.if_icmp .ne 7, 3) := by decide +kernel
theorem dX9_item_99 : decode cX9_item 99 = .ok (.iconst 2, 1) := by decide +kernel
theorem dX9_item_100 : decode cX9_item 100 = .ok (.goto 4, 3) := by decide +kernel
theorem dX9_item_103 : decode cX9_item 103 = .ok (.iconst (-1), 1) := by decide +kernel
theorem dX9_item_104 : decode cX9_item 104 = .ok (.istore_n 1, 1) := by decide +kernel
theorem dX9_item_105 : decode cX9_item 105 = .ok (.iload_n 1, 1) := by decide +kernel
theorem dX9_item_106 : decode cX9_item 106 = .ok (.ifCond .ge 5, 3) := by decide +kernel
theorem dX9_item_109 : decode cX9_item 109 = .ok (.iconst 0, 1) := by decide +kernel
theorem dX9_item_110 : decode cX9_item 110 = .ok (.ireturn, 1) := by decide +kernel
theorem dX9_item_111 : decode cX9_item 111 = .ok (.aload_n 0, 1) := by decide +kernel
theorem dX9_item_112 : decode cX9_item 112 = .ok (.dup, 1) := by decide +kernel
theorem dX9_item_113 : decode cX9_item 113 = .ok (.getfield 81, 3) := by decide +kernel
theorem dX9_item_116 : decode cX9_item 116 = .ok (.iconst 1, 1) := by decide +kernel
theorem dX9_item_117 : decode cX9_item 117 = .ok (.iadd, 1) := by decide +kernel
theorem dX9_item_118 : decode cX9_item 118 = .ok (.putfield 81, 3) := by decide +kernel
theorem dX9_item_121 : decode cX9_item 121 = .ok (.aload_n 0, 1) := by decide +kernel
theorem dX9_item_122 : decode cX9_item 122 = .ok (.iload_n 1, 1) := by decide +kernel
theorem dX9_item_123 : decode cX9_item 123 = .ok (.invokevirtual 113, 3) := by decide +kernel
theorem dX9_item_126 : decode cX9_item 126 = .ok (.ireturn, 1) := by decide +kernel
theorem c_X9_item {a0 : Nat} : CWp S N d MX9_item [.ref a0] I J P Q ↔ Wp S N d MX9_item 0 [some (.ref a0), none] [] I J P Q := by
  rw [cwp_iff]
  exact ⟨fun h => h.2, fun h => ⟨Nat.le_of_ble_eq_true rfl, h⟩⟩
theorem e_X9_item_0 {w : Nat} {x1 : Option Value} : Wp S N d MX9_item 0 [some (.ref w), x1] [] I J P Q ↔ Wp S N d MX9_item 1 [some (.ref w), x1] [.ref w] I J P Q := wp_lod (len := 1) rfl rfl rfl rfl dX9_item_0
theorem e_X9_item_1 {v0 : Nat} {x0 x1 : Option Value} : Wp S N d MX9_item 1 [x0, x1] [.ref v0] I J P Q ↔ Wp S N d MX9_item 3 [x0, x1] [.int 98, .ref v0] I J P Q := wp_bipush (by decide) dX9_item_1
theorem e_X9_item_3 {v0 : Int32} {v1 : Nat} {x0 x1 : Option Value} : Wp S N (d + 1) MX9_item 3 [x0, x1] [.int v0, .ref v1] I J P Q ↔ S v1 = 9 ∧ CWp S N d MX9_skips [.ref v1, .int v0] I J P (fun r I1 J1 P1 => Wp S N (d + 1) MX9_item 6 [x0, x1] (r.toList ++ []) I1 J1 P1 Q) := wp_callV (M' := MX9_skips) (As := [.int v0]) rfl rfl rfl rfl (by decide) (Nat.le_of_ble_eq_true rfl) dX9_item_3
theorem e_X9_item_6 {v0 : Int32} {x0 x1 : Option Value} : Wp S N d MX9_item 6 [x0, x1] [.int v0] I J P Q ↔ (v0 = 0 → Wp S N d MX9_item 14 [x0, x1] [] I J P Q) ∧ (¬ v0 = 0 → Wp S N d MX9_item 9 [x0, x1] [] I J P Q) := wp_br rfl rfl (by decide) dX9_item_6
theorem e_X9_item_9 {w : Nat} {x1 : Option Value} : Wp S N d MX9_item 9 [some (.ref w), x1] [] I J P Q ↔ Wp S N d MX9_item 10 [some (.ref w), x1] [.ref w] I J P Q := wp_lod (len := 1) rfl rfl rfl rfl dX9_item_9
theorem e_X9_item_10 {v0 : Nat} {x0 x1 : Option Value} : Wp S N (d + 1) MX9_item 10 [x0, x1] [.ref v0] I J P Q ↔ S v0 = 9 ∧ CWp S N d MX9_brackets [.ref v0] I J P (fun r I1 J1 P1 => Wp S N (d + 1) MX9_item 13 [x0, x1] (r.toList ++ []) I1 J1 P1 Q) := wp_callV (M' := MX9_brackets) (As := []) rfl rfl rfl rfl (by decide) (Nat.le_of_ble_eq_true rfl) dX9_item_10
theorem e_X9_item_13 {v0 : Int32} (hb : isB v0) {x0 x1 : Option Value} : Wp S N d MX9_item 13 [x0, x1] [.int v0] I J P Q ↔ Q (some (.int v0)) I J P := wp_zret rfl dX9_item_13 hb
theorem e_X9_item_14 {w : Nat} {x1 : Option Value} : Wp S N d MX9_item 14 [some (.ref w), x1] [] I J P Q ↔ Wp S N d MX9_item 15 [some (.ref w), x1] [.ref w] I J P Q := wp_lod (len := 1) rfl rfl rfl rfl dX9_item_14
theorem e_X9_item_15 {v0 : Nat} {x0 x1 : Option Value} : Wp S N d MX9_item 15 [x0, x1] [.ref v0] I J P Q ↔ Wp S N d MX9_item 17 [x0, x1] [.int 97, .ref v0] I J P Q := wp_bipush (by decide) dX9_item_15
theorem e_X9_item_17 {v0 : Int32} {v1 : Nat} {x0 x1 : Option Value} : Wp S N (d + 1) MX9_item 17 [x0, x1] [.int v0, .ref v1] I J P Q ↔ S v1 = 9 ∧ CWp S N d MX9_skips [.ref v1, .int v0] I J P (fun r I1 J1 P1 => Wp S N (d + 1) MX9_item 20 [x0, x1] (r.toList ++ []) I1 J1 P1 Q) := wp_callV (M' := MX9_skips) (As := [.int v0]) rfl rfl rfl rfl (by decide) (Nat.le_of_ble_eq_true rfl) dX9_item_17
theorem e_X9_item_20 {v0 : Int32} {x0 x1 : Option Value} : Wp S N d MX9_item 20 [x0, x1] [.int v0] I J P Q ↔ (v0 = 0 → Wp S N d MX9_item 32 [x0, x1] [] I J P Q) ∧ (¬ v0 = 0 → Wp S N d MX9_item 23 [x0, x1] [] I J P Q) := wp_br rfl rfl (by decide) dX9_item_20
theorem e_X9_item_23 {w : Nat} {x1 : Option Value} : Wp S N d MX9_item 23 [some (.ref w), x1] [] I J P Q ↔ Wp S N d MX9_item 24 [some (.ref w), x1] [.ref w] I J P Q := wp_lod (len := 1) rfl rfl rfl rfl dX9_item_23
theorem e_X9_item_24 {v0 : Nat} {x0 x1 : Option Value} : Wp S N d MX9_item 24 [x0, x1] [.ref v0] I J P Q ↔ Wp S N d MX9_item 26 [x0, x1] [.int 13, .ref v0] I J P Q := wp_bipush (by decide) dX9_item_24
theorem e_X9_item_26 {v0 : Int32} {v1 : Nat} {x0 x1 : Option Value} : Wp S N d MX9_item 26 [x0, x1] [.int v0, .ref v1] I J P Q ↔ Wp S N d MX9_item 27 [x0, x1] [.int 3, .int v0, .ref v1] I J P Q := wp_iconst (by decide) dX9_item_26
theorem e_X9_item_27 {v0 : Int32} {v1 : Int32} {v2 : Nat} {x0 x1 : Option Value} : Wp S N d MX9_item 27 [x0, x1] [.int v0, .int v1, .ref v2] I J P Q ↔ Wp S N d MX9_item 28 [x0, x1] [.int 4, .int v0, .int v1, .ref v2] I J P Q := wp_iconst (by decide) dX9_item_27
theorem e_X9_item_28 {v0 : Int32} {v1 : Int32} {v2 : Int32} {v3 : Nat} {x0 x1 : Option Value} : Wp S N (d + 1) MX9_item 28 [x0, x1] [.int v0, .int v1, .int v2, .ref v3] I J P Q ↔ S v3 = 9 ∧ CWp S N d MX9_numbers [.ref v3, .int v2, .int v1, .int v0] I J P (fun r I1 J1 P1 => Wp S N (d + 1) MX9_item 31 [x0, x1] (r.toList ++ []) I1 J1 P1 Q) := wp_callV (M' := MX9_numbers) (As := [.int v2, .int v1, .int v0]) rfl rfl rfl rfl (by decide) (Nat.le_of_ble_eq_true rfl) dX9_item_28
theorem e_X9_item_31 {v0 : Int32} (hb : isB v0) {x0 x1 : Option Value} : Wp S N d MX9_item 31 [x0, x1] [.int v0] I J P Q ↔ Q (some (.int v0)) I J P := wp_zret rfl dX9_item_31 hb
theorem e_X9_item_32 {w : Nat} {x1 : Option Value} : Wp S N d MX9_item 32 [some (.ref w), x1] [] I J P Q ↔ Wp S N d MX9_item 33 [some (.ref w), x1] [.ref w] I J P Q := wp_lod (len := 1) rfl rfl rfl rfl dX9_item_32
theorem e_X9_item_33 {v0 : Nat} {x0 x1 : Option Value} : Wp S N d MX9_item 33 [x0, x1] [.ref v0] I J P Q ↔ Wp S N d MX9_item 35 [x0, x1] [.int 109, .ref v0] I J P Q := wp_bipush (by decide) dX9_item_33
theorem e_X9_item_35 {v0 : Int32} {v1 : Nat} {x0 x1 : Option Value} : Wp S N (d + 1) MX9_item 35 [x0, x1] [.int v0, .ref v1] I J P Q ↔ S v1 = 9 ∧ CWp S N d MX9_skips [.ref v1, .int v0] I J P (fun r I1 J1 P1 => Wp S N (d + 1) MX9_item 38 [x0, x1] (r.toList ++ []) I1 J1 P1 Q) := wp_callV (M' := MX9_skips) (As := [.int v0]) rfl rfl rfl rfl (by decide) (Nat.le_of_ble_eq_true rfl) dX9_item_35
theorem e_X9_item_38 {v0 : Int32} {x0 x1 : Option Value} : Wp S N d MX9_item 38 [x0, x1] [.int v0] I J P Q ↔ (v0 = 0 → Wp S N d MX9_item 50 [x0, x1] [] I J P Q) ∧ (¬ v0 = 0 → Wp S N d MX9_item 41 [x0, x1] [] I J P Q) := wp_br rfl rfl (by decide) dX9_item_38
theorem e_X9_item_41 {w : Nat} {x1 : Option Value} : Wp S N d MX9_item 41 [some (.ref w), x1] [] I J P Q ↔ Wp S N d MX9_item 42 [some (.ref w), x1] [.ref w] I J P Q := wp_lod (len := 1) rfl rfl rfl rfl dX9_item_41
theorem e_X9_item_42 {v0 : Nat} {x0 x1 : Option Value} : Wp S N d MX9_item 42 [x0, x1] [.ref v0] I J P Q ↔ Wp S N d MX9_item 44 [x0, x1] [.int 16, .ref v0] I J P Q := wp_bipush (by decide) dX9_item_42
theorem e_X9_item_44 {v0 : Int32} {v1 : Nat} {x0 x1 : Option Value} : Wp S N d MX9_item 44 [x0, x1] [.int v0, .ref v1] I J P Q ↔ Wp S N d MX9_item 45 [x0, x1] [.int 2, .int v0, .ref v1] I J P Q := wp_iconst (by decide) dX9_item_44
theorem e_X9_item_45 {v0 : Int32} {v1 : Int32} {v2 : Nat} {x0 x1 : Option Value} : Wp S N d MX9_item 45 [x0, x1] [.int v0, .int v1, .ref v2] I J P Q ↔ Wp S N d MX9_item 46 [x0, x1] [.int 2, .int v0, .int v1, .ref v2] I J P Q := wp_iconst (by decide) dX9_item_45
theorem e_X9_item_46 {v0 : Int32} {v1 : Int32} {v2 : Int32} {v3 : Nat} {x0 x1 : Option Value} : Wp S N (d + 1) MX9_item 46 [x0, x1] [.int v0, .int v1, .int v2, .ref v3] I J P Q ↔ S v3 = 9 ∧ CWp S N d MX9_numbers [.ref v3, .int v2, .int v1, .int v0] I J P (fun r I1 J1 P1 => Wp S N (d + 1) MX9_item 49 [x0, x1] (r.toList ++ []) I1 J1 P1 Q) := wp_callV (M' := MX9_numbers) (As := [.int v2, .int v1, .int v0]) rfl rfl rfl rfl (by decide) (Nat.le_of_ble_eq_true rfl) dX9_item_46
theorem e_X9_item_49 {v0 : Int32} (hb : isB v0) {x0 x1 : Option Value} : Wp S N d MX9_item 49 [x0, x1] [.int v0] I J P Q ↔ Q (some (.int v0)) I J P := wp_zret rfl dX9_item_49 hb
theorem e_X9_item_50 {w : Nat} {x1 : Option Value} : Wp S N d MX9_item 50 [some (.ref w), x1] [] I J P Q ↔ Wp S N d MX9_item 51 [some (.ref w), x1] [.ref w] I J P Q := wp_lod (len := 1) rfl rfl rfl rfl dX9_item_50
theorem e_X9_item_51 {v0 : Nat} {x0 x1 : Option Value} : Wp S N d MX9_item 51 [x0, x1] [.ref v0] I J P Q ↔ Wp S N d MX9_item 53 [x0, x1] [.int 99, .ref v0] I J P Q := wp_bipush (by decide) dX9_item_51
theorem e_X9_item_53 {v0 : Int32} {v1 : Nat} {x0 x1 : Option Value} : Wp S N (d + 1) MX9_item 53 [x0, x1] [.int v0, .ref v1] I J P Q ↔ S v1 = 9 ∧ CWp S N d MX9_skips [.ref v1, .int v0] I J P (fun r I1 J1 P1 => Wp S N (d + 1) MX9_item 56 [x0, x1] (r.toList ++ []) I1 J1 P1 Q) := wp_callV (M' := MX9_skips) (As := [.int v0]) rfl rfl rfl rfl (by decide) (Nat.le_of_ble_eq_true rfl) dX9_item_53
theorem e_X9_item_56 {v0 : Int32} {x0 x1 : Option Value} : Wp S N d MX9_item 56 [x0, x1] [.int v0] I J P Q ↔ (v0 = 0 → Wp S N d MX9_item 64 [x0, x1] [] I J P Q) ∧ (¬ v0 = 0 → Wp S N d MX9_item 59 [x0, x1] [] I J P Q) := wp_br rfl rfl (by decide) dX9_item_56
theorem e_X9_item_59 {w : Nat} {x1 : Option Value} : Wp S N d MX9_item 59 [some (.ref w), x1] [] I J P Q ↔ Wp S N d MX9_item 60 [some (.ref w), x1] [.ref w] I J P Q := wp_lod (len := 1) rfl rfl rfl rfl dX9_item_59
theorem e_X9_item_60 {v0 : Nat} {x0 x1 : Option Value} : Wp S N (d + 1) MX9_item 60 [x0, x1] [.ref v0] I J P Q ↔ S v0 = 9 ∧ CWp S N d MX9_chargeComes [.ref v0] I J P (fun r I1 J1 P1 => Wp S N (d + 1) MX9_item 63 [x0, x1] (r.toList ++ []) I1 J1 P1 Q) := wp_callV (M' := MX9_chargeComes) (As := []) rfl rfl rfl rfl (by decide) (Nat.le_of_ble_eq_true rfl) dX9_item_60
theorem e_X9_item_63 {v0 : Int32} (hb : isB v0) {x0 x1 : Option Value} : Wp S N d MX9_item 63 [x0, x1] [.int v0] I J P Q ↔ Q (some (.int v0)) I J P := wp_zret rfl dX9_item_63 hb
theorem e_X9_item_64 {w : Nat} {x1 : Option Value} : Wp S N d MX9_item 64 [some (.ref w), x1] [] I J P Q ↔ Wp S N d MX9_item 65 [some (.ref w), x1] [.ref w] I J P Q := wp_lod (len := 1) rfl rfl rfl rfl dX9_item_64
theorem e_X9_item_65 {v0 : Nat} {x0 x1 : Option Value} : Wp S N (d + 1) MX9_item 65 [x0, x1] [.ref v0] I J P Q ↔ S v0 = 9 ∧ CWp S N d MX9_here [.ref v0] I J P (fun r I1 J1 P1 => Wp S N (d + 1) MX9_item 68 [x0, x1] (r.toList ++ []) I1 J1 P1 Q) := wp_callV (M' := MX9_here) (As := []) rfl rfl rfl rfl (by decide) (Nat.le_of_ble_eq_true rfl) dX9_item_65
theorem e_X9_item_68 {v0 : Int32} {x0 x1 : Option Value} : Wp S N d MX9_item 68 [x0, x1] [.int v0] I J P Q ↔ Wp S N d MX9_item 70 [x0, x1] [.int 110, .int v0] I J P Q := wp_bipush (by decide) dX9_item_68
theorem e_X9_item_70 {v0 : Int32} {v1 : Int32} {x0 x1 : Option Value} : Wp S N d MX9_item 70 [x0, x1] [.int v0, .int v1] I J P Q ↔ (¬ v1 = v0 → Wp S N d MX9_item 77 [x0, x1] [] I J P Q) ∧ (v1 = v0 → Wp S N d MX9_item 73 [x0, x1] [] I J P Q) := wp_brn rfl rfl (by decide) dX9_item_70
theorem e_X9_item_73  {x0 x1 : Option Value} : Wp S N d MX9_item 73 [x0, x1] [] I J P Q ↔ Wp S N d MX9_item 74 [x0, x1] [.int 0] I J P Q := wp_iconst (by decide) dX9_item_73
theorem e_X9_item_74 {v0 : Int32} {x0 x1 : Option Value} : Wp S N d MX9_item 74 [x0, x1] [.int v0] I J P Q ↔ Wp S N d MX9_item 104 [x0, x1] [.int v0] I J P Q := wp_go (len := 3) rfl (fun _ _ => rfl) rfl (by decide) dX9_item_74
theorem e_X9_item_77 {w : Nat} {x1 : Option Value} : Wp S N d MX9_item 77 [some (.ref w), x1] [] I J P Q ↔ Wp S N d MX9_item 78 [some (.ref w), x1] [.ref w] I J P Q := wp_lod (len := 1) rfl rfl rfl rfl dX9_item_77
theorem e_X9_item_78 {v0 : Nat} {x0 x1 : Option Value} : Wp S N (d + 1) MX9_item 78 [x0, x1] [.ref v0] I J P Q ↔ S v0 = 9 ∧ CWp S N d MX9_here [.ref v0] I J P (fun r I1 J1 P1 => Wp S N (d + 1) MX9_item 81 [x0, x1] (r.toList ++ []) I1 J1 P1 Q) := wp_callV (M' := MX9_here) (As := []) rfl rfl rfl rfl (by decide) (Nat.le_of_ble_eq_true rfl) dX9_item_78
theorem e_X9_item_81 {v0 : Int32} {x0 x1 : Option Value} : Wp S N d MX9_item 81 [x0, x1] [.int v0] I J P Q ↔ Wp S N d MX9_item 83 [x0, x1] [.int 114, .int v0] I J P Q := wp_bipush (by decide) dX9_item_81
theorem e_X9_item_83 {v0 : Int32} {v1 : Int32} {x0 x1 : Option Value} : Wp S N d MX9_item 83 [x0, x1] [.int v0, .int v1] I J P Q ↔ (¬ v1 = v0 → Wp S N d MX9_item 90 [x0, x1] [] I J P Q) ∧ (v1 = v0 → Wp S N d MX9_item 86 [x0, x1] [] I J P Q) := wp_brn rfl rfl (by decide) dX9_item_83
theorem e_X9_item_86  {x0 x1 : Option Value} : Wp S N d MX9_item 86 [x0, x1] [] I J P Q ↔ Wp S N d MX9_item 87 [x0, x1] [.int 1] I J P Q := wp_iconst (by decide) dX9_item_86
theorem e_X9_item_87 {v0 : Int32} {x0 x1 : Option Value} : Wp S N d MX9_item 87 [x0, x1] [.int v0] I J P Q ↔ Wp S N d MX9_item 104 [x0, x1] [.int v0] I J P Q := wp_go (len := 3) rfl (fun _ _ => rfl) rfl (by decide) dX9_item_87
theorem e_X9_item_90 {w : Nat} {x1 : Option Value} : Wp S N d MX9_item 90 [some (.ref w), x1] [] I J P Q ↔ Wp S N d MX9_item 91 [some (.ref w), x1] [.ref w] I J P Q := wp_lod (len := 1) rfl rfl rfl rfl dX9_item_90
theorem e_X9_item_91 {v0 : Nat} {x0 x1 : Option Value} : Wp S N (d + 1) MX9_item 91 [x0, x1] [.ref v0] I J P Q ↔ S v0 = 9 ∧ CWp S N d MX9_here [.ref v0] I J P (fun r I1 J1 P1 => Wp S N (d + 1) MX9_item 94 [x0, x1] (r.toList ++ []) I1 J1 P1 Q) := wp_callV (M' := MX9_here) (As := []) rfl rfl rfl rfl (by decide) (Nat.le_of_ble_eq_true rfl) dX9_item_91
theorem e_X9_item_94 {v0 : Int32} {x0 x1 : Option Value} : Wp S N d MX9_item 94 [x0, x1] [.int v0] I J P Q ↔ Wp S N d MX9_item 96 [x0, x1] [.int 107, .int v0] I J P Q := wp_bipush (by decide) dX9_item_94
theorem e_X9_item_96 {v0 : Int32} {v1 : Int32} {x0 x1 : Option Value} : Wp S N d MX9_item 96 [x0, x1] [.int v0, .int v1] I J P Q ↔ (¬ v1 = v0 → Wp S N d MX9_item 103 [x0, x1] [] I J P Q) ∧ (v1 = v0 → Wp S N d MX9_item 99 [x0, x1] [] I J P Q) := wp_brn rfl rfl (by decide) dX9_item_96
theorem e_X9_item_99  {x0 x1 : Option Value} : Wp S N d MX9_item 99 [x0, x1] [] I J P Q ↔ Wp S N d MX9_item 100 [x0, x1] [.int 2] I J P Q := wp_iconst (by decide) dX9_item_99
theorem e_X9_item_100 {v0 : Int32} {x0 x1 : Option Value} : Wp S N d MX9_item 100 [x0, x1] [.int v0] I J P Q ↔ Wp S N d MX9_item 104 [x0, x1] [.int v0] I J P Q := wp_go (len := 3) rfl (fun _ _ => rfl) rfl (by decide) dX9_item_100
theorem e_X9_item_103  {x0 x1 : Option Value} : Wp S N d MX9_item 103 [x0, x1] [] I J P Q ↔ Wp S N d MX9_item 104 [x0, x1] [.int (-1)] I J P Q := wp_iconst (by decide) dX9_item_103
theorem e_X9_item_104 {v0 : Int32} {x0 x1 : Option Value} : Wp S N d MX9_item 104 [x0, x1] [.int v0] I J P Q ↔ Wp S N d MX9_item 105 [kl x0, some (.int v0)] [] I J P Q := wp_sto (len := 1) rfl rfl rfl rfl (Nat.le_of_ble_eq_true rfl) rfl dX9_item_104
theorem e_X9_item_105 {w : Int32} {x0 : Option Value} : Wp S N d MX9_item 105 [x0, some (.int w)] [] I J P Q ↔ Wp S N d MX9_item 106 [x0, some (.int w)] [.int w] I J P Q := wp_lod (len := 1) rfl rfl rfl rfl dX9_item_105
theorem e_X9_item_106 {v0 : Int32} {x0 x1 : Option Value} : Wp S N d MX9_item 106 [x0, x1] [.int v0] I J P Q ↔ (0 ≤ v0 → Wp S N d MX9_item 111 [x0, x1] [] I J P Q) ∧ (¬ 0 ≤ v0 → Wp S N d MX9_item 109 [x0, x1] [] I J P Q) := wp_br rfl rfl (by decide) dX9_item_106
theorem e_X9_item_109  {x0 x1 : Option Value} : Wp S N d MX9_item 109 [x0, x1] [] I J P Q ↔ Wp S N d MX9_item 110 [x0, x1] [.int 0] I J P Q := wp_iconst (by decide) dX9_item_109
theorem e_X9_item_110 {v0 : Int32} (hb : isB v0) {x0 x1 : Option Value} : Wp S N d MX9_item 110 [x0, x1] [.int v0] I J P Q ↔ Q (some (.int v0)) I J P := wp_zret rfl dX9_item_110 hb
theorem e_X9_item_111 {w : Nat} {x1 : Option Value} : Wp S N d MX9_item 111 [some (.ref w), x1] [] I J P Q ↔ Wp S N d MX9_item 112 [some (.ref w), x1] [.ref w] I J P Q := wp_lod (len := 1) rfl rfl rfl rfl dX9_item_111
theorem e_X9_item_112 {v0 : Nat} {x0 x1 : Option Value} : Wp S N d MX9_item 112 [x0, x1] [.ref v0] I J P Q ↔ Wp S N d MX9_item 113 [x0, x1] [.ref v0, .ref v0] I J P Q := wp_alu (len := 1) rfl rfl rfl dX9_item_112
theorem e_X9_item_113 {v0 : Nat} {v1 : Nat} {x0 x1 : Option Value} : Wp S N d MX9_item 113 [x0, x1] [.ref v0, .ref v1] I J P Q ↔ S v0 = 9 ∧ Wp S N d MX9_item 116 [x0, x1] [.int (I v0 11), .ref v1] I J P Q := wp_getf rfl rfl rfl rfl dX9_item_113
theorem e_X9_item_116 {v0 : Int32} {v1 : Nat} {x0 x1 : Option Value} : Wp S N d MX9_item 116 [x0, x1] [.int v0, .ref v1] I J P Q ↔ Wp S N d MX9_item 117 [x0, x1] [.int 1, .int v0, .ref v1] I J P Q := wp_iconst (by decide) dX9_item_116
theorem e_X9_item_117 {v0 : Int32} {v1 : Int32} {v2 : Nat} {x0 x1 : Option Value} : Wp S N d MX9_item 117 [x0, x1] [.int v0, .int v1, .ref v2] I J P Q ↔ Wp S N d MX9_item 118 [x0, x1] [.int (v1 + v0), .ref v2] I J P Q := wp_alu (len := 1) rfl rfl rfl dX9_item_117
theorem e_X9_item_118 {v0 : Int32} {v1 : Nat} {x0 x1 : Option Value} : Wp S N d MX9_item 118 [x0, x1] [.int v0, .ref v1] I J P Q ↔ S v1 = 9 ∧ Wp S N d MX9_item 121 [x0, x1] [] (u2 I v1 11 v0) J P Q := wp_putI rfl rfl rfl rfl dX9_item_118
theorem e_X9_item_121 {w : Nat} {x1 : Option Value} : Wp S N d MX9_item 121 [some (.ref w), x1] [] I J P Q ↔ Wp S N d MX9_item 122 [some (.ref w), x1] [.ref w] I J P Q := wp_lod (len := 1) rfl rfl rfl rfl dX9_item_121
theorem e_X9_item_122 {v0 : Nat} {w : Int32} {x0 : Option Value} : Wp S N d MX9_item 122 [x0, some (.int w)] [.ref v0] I J P Q ↔ Wp S N d MX9_item 123 [x0, some (.int w)] [.int w, .ref v0] I J P Q := wp_lod (len := 1) rfl rfl rfl rfl dX9_item_122
theorem e_X9_item_123 {v0 : Int32} {v1 : Nat} {x0 x1 : Option Value} : Wp S N (d + 1) MX9_item 123 [x0, x1] [.int v0, .ref v1] I J P Q ↔ S v1 = 9 ∧ CWp S N d MX9_creditComes [.ref v1, .int v0] I J P (fun r I1 J1 P1 => Wp S N (d + 1) MX9_item 126 [x0, x1] (r.toList ++ []) I1 J1 P1 Q) := wp_callV (M' := MX9_creditComes) (As := [.int v0]) rfl rfl rfl rfl (by decide) (Nat.le_of_ble_eq_true rfl) dX9_item_123
theorem e_X9_item_126 {v0 : Int32} (hb : isB v0) {x0 x1 : Option Value} : Wp S N d MX9_item 126 [x0, x1] [.int v0] I J P Q ↔ Q (some (.int v0)) I J P := wp_zret rfl dX9_item_126 hb
theorem dX9_items_0 : decode cX9_items 0 = .ok (.iconst 0, 1) := by decide +kernel
theorem dX9_items_1 : decode cX9_items 1 = .ok (.istore_n 1, 1) := by decide +kernel
theorem dX9_items_2 : decode cX9_items 2 = .ok (.aload_n 0, 1) := by decide +kernel
theorem dX9_items_3 : decode cX9_items 3 = .ok (.iconst 0, 1) := by decide +kernel
theorem dX9_items_4 : decode cX9_items 4 = .ok (.putfield 81, 3) := by decide +kernel
theorem dX9_items_7 : decode cX9_items 7 = .ok (.aload_n 0, 1) := by decide +kernel
theorem dX9_items_8 : decode cX9_items 8 = .ok (.iconst 0, 1) := by decide +kernel
theorem dX9_items_9 : decode cX9_items 9 = .ok (.putfield 91, 3) := by decide +kernel
theorem dX9_items_12 : decode cX9_items 12 = .ok (.iconst 0, 1) := by decide +kernel
theorem dX9_items_13 : decode cX9_items 13 = .ok (.istore_n 2, 1) := by decide +kernel
theorem dX9_items_14 : decode cX9_items 14 = .ok (.iload_n 2, 1) := by decide +kernel
theorem dX9_items_15 : decode cX9_items 15 = .ok (.bipush 89, 2) := by decide +kernel
theorem dX9_items_17 : decode cX9_items 17 = .ok (.if_icmp .ge 21, 3) := by decide +kernel
theorem dX9_items_20 : decode cX9_items 20 = .ok (.aload_n 0, 1) := by decide +kernel
theorem dX9_items_21 : decode cX9_items 21 = .ok (.getfield 36, 3) := by decide +kernel
theorem dX9_items_24 : decode cX9_items 24 = .ok (.iload_n 2, 1) := by decide +kernel
theorem dX9_items_25 : decode cX9_items 25 = .ok (.aload_n 0, 1) := by decide +kernel
theorem dX9_items_26 : decode cX9_items 26 = .ok (.getfield 7, 3) := by decide +kernel
theorem dX9_items_29 : decode cX9_items 29 = .ok (.iload_n 2, 1) := by decide +kernel
theorem dX9_items_30 : decode cX9_items 30 = .ok (.iaload, 1) := by decide +kernel
theorem dX9_items_31 : decode cX9_items 31 = .ok (.iastore, 1) := by decide +kernel
theorem dX9_items_32 : decode cX9_items 32 = .ok (.iinc 2 1, 3) := by decide +kernel
theorem dX9_items_35 : decode cX9_items 35 = .ok (.goto (-21), 3) := by decide +kernel
theorem dX9_items_38 : decode cX9_items 38 = .ok (.aload_n 0, 1) := by decide +kernel
theorem dX9_items_39 : decode cX9_items 39 = .ok (.invokevirtual 116, 3) := by decide +kernel
theorem dX9_items_42 : decode cX9_items 42 = .ok (.ifCond .ne 5, 3) := by decide +kernel
theorem dX9_items_45 : decode cX9_items 45 = .ok (.iconst (-1), 1) := by decide +kernel
theorem dX9_items_46 : decode cX9_items 46 = .ok (.ireturn, 1) := by decide +kernel
theorem dX9_items_47 : decode cX9_items 47 = .ok (.iinc 1 1, 3) := by decide +kernel
theorem dX9_items_50 : decode cX9_items 50 = .ok (.aload_n 0, 1) := by decide +kernel
theorem dX9_items_51 : decode cX9_items 51 = .ok (.bipush 59, 2) := by decide +kernel
theorem dX9_items_53 : decode cX9_items 53 = .ok (.invokevirtual 97, 3) := by decide +kernel
theorem dX9_items_56 : decode cX9_items 56 = .ok (.ifCond .ne (-18), 3) := by decide +kernel
theorem dX9_items_59 : decode cX9_items 59 = .ok (.aload_n 0, 1) := by decide +kernel
theorem dX9_items_60 : decode cX9_items 60 = .ok (.getfield 81, 3) := by decide +kernel
theorem dX9_items_63 : decode cX9_items 63 = .ok (.aload_n 0, 1) := by decide +kernel
theorem dX9_items_64 : decode cX9_items 64 = .ok (.getfield 78, 3) := by decide +kernel
theorem dX9_items_67 : decode cX9_items 67 = .ok (.if_icmp .ge 7, 3) := by decide +kernel
theorem dX9_items_70 : decode cX9_items 70 = .ok (.iconst (-1), 1) := by decide +kernel
theorem dX9_items_71 : decode cX9_items 71 = .ok (.goto 4, 3) := by decide +kernel
theorem dX9_items_74 : decode cX9_items 74 = .ok (.iload_n 1, 1) := by decide +kernel
theorem dX9_items_75 : decode cX9_items 75 = .ok (.ireturn, 1) := by decide +kernel
theorem c_X9_items {a0 : Nat} : CWp S N d MX9_items [.ref a0] I J P Q ↔ Wp S N d MX9_items 0 [some (.ref a0), none, none] [] I J P Q := by
  rw [cwp_iff]
  exact ⟨fun h => h.2, fun h => ⟨Nat.le_of_ble_eq_true rfl, h⟩⟩
theorem e_X9_items_0  {x0 x1 x2 : Option Value} : Wp S N d MX9_items 0 [x0, x1, x2] [] I J P Q ↔ Wp S N d MX9_items 1 [x0, x1, x2] [.int 0] I J P Q := wp_iconst (by decide) dX9_items_0
theorem e_X9_items_1 {v0 : Int32} {x0 x1 x2 : Option Value} : Wp S N d MX9_items 1 [x0, x1, x2] [.int v0] I J P Q ↔ Wp S N d MX9_items 2 [kl x0, some (.int v0), x2] [] I J P Q := wp_sto (len := 1) rfl rfl rfl rfl (Nat.le_of_ble_eq_true rfl) rfl dX9_items_1
theorem e_X9_items_2 {w : Nat} {x1 x2 : Option Value} : Wp S N d MX9_items 2 [some (.ref w), x1, x2] [] I J P Q ↔ Wp S N d MX9_items 3 [some (.ref w), x1, x2] [.ref w] I J P Q := wp_lod (len := 1) rfl rfl rfl rfl dX9_items_2
theorem e_X9_items_3 {v0 : Nat} {x0 x1 x2 : Option Value} : Wp S N d MX9_items 3 [x0, x1, x2] [.ref v0] I J P Q ↔ Wp S N d MX9_items 4 [x0, x1, x2] [.int 0, .ref v0] I J P Q := wp_iconst (by decide) dX9_items_3
theorem e_X9_items_4 {v0 : Int32} {v1 : Nat} {x0 x1 x2 : Option Value} : Wp S N d MX9_items 4 [x0, x1, x2] [.int v0, .ref v1] I J P Q ↔ S v1 = 9 ∧ Wp S N d MX9_items 7 [x0, x1, x2] [] (u2 I v1 11 v0) J P Q := wp_putI rfl rfl rfl rfl dX9_items_4
theorem e_X9_items_7 {w : Nat} {x1 x2 : Option Value} : Wp S N d MX9_items 7 [some (.ref w), x1, x2] [] I J P Q ↔ Wp S N d MX9_items 8 [some (.ref w), x1, x2] [.ref w] I J P Q := wp_lod (len := 1) rfl rfl rfl rfl dX9_items_7
theorem e_X9_items_8 {v0 : Nat} {x0 x1 x2 : Option Value} : Wp S N d MX9_items 8 [x0, x1, x2] [.ref v0] I J P Q ↔ Wp S N d MX9_items 9 [x0, x1, x2] [.int 0, .ref v0] I J P Q := wp_iconst (by decide) dX9_items_8
theorem e_X9_items_9 {v0 : Int32} {v1 : Nat} (hb : isB v0) {x0 x1 x2 : Option Value} : Wp S N d MX9_items 9 [x0, x1, x2] [.int v0, .ref v1] I J P Q ↔ S v1 = 9 ∧ Wp S N d MX9_items 12 [x0, x1, x2] [] (u2 I v1 14 v0) J P Q := wp_putZ rfl rfl rfl rfl dX9_items_9 hb
theorem e_X9_items_12  {x0 x1 x2 : Option Value} : Wp S N d MX9_items 12 [x0, x1, x2] [] I J P Q ↔ Wp S N d MX9_items 13 [x0, x1, x2] [.int 0] I J P Q := wp_iconst (by decide) dX9_items_12
theorem e_X9_items_13 {v0 : Int32} {x0 x1 x2 : Option Value} : Wp S N d MX9_items 13 [x0, x1, x2] [.int v0] I J P Q ↔ Wp S N d MX9_items 14 [x0, kl x1, some (.int v0)] [] I J P Q := wp_sto (len := 1) rfl rfl rfl rfl (Nat.le_of_ble_eq_true rfl) rfl dX9_items_13
theorem e_X9_items_14 {w : Int32} {x0 x1 : Option Value} : Wp S N d MX9_items 14 [x0, x1, some (.int w)] [] I J P Q ↔ Wp S N d MX9_items 15 [x0, x1, some (.int w)] [.int w] I J P Q := wp_lod (len := 1) rfl rfl rfl rfl dX9_items_14
theorem e_X9_items_15 {v0 : Int32} {x0 x1 x2 : Option Value} : Wp S N d MX9_items 15 [x0, x1, x2] [.int v0] I J P Q ↔ Wp S N d MX9_items 17 [x0, x1, x2] [.int 89, .int v0] I J P Q := wp_bipush (by decide) dX9_items_15
theorem e_X9_items_17 {v0 : Int32} {v1 : Int32} {x0 x1 x2 : Option Value} : Wp S N d MX9_items 17 [x0, x1, x2] [.int v0, .int v1] I J P Q ↔ (v0 ≤ v1 → Wp S N d MX9_items 38 [x0, x1, x2] [] I J P Q) ∧ (¬ v0 ≤ v1 → Wp S N d MX9_items 20 [x0, x1, x2] [] I J P Q) := wp_br rfl rfl (by decide) dX9_items_17
theorem e_X9_items_20 {w : Nat} {x1 x2 : Option Value} : Wp S N d MX9_items 20 [some (.ref w), x1, x2] [] I J P Q ↔ Wp S N d MX9_items 21 [some (.ref w), x1, x2] [.ref w] I J P Q := wp_lod (len := 1) rfl rfl rfl rfl dX9_items_20
theorem e_X9_items_21 {v0 : Nat} {x0 x1 x2 : Option Value} : Wp S N d MX9_items 21 [x0, x1, x2] [.ref v0] I J P Q ↔ S v0 = 9 ∧ Wp S N d MX9_items 24 [x0, x1, x2] [va_rf (P v0 15)] I J P Q := wp_getf rfl rfl rfl rfl dX9_items_21
theorem e_X9_items_24 {v0 : Nat} {w : Int32} {x0 x1 : Option Value} : Wp S N d MX9_items 24 [x0, x1, some (.int w)] [.ref v0] I J P Q ↔ Wp S N d MX9_items 25 [x0, x1, some (.int w)] [.int w, .ref v0] I J P Q := wp_lod (len := 1) rfl rfl rfl rfl dX9_items_24
theorem e_X9_items_25 {v0 : Int32} {v1 : Nat} {w : Nat} {x1 x2 : Option Value} : Wp S N d MX9_items 25 [some (.ref w), x1, x2] [.int v0, .ref v1] I J P Q ↔ Wp S N d MX9_items 26 [some (.ref w), x1, x2] [.ref w, .int v0, .ref v1] I J P Q := wp_lod (len := 1) rfl rfl rfl rfl dX9_items_25
theorem e_X9_items_26 {v0 : Nat} {v1 : Int32} {v2 : Nat} {x0 x1 x2 : Option Value} : Wp S N d MX9_items 26 [x0, x1, x2] [.ref v0, .int v1, .ref v2] I J P Q ↔ S v0 = 9 ∧ Wp S N d MX9_items 29 [x0, x1, x2] [va_rf (P v0 0), .int v1, .ref v2] I J P Q := wp_getf rfl rfl rfl rfl dX9_items_26
theorem e_X9_items_29 {v0 : Nat} {v1 : Int32} {v2 : Nat} {w : Int32} {x0 x1 : Option Value} : Wp S N d MX9_items 29 [x0, x1, some (.int w)] [.ref v0, .int v1, .ref v2] I J P Q ↔ Wp S N d MX9_items 30 [x0, x1, some (.int w)] [.int w, .ref v0, .int v1, .ref v2] I J P Q := wp_lod (len := 1) rfl rfl rfl rfl dX9_items_29
theorem e_X9_items_30 {v0 : Int32} {v1 : Nat} {v2 : Int32} {v3 : Nat} {x0 x1 x2 : Option Value} : Wp S N d MX9_items 30 [x0, x1, x2] [.int v0, .ref v1, .int v2, .ref v3] I J P Q ↔ (S v1 = 10 ∧ vp_in v0 (N v1)) ∧ Wp S N d MX9_items 31 [x0, x1, x2] [.int (I v1 v0.toNatClampNeg), .int v2, .ref v3] I J P Q := wp_ald rfl rfl dX9_items_30
theorem e_X9_items_31 {v0 : Int32} {v1 : Int32} {v2 : Nat} {x0 x1 x2 : Option Value} : Wp S N d MX9_items 31 [x0, x1, x2] [.int v0, .int v1, .ref v2] I J P Q ↔ (S v2 = 10 ∧ vp_in v1 (N v2)) ∧ Wp S N d MX9_items 32 [x0, x1, x2] [] (u2 I v2 v1.toNatClampNeg v0) J P Q := wp_ast rfl rfl dX9_items_31
theorem e_X9_items_32 {w : Int32} {x0 x1 : Option Value} : Wp S N d MX9_items 32 [x0, x1, some (.int w)] [] I J P Q ↔ Wp S N d MX9_items 35 [x0, kl x1, some (.int (w + 1))] [] I J P Q := wp_inc rfl rfl dX9_items_32
theorem e_X9_items_35  {x0 x1 x2 : Option Value} : Wp S N d MX9_items 35 [x0, x1, x2] [] I J P Q ↔ Wp S N d MX9_items 14 [x0, x1, x2] [] I J P Q := wp_go (len := 3) rfl (fun _ _ => rfl) rfl (by decide) dX9_items_35
theorem e_X9_items_38 {w : Nat} {x1 x2 : Option Value} : Wp S N d MX9_items 38 [some (.ref w), x1, x2] [] I J P Q ↔ Wp S N d MX9_items 39 [some (.ref w), x1, x2] [.ref w] I J P Q := wp_lod (len := 1) rfl rfl rfl rfl dX9_items_38
theorem e_X9_items_39 {v0 : Nat} {x0 x1 x2 : Option Value} : Wp S N (d + 1) MX9_items 39 [x0, x1, x2] [.ref v0] I J P Q ↔ S v0 = 9 ∧ CWp S N d MX9_item [.ref v0] I J P (fun r I1 J1 P1 => Wp S N (d + 1) MX9_items 42 [x0, x1, x2] (r.toList ++ []) I1 J1 P1 Q) := wp_callV (M' := MX9_item) (As := []) rfl rfl rfl rfl (by decide) (Nat.le_of_ble_eq_true rfl) dX9_items_39
theorem e_X9_items_42 {v0 : Int32} {x0 x1 x2 : Option Value} : Wp S N d MX9_items 42 [x0, x1, x2] [.int v0] I J P Q ↔ (¬ v0 = 0 → Wp S N d MX9_items 47 [x0, x1, x2] [] I J P Q) ∧ (v0 = 0 → Wp S N d MX9_items 45 [x0, x1, x2] [] I J P Q) := wp_brn rfl rfl (by decide) dX9_items_42
theorem e_X9_items_45  {x0 x1 x2 : Option Value} : Wp S N d MX9_items 45 [x0, x1, x2] [] I J P Q ↔ Wp S N d MX9_items 46 [x0, x1, x2] [.int (-1)] I J P Q := wp_iconst (by decide) dX9_items_45
theorem e_X9_items_46 {v0 : Int32} {x0 x1 x2 : Option Value} : Wp S N d MX9_items 46 [x0, x1, x2] [.int v0] I J P Q ↔ Q (some (.int v0)) I J P := wp_iret rfl dX9_items_46
theorem e_X9_items_47 {w : Int32} {x0 x2 : Option Value} : Wp S N d MX9_items 47 [x0, some (.int w), x2] [] I J P Q ↔ Wp S N d MX9_items 50 [kl x0, some (.int (w + 1)), x2] [] I J P Q := wp_inc rfl rfl dX9_items_47
theorem e_X9_items_50 {w : Nat} {x1 x2 : Option Value} : Wp S N d MX9_items 50 [some (.ref w), x1, x2] [] I J P Q ↔ Wp S N d MX9_items 51 [some (.ref w), x1, x2] [.ref w] I J P Q := wp_lod (len := 1) rfl rfl rfl rfl dX9_items_50
theorem e_X9_items_51 {v0 : Nat} {x0 x1 x2 : Option Value} : Wp S N d MX9_items 51 [x0, x1, x2] [.ref v0] I J P Q ↔ Wp S N d MX9_items 53 [x0, x1, x2] [.int 59, .ref v0] I J P Q := wp_bipush (by decide) dX9_items_51
theorem e_X9_items_53 {v0 : Int32} {v1 : Nat} {x0 x1 x2 : Option Value} : Wp S N (d + 1) MX9_items 53 [x0, x1, x2] [.int v0, .ref v1] I J P Q ↔ S v1 = 9 ∧ CWp S N d MX9_skips [.ref v1, .int v0] I J P (fun r I1 J1 P1 => Wp S N (d + 1) MX9_items 56 [x0, x1, x2] (r.toList ++ []) I1 J1 P1 Q) := wp_callV (M' := MX9_skips) (As := [.int v0]) rfl rfl rfl rfl (by decide) (Nat.le_of_ble_eq_true rfl) dX9_items_53
theorem e_X9_items_56 {v0 : Int32} {x0 x1 x2 : Option Value} : Wp S N d MX9_items 56 [x0, x1, x2] [.int v0] I J P Q ↔ (¬ v0 = 0 → Wp S N d MX9_items 38 [x0, x1, x2] [] I J P Q) ∧ (v0 = 0 → Wp S N d MX9_items 59 [x0, x1, x2] [] I J P Q) := wp_brn rfl rfl (by decide) dX9_items_56
theorem e_X9_items_59 {w : Nat} {x1 x2 : Option Value} : Wp S N d MX9_items 59 [some (.ref w), x1, x2] [] I J P Q ↔ Wp S N d MX9_items 60 [some (.ref w), x1, x2] [.ref w] I J P Q := wp_lod (len := 1) rfl rfl rfl rfl dX9_items_59
theorem e_X9_items_60 {v0 : Nat} {x0 x1 x2 : Option Value} : Wp S N d MX9_items 60 [x0, x1, x2] [.ref v0] I J P Q ↔ S v0 = 9 ∧ Wp S N d MX9_items 63 [x0, x1, x2] [.int (I v0 11)] I J P Q := wp_getf rfl rfl rfl rfl dX9_items_60
theorem e_X9_items_63 {v0 : Int32} {w : Nat} {x1 x2 : Option Value} : Wp S N d MX9_items 63 [some (.ref w), x1, x2] [.int v0] I J P Q ↔ Wp S N d MX9_items 64 [some (.ref w), x1, x2] [.ref w, .int v0] I J P Q := wp_lod (len := 1) rfl rfl rfl rfl dX9_items_63
theorem e_X9_items_64 {v0 : Nat} {v1 : Int32} {x0 x1 x2 : Option Value} : Wp S N d MX9_items 64 [x0, x1, x2] [.ref v0, .int v1] I J P Q ↔ S v0 = 9 ∧ Wp S N d MX9_items 67 [x0, x1, x2] [.int (I v0 10), .int v1] I J P Q := wp_getf rfl rfl rfl rfl dX9_items_64
theorem e_X9_items_67 {v0 : Int32} {v1 : Int32} {x0 x1 x2 : Option Value} : Wp S N d MX9_items 67 [x0, x1, x2] [.int v0, .int v1] I J P Q ↔ (v0 ≤ v1 → Wp S N d MX9_items 74 [x0, x1, x2] [] I J P Q) ∧ (¬ v0 ≤ v1 → Wp S N d MX9_items 70 [x0, x1, x2] [] I J P Q) := wp_br rfl rfl (by decide) dX9_items_67
theorem e_X9_items_70  {x0 x1 x2 : Option Value} : Wp S N d MX9_items 70 [x0, x1, x2] [] I J P Q ↔ Wp S N d MX9_items 71 [x0, x1, x2] [.int (-1)] I J P Q := wp_iconst (by decide) dX9_items_70
theorem e_X9_items_71 {v0 : Int32} {x0 x1 x2 : Option Value} : Wp S N d MX9_items 71 [x0, x1, x2] [.int v0] I J P Q ↔ Wp S N d MX9_items 75 [x0, x1, x2] [.int v0] I J P Q := wp_go (len := 3) rfl (fun _ _ => rfl) rfl (by decide) dX9_items_71
theorem e_X9_items_74 {w : Int32} {x0 x2 : Option Value} : Wp S N d MX9_items 74 [x0, some (.int w), x2] [] I J P Q ↔ Wp S N d MX9_items 75 [x0, some (.int w), x2] [.int w] I J P Q := wp_lod (len := 1) rfl rfl rfl rfl dX9_items_74
theorem e_X9_items_75 {v0 : Int32} {x0 x1 x2 : Option Value} : Wp S N d MX9_items 75 [x0, x1, x2] [.int v0] I J P Q ↔ Q (some (.int v0)) I J P := wp_iret rfl dX9_items_75
theorem dX9_addRules_0 : decode cX9_addRules 0 = .ok (.aload_n 0, 1) := by decide +kernel
theorem dX9_addRules_1 : decode cX9_addRules 1 = .ok (.iconst 0, 1) := by decide +kernel
theorem dX9_addRules_2 : decode cX9_addRules 2 = .ok (.putfield 57, 3) := by decide +kernel
theorem dX9_addRules_5 : decode cX9_addRules 5 = .ok (.aload_n 0, 1) := by decide +kernel
theorem dX9_addRules_6 : decode cX9_addRules 6 = .ok (.invokevirtual 119, 3) := by decide +kernel
theorem dX9_addRules_9 : decode cX9_addRules 9 = .ok (.istore_n 1, 1) := by decide +kernel
theorem dX9_addRules_10 : decode cX9_addRules 10 = .ok (.aload_n 0, 1) := by decide +kernel
theorem dX9_addRules_11 : decode cX9_addRules 11 = .ok (.iconst 0, 1) := by decide +kernel
theorem dX9_addRules_12 : decode cX9_addRules 12 = .ok (.putfield 78, 3) := by decide +kernel
theorem dX9_addRules_15 : decode cX9_addRules 15 = .ok (.aload_n 0, 1) := by decide +kernel
theorem dX9_addRules_16 : decode cX9_addRules 16 = .ok (.iload_n 1, 1) := by decide +kernel
theorem dX9_addRules_17 : decode cX9_addRules 17 = .ok (.ifCond .ge 10, 3) := by decide +kernel
theorem dX9_addRules_20 : decode cX9_addRules 20 = .ok (.aload_n 0, 1) := by decide +kernel
theorem dX9_addRules_21 : decode cX9_addRules 21 = .ok (.getfield 81, 3) := by decide +kernel
theorem dX9_addRules_24 : decode cX9_addRules 24 = .ok (.goto 4, 3) := by decide +kernel
theorem dX9_addRules_27 : decode cX9_addRules 27 = .ok (.iconst (-1), 1) := by decide +kernel
theorem dX9_addRules_28 : decode cX9_addRules 28 = .ok (.putfield 32, 3) := by decide +kernel
theorem dX9_addRules_31 : decode cX9_addRules 31 = .ok (.iload_n 1, 1) := by decide +kernel
theorem dX9_addRules_32 : decode cX9_addRules 32 = .ok (.ifCond .ge 9, 3) := by decide +kernel
theorem dX9_addRules_35 : decode cX9_addRules 35 = .ok (.aload_n 0, 1) := by decide +kernel
theorem dX9_addRules_36 : decode cX9_addRules 36 = .ok (.iconst 1, 1) := by decide +kernel
theorem dX9_addRules_37 : decode cX9_addRules 37 = .ok (.invokevirtual 67, 3) := by decide +kernel
theorem dX9_addRules_40 : decode cX9_addRules 40 = .ok (.ireturn, 1) := by decide +kernel
theorem dX9_addRules_41 : decode cX9_addRules 41 = .ok (.aload_n 0, 1) := by decide +kernel
theorem dX9_addRules_42 : decode cX9_addRules 42 = .ok (.getfield 91, 3) := by decide +kernel
theorem dX9_addRules_45 : decode cX9_addRules 45 = .ok (.ifCond .eq 9, 3) := by decide +kernel
theorem dX9_addRules_48 : decode cX9_addRules 48 = .ok (.aload_n 0, 1) := by decide +kernel
theorem dX9_addRules_49 : decode cX9_addRules 49 = .ok (.iconst 2, 1) := by decide +kernel
theorem dX9_addRules_50 : decode cX9_addRules 50 = .ok (.invokevirtual 67, 3) := by decide +kernel
theorem dX9_addRules_53 : decode cX9_addRules 53 = .ok (.ireturn, 1) := by decide +kernel
theorem dX9_addRules_54 : decode cX9_addRules 54 = .ok (.aload_n 0, 1) := by decide +kernel
theorem dX9_addRules_55 : decode cX9_addRules 55 = .ok (.invokevirtual 75, 3) := by decide +kernel
theorem dX9_addRules_58 : decode cX9_addRules 58 = .ok (.aload_n 0, 1) := by decide +kernel
theorem dX9_addRules_59 : decode cX9_addRules 59 = .ok (.getfield 7, 3) := by decide +kernel
theorem dX9_addRules_62 : decode cX9_addRules 62 = .ok (.bipush 27, 2) := by decide +kernel
theorem dX9_addRules_64 : decode cX9_addRules 64 = .ok (.iaload, 1) := by decide +kernel
theorem dX9_addRules_65 : decode cX9_addRules 65 = .ok (.istore_n 2, 1) := by decide +kernel
theorem dX9_addRules_66 : decode cX9_addRules 66 = .ok (.iload_n 2, 1) := by decide +kernel
theorem dX9_addRules_67 : decode cX9_addRules 67 = .ok (.aload_n 0, 1) := by decide +kernel
theorem dX9_addRules_68 : decode cX9_addRules 68 = .ok (.getfield 36, 3) := by decide +kernel
theorem dX9_addRules_71 : decode cX9_addRules 71 = .ok (.bipush 27, 2) := by decide +kernel
theorem dX9_addRules_73 : decode cX9_addRules 73 = .ok (.iaload, 1) := by decide +kernel
theorem dX9_addRules_74 : decode cX9_addRules 74 = .ok (.if_icmp .ge 14, 3) := by decide +kernel
theorem dX9_addRules_77 : decode cX9_addRules 77 = .ok (.aload_n 0, 1) := by decide +kernel
theorem dX9_addRules_78 : decode cX9_addRules 78 = .ok (.iload_n 2, 1) := by decide +kernel
theorem dX9_addRules_79 : decode cX9_addRules 79 = .ok (.invokevirtual 122, 3) := by decide +kernel
theorem dX9_addRules_82 : decode cX9_addRules 82 = .ok (.iinc 2 1, 3) := by decide +kernel
theorem dX9_addRules_85 : decode cX9_addRules 85 = .ok (.goto (-19), 3) := by decide +kernel
theorem dX9_addRules_88 : decode cX9_addRules 88 = .ok (.iconst 0, 1) := by decide +kernel
theorem dX9_addRules_89 : decode cX9_addRules 89 = .ok (.istore_n 2, 1) := by decide +kernel
theorem dX9_addRules_90 : decode cX9_addRules 90 = .ok (.iload_n 2, 1) := by decide +kernel
theorem dX9_addRules_91 : decode cX9_addRules 91 = .ok (.bipush 89, 2) := by decide +kernel
theorem dX9_addRules_93 : decode cX9_addRules 93 = .ok (.if_icmp .ge 21, 3) := by decide +kernel
theorem dX9_addRules_96 : decode cX9_addRules 96 = .ok (.aload_n 0, 1) := by decide +kernel
theorem dX9_addRules_97 : decode cX9_addRules 97 = .ok (.getfield 7, 3) := by decide +kernel
theorem dX9_addRules_100 : decode cX9_addRules 100 = .ok (.iload_n 2, 1) := by decide +kernel
theorem dX9_addRules_101 : decode cX9_addRules 101 = .ok (.aload_n 0, 1) := by decide +kernel
theorem dX9_addRules_102 : decode cX9_addRules 102 = .ok (.getfield 36, 3) := by decide +kernel
theorem dX9_addRules_105 : decode cX9_addRules 105 = .ok (.iload_n 2, 1) := by decide +kernel
theorem dX9_addRules_106 : decode cX9_addRules 106 = .ok (.iaload, 1) := by decide +kernel
theorem dX9_addRules_107 : decode cX9_addRules 107 = .ok (.iastore, 1) := by decide +kernel
theorem dX9_addRules_108 : decode cX9_addRules 108 = .ok (.iinc 2 1, 3) := by decide +kernel
theorem dX9_addRules_111 : decode cX9_addRules 111 = .ok (.goto (-21), 3) := by decide +kernel
theorem dX9_addRules_114 : decode cX9_addRules 114 = .ok (.iload_n 1, 1) := by decide +kernel
theorem dX9_addRules_115 : decode cX9_addRules 115 = .ok (.ireturn, 1) := by decide +kernel
theorem c_X9_addRules {a0 : Nat} : CWp S N d MX9_addRules [.ref a0] I J P Q ↔ Wp S N d MX9_addRules 0 [some (.ref a0), none, none] [] I J P Q := by
  rw [cwp_iff]
  exact ⟨fun h => h.2, fun h => ⟨Nat.le_of_ble_eq_true rfl, h⟩⟩
theorem e_X9_addRules_0 {w : Nat} {x1 x2 : Option Value} : Wp S N d MX9_addRules 0 [some (.ref w), x1, x2] [] I J P Q ↔ Wp S N d MX9_addRules 1 [some (.ref w), x1, x2] [.ref w] I J P Q := wp_lod (len := 1) rfl rfl rfl rfl dX9_addRules_0
theorem e_X9_addRules_1 {v0 : Nat} {x0 x1 x2 : Option Value} : Wp S N d MX9_addRules 1 [x0, x1, x2] [.ref v0] I J P Q ↔ Wp S N d MX9_addRules 2 [x0, x1, x2] [.int 0, .ref v0] I J P Q := wp_iconst (by decide) dX9_addRules_1
theorem e_X9_addRules_2 {v0 : Int32} {v1 : Nat} {x0 x1 x2 : Option Value} : Wp S N d MX9_addRules 2 [x0, x1, x2] [.int v0, .ref v1] I J P Q ↔ S v1 = 9 ∧ Wp S N d MX9_addRules 5 [x0, x1, x2] [] (u2 I v1 8 v0) J P Q := wp_putI rfl rfl rfl rfl dX9_addRules_2
theorem e_X9_addRules_5 {w : Nat} {x1 x2 : Option Value} : Wp S N d MX9_addRules 5 [some (.ref w), x1, x2] [] I J P Q ↔ Wp S N d MX9_addRules 6 [some (.ref w), x1, x2] [.ref w] I J P Q := wp_lod (len := 1) rfl rfl rfl rfl dX9_addRules_5
theorem e_X9_addRules_6 {v0 : Nat} {x0 x1 x2 : Option Value} : Wp S N (d + 1) MX9_addRules 6 [x0, x1, x2] [.ref v0] I J P Q ↔ S v0 = 9 ∧ CWp S N d MX9_items [.ref v0] I J P (fun r I1 J1 P1 => Wp S N (d + 1) MX9_addRules 9 [x0, x1, x2] (r.toList ++ []) I1 J1 P1 Q) := wp_callV (M' := MX9_items) (As := []) rfl rfl rfl rfl (by decide) (Nat.le_of_ble_eq_true rfl) dX9_addRules_6
theorem e_X9_addRules_9 {v0 : Int32} {x0 x1 x2 : Option Value} : Wp S N d MX9_addRules 9 [x0, x1, x2] [.int v0] I J P Q ↔ Wp S N d MX9_addRules 10 [kl x0, some (.int v0), x2] [] I J P Q := wp_sto (len := 1) rfl rfl rfl rfl (Nat.le_of_ble_eq_true rfl) rfl dX9_addRules_9
theorem e_X9_addRules_10 {w : Nat} {x1 x2 : Option Value} : Wp S N d MX9_addRules 10 [some (.ref w), x1, x2] [] I J P Q ↔ Wp S N d MX9_addRules 11 [some (.ref w), x1, x2] [.ref w] I J P Q := wp_lod (len := 1) rfl rfl rfl rfl dX9_addRules_10
theorem e_X9_addRules_11 {v0 : Nat} {x0 x1 x2 : Option Value} : Wp S N d MX9_addRules 11 [x0, x1, x2] [.ref v0] I J P Q ↔ Wp S N d MX9_addRules 12 [x0, x1, x2] [.int 0, .ref v0] I J P Q := wp_iconst (by decide) dX9_addRules_11
theorem e_X9_addRules_12 {v0 : Int32} {v1 : Nat} {x0 x1 x2 : Option Value} : Wp S N d MX9_addRules 12 [x0, x1, x2] [.int v0, .ref v1] I J P Q ↔ S v1 = 9 ∧ Wp S N d MX9_addRules 15 [x0, x1, x2] [] (u2 I v1 10 v0) J P Q := wp_putI rfl rfl rfl rfl dX9_addRules_12
theorem e_X9_addRules_15 {w : Nat} {x1 x2 : Option Value} : Wp S N d MX9_addRules 15 [some (.ref w), x1, x2] [] I J P Q ↔ Wp S N d MX9_addRules 16 [some (.ref w), x1, x2] [.ref w] I J P Q := wp_lod (len := 1) rfl rfl rfl rfl dX9_addRules_15
theorem e_X9_addRules_16 {v0 : Nat} {w : Int32} {x0 x2 : Option Value} : Wp S N d MX9_addRules 16 [x0, some (.int w), x2] [.ref v0] I J P Q ↔ Wp S N d MX9_addRules 17 [x0, some (.int w), x2] [.int w, .ref v0] I J P Q := wp_lod (len := 1) rfl rfl rfl rfl dX9_addRules_16
theorem e_X9_addRules_17 {v0 : Int32} {v1 : Nat} {x0 x1 x2 : Option Value} : Wp S N d MX9_addRules 17 [x0, x1, x2] [.int v0, .ref v1] I J P Q ↔ (0 ≤ v0 → Wp S N d MX9_addRules 27 [x0, x1, x2] [.ref v1] I J P Q) ∧ (¬ 0 ≤ v0 → Wp S N d MX9_addRules 20 [x0, x1, x2] [.ref v1] I J P Q) := wp_br rfl rfl (by decide) dX9_addRules_17
theorem e_X9_addRules_20 {v0 : Nat} {w : Nat} {x1 x2 : Option Value} : Wp S N d MX9_addRules 20 [some (.ref w), x1, x2] [.ref v0] I J P Q ↔ Wp S N d MX9_addRules 21 [some (.ref w), x1, x2] [.ref w, .ref v0] I J P Q := wp_lod (len := 1) rfl rfl rfl rfl dX9_addRules_20
theorem e_X9_addRules_21 {v0 : Nat} {v1 : Nat} {x0 x1 x2 : Option Value} : Wp S N d MX9_addRules 21 [x0, x1, x2] [.ref v0, .ref v1] I J P Q ↔ S v0 = 9 ∧ Wp S N d MX9_addRules 24 [x0, x1, x2] [.int (I v0 11), .ref v1] I J P Q := wp_getf rfl rfl rfl rfl dX9_addRules_21
theorem e_X9_addRules_24 {v0 : Int32} {v1 : Nat} {x0 x1 x2 : Option Value} : Wp S N d MX9_addRules 24 [x0, x1, x2] [.int v0, .ref v1] I J P Q ↔ Wp S N d MX9_addRules 28 [x0, x1, x2] [.int v0, .ref v1] I J P Q := wp_go (len := 3) rfl (fun _ _ => rfl) rfl (by decide) dX9_addRules_24
theorem e_X9_addRules_27 {v0 : Nat} {x0 x1 x2 : Option Value} : Wp S N d MX9_addRules 27 [x0, x1, x2] [.ref v0] I J P Q ↔ Wp S N d MX9_addRules 28 [x0, x1, x2] [.int (-1), .ref v0] I J P Q := wp_iconst (by decide) dX9_addRules_27
theorem e_X9_addRules_28 {v0 : Int32} {v1 : Nat} {x0 x1 x2 : Option Value} : Wp S N d MX9_addRules 28 [x0, x1, x2] [.int v0, .ref v1] I J P Q ↔ S v1 = 9 ∧ Wp S N d MX9_addRules 31 [x0, x1, x2] [] (u2 I v1 13 v0) J P Q := wp_putI rfl rfl rfl rfl dX9_addRules_28
theorem e_X9_addRules_31 {w : Int32} {x0 x2 : Option Value} : Wp S N d MX9_addRules 31 [x0, some (.int w), x2] [] I J P Q ↔ Wp S N d MX9_addRules 32 [x0, some (.int w), x2] [.int w] I J P Q := wp_lod (len := 1) rfl rfl rfl rfl dX9_addRules_31
theorem e_X9_addRules_32 {v0 : Int32} {x0 x1 x2 : Option Value} : Wp S N d MX9_addRules 32 [x0, x1, x2] [.int v0] I J P Q ↔ (0 ≤ v0 → Wp S N d MX9_addRules 41 [x0, x1, x2] [] I J P Q) ∧ (¬ 0 ≤ v0 → Wp S N d MX9_addRules 35 [x0, x1, x2] [] I J P Q) := wp_br rfl rfl (by decide) dX9_addRules_32
theorem e_X9_addRules_35 {w : Nat} {x1 x2 : Option Value} : Wp S N d MX9_addRules 35 [some (.ref w), x1, x2] [] I J P Q ↔ Wp S N d MX9_addRules 36 [some (.ref w), x1, x2] [.ref w] I J P Q := wp_lod (len := 1) rfl rfl rfl rfl dX9_addRules_35
theorem e_X9_addRules_36 {v0 : Nat} {x0 x1 x2 : Option Value} : Wp S N d MX9_addRules 36 [x0, x1, x2] [.ref v0] I J P Q ↔ Wp S N d MX9_addRules 37 [x0, x1, x2] [.int 1, .ref v0] I J P Q := wp_iconst (by decide) dX9_addRules_36
theorem e_X9_addRules_37 {v0 : Int32} {v1 : Nat} {x0 x1 x2 : Option Value} : Wp S N (d + 1) MX9_addRules 37 [x0, x1, x2] [.int v0, .ref v1] I J P Q ↔ S v1 = 9 ∧ CWp S N d MX9_fails [.ref v1, .int v0] I J P (fun r I1 J1 P1 => Wp S N (d + 1) MX9_addRules 40 [x0, x1, x2] (r.toList ++ []) I1 J1 P1 Q) := wp_callV (M' := MX9_fails) (As := [.int v0]) rfl rfl rfl rfl (by decide) (Nat.le_of_ble_eq_true rfl) dX9_addRules_37
theorem e_X9_addRules_40 {v0 : Int32} {x0 x1 x2 : Option Value} : Wp S N d MX9_addRules 40 [x0, x1, x2] [.int v0] I J P Q ↔ Q (some (.int v0)) I J P := wp_iret rfl dX9_addRules_40
theorem e_X9_addRules_41 {w : Nat} {x1 x2 : Option Value} : Wp S N d MX9_addRules 41 [some (.ref w), x1, x2] [] I J P Q ↔ Wp S N d MX9_addRules 42 [some (.ref w), x1, x2] [.ref w] I J P Q := wp_lod (len := 1) rfl rfl rfl rfl dX9_addRules_41
theorem e_X9_addRules_42 {v0 : Nat} {x0 x1 x2 : Option Value} : Wp S N d MX9_addRules 42 [x0, x1, x2] [.ref v0] I J P Q ↔ S v0 = 9 ∧ Wp S N d MX9_addRules 45 [x0, x1, x2] [.int (I v0 14)] I J P Q := wp_getf rfl rfl rfl rfl dX9_addRules_42
theorem e_X9_addRules_45 {v0 : Int32} {x0 x1 x2 : Option Value} : Wp S N d MX9_addRules 45 [x0, x1, x2] [.int v0] I J P Q ↔ (v0 = 0 → Wp S N d MX9_addRules 54 [x0, x1, x2] [] I J P Q) ∧ (¬ v0 = 0 → Wp S N d MX9_addRules 48 [x0, x1, x2] [] I J P Q) := wp_br rfl rfl (by decide) dX9_addRules_45
theorem e_X9_addRules_48 {w : Nat} {x1 x2 : Option Value} : Wp S N d MX9_addRules 48 [some (.ref w), x1, x2] [] I J P Q ↔ Wp S N d MX9_addRules 49 [some (.ref w), x1, x2] [.ref w] I J P Q := wp_lod (len := 1) rfl rfl rfl rfl dX9_addRules_48
theorem e_X9_addRules_49 {v0 : Nat} {x0 x1 x2 : Option Value} : Wp S N d MX9_addRules 49 [x0, x1, x2] [.ref v0] I J P Q ↔ Wp S N d MX9_addRules 50 [x0, x1, x2] [.int 2, .ref v0] I J P Q := wp_iconst (by decide) dX9_addRules_49
theorem e_X9_addRules_50 {v0 : Int32} {v1 : Nat} {x0 x1 x2 : Option Value} : Wp S N (d + 1) MX9_addRules 50 [x0, x1, x2] [.int v0, .ref v1] I J P Q ↔ S v1 = 9 ∧ CWp S N d MX9_fails [.ref v1, .int v0] I J P (fun r I1 J1 P1 => Wp S N (d + 1) MX9_addRules 53 [x0, x1, x2] (r.toList ++ []) I1 J1 P1 Q) := wp_callV (M' := MX9_fails) (As := [.int v0]) rfl rfl rfl rfl (by decide) (Nat.le_of_ble_eq_true rfl) dX9_addRules_50
theorem e_X9_addRules_53 {v0 : Int32} {x0 x1 x2 : Option Value} : Wp S N d MX9_addRules 53 [x0, x1, x2] [.int v0] I J P Q ↔ Q (some (.int v0)) I J P := wp_iret rfl dX9_addRules_53
theorem e_X9_addRules_54 {w : Nat} {x1 x2 : Option Value} : Wp S N d MX9_addRules 54 [some (.ref w), x1, x2] [] I J P Q ↔ Wp S N d MX9_addRules 55 [some (.ref w), x1, x2] [.ref w] I J P Q := wp_lod (len := 1) rfl rfl rfl rfl dX9_addRules_54
theorem e_X9_addRules_55 {v0 : Nat} {x0 x1 x2 : Option Value} : Wp S N (d + 1) MX9_addRules 55 [x0, x1, x2] [.ref v0] I J P Q ↔ S v0 = 9 ∧ CWp S N d MX9_changes [.ref v0] I J P (fun r I1 J1 P1 => Wp S N (d + 1) MX9_addRules 58 [x0, x1, x2] (r.toList ++ []) I1 J1 P1 Q) := wp_callV (M' := MX9_changes) (As := []) rfl rfl rfl rfl (by decide) (Nat.le_of_ble_eq_true rfl) dX9_addRules_55
theorem e_X9_addRules_58 {w : Nat} {x1 x2 : Option Value} : Wp S N d MX9_addRules 58 [some (.ref w), x1, x2] [] I J P Q ↔ Wp S N d MX9_addRules 59 [some (.ref w), x1, x2] [.ref w] I J P Q := wp_lod (len := 1) rfl rfl rfl rfl dX9_addRules_58
theorem e_X9_addRules_59 {v0 : Nat} {x0 x1 x2 : Option Value} : Wp S N d MX9_addRules 59 [x0, x1, x2] [.ref v0] I J P Q ↔ S v0 = 9 ∧ Wp S N d MX9_addRules 62 [x0, x1, x2] [va_rf (P v0 0)] I J P Q := wp_getf rfl rfl rfl rfl dX9_addRules_59
theorem e_X9_addRules_62 {v0 : Nat} {x0 x1 x2 : Option Value} : Wp S N d MX9_addRules 62 [x0, x1, x2] [.ref v0] I J P Q ↔ Wp S N d MX9_addRules 64 [x0, x1, x2] [.int 27, .ref v0] I J P Q := wp_bipush (by decide) dX9_addRules_62
theorem e_X9_addRules_64 {v0 : Int32} {v1 : Nat} {x0 x1 x2 : Option Value} : Wp S N d MX9_addRules 64 [x0, x1, x2] [.int v0, .ref v1] I J P Q ↔ (S v1 = 10 ∧ vp_in v0 (N v1)) ∧ Wp S N d MX9_addRules 65 [x0, x1, x2] [.int (I v1 v0.toNatClampNeg)] I J P Q := wp_ald rfl rfl dX9_addRules_64
theorem e_X9_addRules_65 {v0 : Int32} {x0 x1 x2 : Option Value} : Wp S N d MX9_addRules 65 [x0, x1, x2] [.int v0] I J P Q ↔ Wp S N d MX9_addRules 66 [x0, kl x1, some (.int v0)] [] I J P Q := wp_sto (len := 1) rfl rfl rfl rfl (Nat.le_of_ble_eq_true rfl) rfl dX9_addRules_65
theorem e_X9_addRules_66 {w : Int32} {x0 x1 : Option Value} : Wp S N d MX9_addRules 66 [x0, x1, some (.int w)] [] I J P Q ↔ Wp S N d MX9_addRules 67 [x0, x1, some (.int w)] [.int w] I J P Q := wp_lod (len := 1) rfl rfl rfl rfl dX9_addRules_66
theorem e_X9_addRules_67 {v0 : Int32} {w : Nat} {x1 x2 : Option Value} : Wp S N d MX9_addRules 67 [some (.ref w), x1, x2] [.int v0] I J P Q ↔ Wp S N d MX9_addRules 68 [some (.ref w), x1, x2] [.ref w, .int v0] I J P Q := wp_lod (len := 1) rfl rfl rfl rfl dX9_addRules_67
theorem e_X9_addRules_68 {v0 : Nat} {v1 : Int32} {x0 x1 x2 : Option Value} : Wp S N d MX9_addRules 68 [x0, x1, x2] [.ref v0, .int v1] I J P Q ↔ S v0 = 9 ∧ Wp S N d MX9_addRules 71 [x0, x1, x2] [va_rf (P v0 15), .int v1] I J P Q := wp_getf rfl rfl rfl rfl dX9_addRules_68
theorem e_X9_addRules_71 {v0 : Nat} {v1 : Int32} {x0 x1 x2 : Option Value} : Wp S N d MX9_addRules 71 [x0, x1, x2] [.ref v0, .int v1] I J P Q ↔ Wp S N d MX9_addRules 73 [x0, x1, x2] [.int 27, .ref v0, .int v1] I J P Q := wp_bipush (by decide) dX9_addRules_71
theorem e_X9_addRules_73 {v0 : Int32} {v1 : Nat} {v2 : Int32} {x0 x1 x2 : Option Value} : Wp S N d MX9_addRules 73 [x0, x1, x2] [.int v0, .ref v1, .int v2] I J P Q ↔ (S v1 = 10 ∧ vp_in v0 (N v1)) ∧ Wp S N d MX9_addRules 74 [x0, x1, x2] [.int (I v1 v0.toNatClampNeg), .int v2] I J P Q := wp_ald rfl rfl dX9_addRules_73
theorem e_X9_addRules_74 {v0 : Int32} {v1 : Int32} {x0 x1 x2 : Option Value} : Wp S N d MX9_addRules 74 [x0, x1, x2] [.int v0, .int v1] I J P Q ↔ (v0 ≤ v1 → Wp S N d MX9_addRules 88 [x0, x1, x2] [] I J P Q) ∧ (¬ v0 ≤ v1 → Wp S N d MX9_addRules 77 [x0, x1, x2] [] I J P Q) := wp_br rfl rfl (by decide) dX9_addRules_74
theorem e_X9_addRules_77 {w : Nat} {x1 x2 : Option Value} : Wp S N d MX9_addRules 77 [some (.ref w), x1, x2] [] I J P Q ↔ Wp S N d MX9_addRules 78 [some (.ref w), x1, x2] [.ref w] I J P Q := wp_lod (len := 1) rfl rfl rfl rfl dX9_addRules_77
theorem e_X9_addRules_78 {v0 : Nat} {w : Int32} {x0 x1 : Option Value} : Wp S N d MX9_addRules 78 [x0, x1, some (.int w)] [.ref v0] I J P Q ↔ Wp S N d MX9_addRules 79 [x0, x1, some (.int w)] [.int w, .ref v0] I J P Q := wp_lod (len := 1) rfl rfl rfl rfl dX9_addRules_78
theorem e_X9_addRules_79 {v0 : Int32} {v1 : Nat} {x0 x1 x2 : Option Value} : Wp S N (d + 1) MX9_addRules 79 [x0, x1, x2] [.int v0, .ref v1] I J P Q ↔ S v1 = 9 ∧ CWp S N d MX9_forgets [.ref v1, .int v0] I J P (fun r I1 J1 P1 => Wp S N (d + 1) MX9_addRules 82 [x0, x1, x2] (r.toList ++ []) I1 J1 P1 Q) := wp_callV (M' := MX9_forgets) (As := [.int v0]) rfl rfl rfl rfl (by decide) (Nat.le_of_ble_eq_true rfl) dX9_addRules_79
theorem e_X9_addRules_82 {w : Int32} {x0 x1 : Option Value} : Wp S N d MX9_addRules 82 [x0, x1, some (.int w)] [] I J P Q ↔ Wp S N d MX9_addRules 85 [x0, kl x1, some (.int (w + 1))] [] I J P Q := wp_inc rfl rfl dX9_addRules_82
theorem e_X9_addRules_85  {x0 x1 x2 : Option Value} : Wp S N d MX9_addRules 85 [x0, x1, x2] [] I J P Q ↔ Wp S N d MX9_addRules 66 [x0, x1, x2] [] I J P Q := wp_go (len := 3) rfl (fun _ _ => rfl) rfl (by decide) dX9_addRules_85
theorem e_X9_addRules_88  {x0 x1 x2 : Option Value} : Wp S N d MX9_addRules 88 [x0, x1, x2] [] I J P Q ↔ Wp S N d MX9_addRules 89 [x0, x1, x2] [.int 0] I J P Q := wp_iconst (by decide) dX9_addRules_88
theorem e_X9_addRules_89 {v0 : Int32} {x0 x1 x2 : Option Value} : Wp S N d MX9_addRules 89 [x0, x1, x2] [.int v0] I J P Q ↔ Wp S N d MX9_addRules 90 [x0, kl x1, some (.int v0)] [] I J P Q := wp_sto (len := 1) rfl rfl rfl rfl (Nat.le_of_ble_eq_true rfl) rfl dX9_addRules_89
theorem e_X9_addRules_90 {w : Int32} {x0 x1 : Option Value} : Wp S N d MX9_addRules 90 [x0, x1, some (.int w)] [] I J P Q ↔ Wp S N d MX9_addRules 91 [x0, x1, some (.int w)] [.int w] I J P Q := wp_lod (len := 1) rfl rfl rfl rfl dX9_addRules_90
theorem e_X9_addRules_91 {v0 : Int32} {x0 x1 x2 : Option Value} : Wp S N d MX9_addRules 91 [x0, x1, x2] [.int v0] I J P Q ↔ Wp S N d MX9_addRules 93 [x0, x1, x2] [.int 89, .int v0] I J P Q := wp_bipush (by decide) dX9_addRules_91
theorem e_X9_addRules_93 {v0 : Int32} {v1 : Int32} {x0 x1 x2 : Option Value} : Wp S N d MX9_addRules 93 [x0, x1, x2] [.int v0, .int v1] I J P Q ↔ (v0 ≤ v1 → Wp S N d MX9_addRules 114 [x0, x1, x2] [] I J P Q) ∧ (¬ v0 ≤ v1 → Wp S N d MX9_addRules 96 [x0, x1, x2] [] I J P Q) := wp_br rfl rfl (by decide) dX9_addRules_93
theorem e_X9_addRules_96 {w : Nat} {x1 x2 : Option Value} : Wp S N d MX9_addRules 96 [some (.ref w), x1, x2] [] I J P Q ↔ Wp S N d MX9_addRules 97 [some (.ref w), x1, x2] [.ref w] I J P Q := wp_lod (len := 1) rfl rfl rfl rfl dX9_addRules_96
theorem e_X9_addRules_97 {v0 : Nat} {x0 x1 x2 : Option Value} : Wp S N d MX9_addRules 97 [x0, x1, x2] [.ref v0] I J P Q ↔ S v0 = 9 ∧ Wp S N d MX9_addRules 100 [x0, x1, x2] [va_rf (P v0 0)] I J P Q := wp_getf rfl rfl rfl rfl dX9_addRules_97
theorem e_X9_addRules_100 {v0 : Nat} {w : Int32} {x0 x1 : Option Value} : Wp S N d MX9_addRules 100 [x0, x1, some (.int w)] [.ref v0] I J P Q ↔ Wp S N d MX9_addRules 101 [x0, x1, some (.int w)] [.int w, .ref v0] I J P Q := wp_lod (len := 1) rfl rfl rfl rfl dX9_addRules_100
theorem e_X9_addRules_101 {v0 : Int32} {v1 : Nat} {w : Nat} {x1 x2 : Option Value} : Wp S N d MX9_addRules 101 [some (.ref w), x1, x2] [.int v0, .ref v1] I J P Q ↔ Wp S N d MX9_addRules 102 [some (.ref w), x1, x2] [.ref w, .int v0, .ref v1] I J P Q := wp_lod (len := 1) rfl rfl rfl rfl dX9_addRules_101
theorem e_X9_addRules_102 {v0 : Nat} {v1 : Int32} {v2 : Nat} {x0 x1 x2 : Option Value} : Wp S N d MX9_addRules 102 [x0, x1, x2] [.ref v0, .int v1, .ref v2] I J P Q ↔ S v0 = 9 ∧ Wp S N d MX9_addRules 105 [x0, x1, x2] [va_rf (P v0 15), .int v1, .ref v2] I J P Q := wp_getf rfl rfl rfl rfl dX9_addRules_102
theorem e_X9_addRules_105 {v0 : Nat} {v1 : Int32} {v2 : Nat} {w : Int32} {x0 x1 : Option Value} : Wp S N d MX9_addRules 105 [x0, x1, some (.int w)] [.ref v0, .int v1, .ref v2] I J P Q ↔ Wp S N d MX9_addRules 106 [x0, x1, some (.int w)] [.int w, .ref v0, .int v1, .ref v2] I J P Q := wp_lod (len := 1) rfl rfl rfl rfl dX9_addRules_105
theorem e_X9_addRules_106 {v0 : Int32} {v1 : Nat} {v2 : Int32} {v3 : Nat} {x0 x1 x2 : Option Value} : Wp S N d MX9_addRules 106 [x0, x1, x2] [.int v0, .ref v1, .int v2, .ref v3] I J P Q ↔ (S v1 = 10 ∧ vp_in v0 (N v1)) ∧ Wp S N d MX9_addRules 107 [x0, x1, x2] [.int (I v1 v0.toNatClampNeg), .int v2, .ref v3] I J P Q := wp_ald rfl rfl dX9_addRules_106
theorem e_X9_addRules_107 {v0 : Int32} {v1 : Int32} {v2 : Nat} {x0 x1 x2 : Option Value} : Wp S N d MX9_addRules 107 [x0, x1, x2] [.int v0, .int v1, .ref v2] I J P Q ↔ (S v2 = 10 ∧ vp_in v1 (N v2)) ∧ Wp S N d MX9_addRules 108 [x0, x1, x2] [] (u2 I v2 v1.toNatClampNeg v0) J P Q := wp_ast rfl rfl dX9_addRules_107
theorem e_X9_addRules_108 {w : Int32} {x0 x1 : Option Value} : Wp S N d MX9_addRules 108 [x0, x1, some (.int w)] [] I J P Q ↔ Wp S N d MX9_addRules 111 [x0, kl x1, some (.int (w + 1))] [] I J P Q := wp_inc rfl rfl dX9_addRules_108
theorem e_X9_addRules_111  {x0 x1 x2 : Option Value} : Wp S N d MX9_addRules 111 [x0, x1, x2] [] I J P Q ↔ Wp S N d MX9_addRules 90 [x0, x1, x2] [] I J P Q := wp_go (len := 3) rfl (fun _ _ => rfl) rfl (by decide) dX9_addRules_111
theorem e_X9_addRules_114 {w : Int32} {x0 x2 : Option Value} : Wp S N d MX9_addRules 114 [x0, some (.int w), x2] [] I J P Q ↔ Wp S N d MX9_addRules 115 [x0, some (.int w), x2] [.int w] I J P Q := wp_lod (len := 1) rfl rfl rfl rfl dX9_addRules_114
theorem e_X9_addRules_115 {v0 : Int32} {x0 x1 x2 : Option Value} : Wp S N d MX9_addRules 115 [x0, x1, x2] [.int v0] I J P Q ↔ Q (some (.int v0)) I J P := wp_iret rfl dX9_addRules_115
theorem dX9_forgets_0 : decode cX9_forgets 0 = .ok (.iconst 0, 1) := by decide +kernel
theorem dX9_forgets_1 : decode cX9_forgets 1 = .ok (.istore_n 2, 1) := by decide +kernel
theorem dX9_forgets_2 : decode cX9_forgets 2 = .ok (.iload_n 2, 1) := by decide +kernel
theorem dX9_forgets_3 : decode cX9_forgets 3 = .ok (.bipush 6, 2) := by decide +kernel
theorem dX9_forgets_5 : decode cX9_forgets 5 = .ok (.if_icmp .ge 21, 3) := by decide +kernel
theorem dX9_forgets_8 : decode cX9_forgets 8 = .ok (.aload_n 0, 1) := by decide +kernel
theorem dX9_forgets_9 : decode cX9_forgets 9 = .ok (.getfield 13, 3) := by decide +kernel
theorem dX9_forgets_12 : decode cX9_forgets 12 = .ok (.bipush 6, 2) := by decide +kernel
theorem dX9_forgets_14 : decode cX9_forgets 14 = .ok (.iload_n 2, 1) := by decide +kernel
theorem dX9_forgets_15 : decode cX9_forgets 15 = .ok (.imul, 1) := by decide +kernel
theorem dX9_forgets_16 : decode cX9_forgets 16 = .ok (.iload_n 1, 1) := by decide +kernel
theorem dX9_forgets_17 : decode cX9_forgets 17 = .ok (.iadd, 1) := by decide +kernel
theorem dX9_forgets_18 : decode cX9_forgets 18 = .ok (.lconst 0, 1) := by decide +kernel
theorem dX9_forgets_19 : decode cX9_forgets 19 = .ok (.lastore, 1) := by decide +kernel
theorem dX9_forgets_20 : decode cX9_forgets 20 = .ok (.iinc 2 1, 3) := by decide +kernel
theorem dX9_forgets_23 : decode cX9_forgets 23 = .ok (.goto (-21), 3) := by decide +kernel
theorem dX9_forgets_26 : decode cX9_forgets 26 = .ok (.return_, 1) := by decide +kernel
theorem c_X9_forgets {a0 : Nat} {a1 : Int32} : CWp S N d MX9_forgets [.ref a0, .int a1] I J P Q ↔ Wp S N d MX9_forgets 0 [some (.ref a0), some (.int a1), none] [] I J P Q := by
  rw [cwp_iff]
  exact ⟨fun h => h.2, fun h => ⟨Nat.le_of_ble_eq_true rfl, h⟩⟩
theorem e_X9_forgets_0  {x0 x1 x2 : Option Value} : Wp S N d MX9_forgets 0 [x0, x1, x2] [] I J P Q ↔ Wp S N d MX9_forgets 1 [x0, x1, x2] [.int 0] I J P Q := wp_iconst (by decide) dX9_forgets_0
theorem e_X9_forgets_1 {v0 : Int32} {x0 x1 x2 : Option Value} : Wp S N d MX9_forgets 1 [x0, x1, x2] [.int v0] I J P Q ↔ Wp S N d MX9_forgets 2 [x0, kl x1, some (.int v0)] [] I J P Q := wp_sto (len := 1) rfl rfl rfl rfl (Nat.le_of_ble_eq_true rfl) rfl dX9_forgets_1
theorem e_X9_forgets_2 {w : Int32} {x0 x1 : Option Value} : Wp S N d MX9_forgets 2 [x0, x1, some (.int w)] [] I J P Q ↔ Wp S N d MX9_forgets 3 [x0, x1, some (.int w)] [.int w] I J P Q := wp_lod (len := 1) rfl rfl rfl rfl dX9_forgets_2
theorem e_X9_forgets_3 {v0 : Int32} {x0 x1 x2 : Option Value} : Wp S N d MX9_forgets 3 [x0, x1, x2] [.int v0] I J P Q ↔ Wp S N d MX9_forgets 5 [x0, x1, x2] [.int 6, .int v0] I J P Q := wp_bipush (by decide) dX9_forgets_3
theorem e_X9_forgets_5 {v0 : Int32} {v1 : Int32} {x0 x1 x2 : Option Value} : Wp S N d MX9_forgets 5 [x0, x1, x2] [.int v0, .int v1] I J P Q ↔ (v0 ≤ v1 → Wp S N d MX9_forgets 26 [x0, x1, x2] [] I J P Q) ∧ (¬ v0 ≤ v1 → Wp S N d MX9_forgets 8 [x0, x1, x2] [] I J P Q) := wp_br rfl rfl (by decide) dX9_forgets_5
theorem e_X9_forgets_8 {w : Nat} {x1 x2 : Option Value} : Wp S N d MX9_forgets 8 [some (.ref w), x1, x2] [] I J P Q ↔ Wp S N d MX9_forgets 9 [some (.ref w), x1, x2] [.ref w] I J P Q := wp_lod (len := 1) rfl rfl rfl rfl dX9_forgets_8
theorem e_X9_forgets_9 {v0 : Nat} {x0 x1 x2 : Option Value} : Wp S N d MX9_forgets 9 [x0, x1, x2] [.ref v0] I J P Q ↔ S v0 = 9 ∧ Wp S N d MX9_forgets 12 [x0, x1, x2] [va_rf (P v0 1)] I J P Q := wp_getf rfl rfl rfl rfl dX9_forgets_9
theorem e_X9_forgets_12 {v0 : Nat} {x0 x1 x2 : Option Value} : Wp S N d MX9_forgets 12 [x0, x1, x2] [.ref v0] I J P Q ↔ Wp S N d MX9_forgets 14 [x0, x1, x2] [.int 6, .ref v0] I J P Q := wp_bipush (by decide) dX9_forgets_12
theorem e_X9_forgets_14 {v0 : Int32} {v1 : Nat} {w : Int32} {x0 x1 : Option Value} : Wp S N d MX9_forgets 14 [x0, x1, some (.int w)] [.int v0, .ref v1] I J P Q ↔ Wp S N d MX9_forgets 15 [x0, x1, some (.int w)] [.int w, .int v0, .ref v1] I J P Q := wp_lod (len := 1) rfl rfl rfl rfl dX9_forgets_14
theorem e_X9_forgets_15 {v0 : Int32} {v1 : Int32} {v2 : Nat} {x0 x1 x2 : Option Value} : Wp S N d MX9_forgets 15 [x0, x1, x2] [.int v0, .int v1, .ref v2] I J P Q ↔ Wp S N d MX9_forgets 16 [x0, x1, x2] [.int (v1 * v0), .ref v2] I J P Q := wp_alu (len := 1) rfl rfl rfl dX9_forgets_15
theorem e_X9_forgets_16 {v0 : Int32} {v1 : Nat} {w : Int32} {x0 x2 : Option Value} : Wp S N d MX9_forgets 16 [x0, some (.int w), x2] [.int v0, .ref v1] I J P Q ↔ Wp S N d MX9_forgets 17 [x0, some (.int w), x2] [.int w, .int v0, .ref v1] I J P Q := wp_lod (len := 1) rfl rfl rfl rfl dX9_forgets_16
theorem e_X9_forgets_17 {v0 : Int32} {v1 : Int32} {v2 : Nat} {x0 x1 x2 : Option Value} : Wp S N d MX9_forgets 17 [x0, x1, x2] [.int v0, .int v1, .ref v2] I J P Q ↔ Wp S N d MX9_forgets 18 [x0, x1, x2] [.int (v1 + v0), .ref v2] I J P Q := wp_alu (len := 1) rfl rfl rfl dX9_forgets_17
theorem e_X9_forgets_18 {v0 : Int32} {v1 : Nat} {x0 x1 x2 : Option Value} : Wp S N d MX9_forgets 18 [x0, x1, x2] [.int v0, .ref v1] I J P Q ↔ Wp S N d MX9_forgets 19 [x0, x1, x2] [.long 0, .int v0, .ref v1] I J P Q := wp_lconst (by decide) dX9_forgets_18
theorem e_X9_forgets_19 {v0 : Int64} {v1 : Int32} {v2 : Nat} {x0 x1 x2 : Option Value} : Wp S N d MX9_forgets 19 [x0, x1, x2] [.long v0, .int v1, .ref v2] I J P Q ↔ (S v2 = 11 ∧ vp_in v1 (N v2)) ∧ Wp S N d MX9_forgets 20 [x0, x1, x2] [] I (u2 J v2 v1.toNatClampNeg v0) P Q := wp_ast rfl rfl dX9_forgets_19
theorem e_X9_forgets_20 {w : Int32} {x0 x1 : Option Value} : Wp S N d MX9_forgets 20 [x0, x1, some (.int w)] [] I J P Q ↔ Wp S N d MX9_forgets 23 [x0, kl x1, some (.int (w + 1))] [] I J P Q := wp_inc rfl rfl dX9_forgets_20
theorem e_X9_forgets_23  {x0 x1 x2 : Option Value} : Wp S N d MX9_forgets 23 [x0, x1, x2] [] I J P Q ↔ Wp S N d MX9_forgets 2 [x0, x1, x2] [] I J P Q := wp_go (len := 3) rfl (fun _ _ => rfl) rfl (by decide) dX9_forgets_23
theorem e_X9_forgets_26  {x0 x1 x2 : Option Value} : Wp S N d MX9_forgets 26 [x0, x1, x2] [] I J P Q ↔ Q none I J P := wp_vret rfl dX9_forgets_26
theorem dX9_clearRules_0 : decode cX9_clearRules 0 = .ok (.aload_n 0, 1) := by decide +kernel
theorem dX9_clearRules_1 : decode cX9_clearRules 1 = .ok (.iconst 0, 1) := by decide +kernel
theorem dX9_clearRules_2 : decode cX9_clearRules 2 = .ok (.putfield 57, 3) := by decide +kernel
theorem dX9_clearRules_5 : decode cX9_clearRules 5 = .ok (.aload_n 0, 1) := by decide +kernel
theorem dX9_clearRules_6 : decode cX9_clearRules 6 = .ok (.invokevirtual 75, 3) := by decide +kernel
theorem dX9_clearRules_9 : decode cX9_clearRules 9 = .ok (.aload_n 0, 1) := by decide +kernel
theorem dX9_clearRules_10 : decode cX9_clearRules 10 = .ok (.getfield 7, 3) := by decide +kernel
theorem dX9_clearRules_13 : decode cX9_clearRules 13 = .ok (.bipush 18, 2) := by decide +kernel
theorem dX9_clearRules_15 : decode cX9_clearRules 15 = .ok (.iaload, 1) := by decide +kernel
theorem dX9_clearRules_16 : decode cX9_clearRules 16 = .ok (.aload_n 0, 1) := by decide +kernel
theorem dX9_clearRules_17 : decode cX9_clearRules 17 = .ok (.getfield 7, 3) := by decide +kernel
theorem dX9_clearRules_20 : decode cX9_clearRules 20 = .ok (.bipush 27, 2) := by decide +kernel
theorem dX9_clearRules_22 : decode cX9_clearRules 22 = .ok (.iaload, 1) := by decide +kernel
theorem dX9_clearRules_23 : decode cX9_clearRules 23 = .ok (.iadd, 1) := by decide +kernel
theorem dX9_clearRules_24 : decode cX9_clearRules 24 = .ok (.istore_n 1, 1) := by decide +kernel
theorem dX9_clearRules_25 : decode cX9_clearRules 25 = .ok (.iconst 0, 1) := by decide +kernel
theorem dX9_clearRules_26 : decode cX9_clearRules 26 = .ok (.istore_n 2, 1) := by decide +kernel
theorem dX9_clearRules_27 : decode cX9_clearRules 27 = .ok (.iload_n 2, 1) := by decide +kernel
theorem dX9_clearRules_28 : decode cX9_clearRules 28 = .ok (.bipush 64, 2) := by decide +kernel
theorem dX9_clearRules_30 : decode cX9_clearRules 30 = .ok (.if_icmp .ge 16, 3) := by decide +kernel
theorem dX9_clearRules_33 : decode cX9_clearRules 33 = .ok (.aload_n 0, 1) := by decide +kernel
theorem dX9_clearRules_34 : decode cX9_clearRules 34 = .ok (.getfield 7, 3) := by decide +kernel
theorem dX9_clearRules_37 : decode cX9_clearRules 37 = .ok (.iload_n 2, 1) := by decide +kernel
theorem dX9_clearRules_38 : decode cX9_clearRules 38 = .ok (.iconst 0, 1) := by decide +kernel
theorem dX9_clearRules_39 : decode cX9_clearRules 39 = .ok (.iastore, 1) := by decide +kernel
theorem dX9_clearRules_40 : decode cX9_clearRules 40 = .ok (.iinc 2 1, 3) := by decide +kernel
theorem dX9_clearRules_43 : decode cX9_clearRules 43 = .ok (.goto (-16), 3) := by decide +kernel
theorem dX9_clearRules_46 : decode cX9_clearRules 46 = .ok (.aload_n 0, 1) := by decide +kernel
theorem dX9_clearRules_47 : decode cX9_clearRules 47 = .ok (.getfield 7, 3) := by decide +kernel
theorem dX9_clearRules_50 : decode cX9_clearRules 50 = .ok (.iconst 0, 1) := by decide +kernel
theorem dX9_clearRules_51 : decode cX9_clearRules 51 = .ok (.iconst 1, 1) := by decide +kernel
theorem dX9_clearRules_52 : decode cX9_clearRules 52 = .ok (.iastore, 1) := by decide +kernel
theorem dX9_clearRules_53 : decode cX9_clearRules 53 = .ok (.iconst 0, 1) := by decide +kernel
theorem dX9_clearRules_54 : decode cX9_clearRules 54 = .ok (.istore_n 2, 1) := by decide +kernel
theorem dX9_clearRules_55 : decode cX9_clearRules 55 = .ok (.iload_n 2, 1) := by decide +kernel
theorem dX9_clearRules_56 : decode cX9_clearRules 56 = .ok (.bipush 6, 2) := by decide +kernel
theorem dX9_clearRules_58 : decode cX9_clearRules 58 = .ok (.if_icmp .ge 14, 3) := by decide +kernel
theorem dX9_clearRules_61 : decode cX9_clearRules 61 = .ok (.aload_n 0, 1) := by decide +kernel
theorem dX9_clearRules_62 : decode cX9_clearRules 62 = .ok (.iload_n 2, 1) := by decide +kernel
theorem dX9_clearRules_63 : decode cX9_clearRules 63 = .ok (.invokevirtual 122, 3) := by decide +kernel
theorem dX9_clearRules_66 : decode cX9_clearRules 66 = .ok (.iinc 2 1, 3) := by decide +kernel
theorem dX9_clearRules_69 : decode cX9_clearRules 69 = .ok (.goto (-14), 3) := by decide +kernel
theorem dX9_clearRules_72 : decode cX9_clearRules 72 = .ok (.iload_n 1, 1) := by decide +kernel
theorem dX9_clearRules_73 : decode cX9_clearRules 73 = .ok (.ireturn, 1) := by decide +kernel
theorem c_X9_clearRules {a0 : Nat} : CWp S N d MX9_clearRules [.ref a0] I J P Q ↔ Wp S N d MX9_clearRules 0 [some (.ref a0), none, none] [] I J P Q := by
  rw [cwp_iff]
  exact ⟨fun h => h.2, fun h => ⟨Nat.le_of_ble_eq_true rfl, h⟩⟩
theorem e_X9_clearRules_0 {w : Nat} {x1 x2 : Option Value} : Wp S N d MX9_clearRules 0 [some (.ref w), x1, x2] [] I J P Q ↔ Wp S N d MX9_clearRules 1 [some (.ref w), x1, x2] [.ref w] I J P Q := wp_lod (len := 1) rfl rfl rfl rfl dX9_clearRules_0
theorem e_X9_clearRules_1 {v0 : Nat} {x0 x1 x2 : Option Value} : Wp S N d MX9_clearRules 1 [x0, x1, x2] [.ref v0] I J P Q ↔ Wp S N d MX9_clearRules 2 [x0, x1, x2] [.int 0, .ref v0] I J P Q := wp_iconst (by decide) dX9_clearRules_1
theorem e_X9_clearRules_2 {v0 : Int32} {v1 : Nat} {x0 x1 x2 : Option Value} : Wp S N d MX9_clearRules 2 [x0, x1, x2] [.int v0, .ref v1] I J P Q ↔ S v1 = 9 ∧ Wp S N d MX9_clearRules 5 [x0, x1, x2] [] (u2 I v1 8 v0) J P Q := wp_putI rfl rfl rfl rfl dX9_clearRules_2
theorem e_X9_clearRules_5 {w : Nat} {x1 x2 : Option Value} : Wp S N d MX9_clearRules 5 [some (.ref w), x1, x2] [] I J P Q ↔ Wp S N d MX9_clearRules 6 [some (.ref w), x1, x2] [.ref w] I J P Q := wp_lod (len := 1) rfl rfl rfl rfl dX9_clearRules_5
theorem e_X9_clearRules_6 {v0 : Nat} {x0 x1 x2 : Option Value} : Wp S N (d + 1) MX9_clearRules 6 [x0, x1, x2] [.ref v0] I J P Q ↔ S v0 = 9 ∧ CWp S N d MX9_changes [.ref v0] I J P (fun r I1 J1 P1 => Wp S N (d + 1) MX9_clearRules 9 [x0, x1, x2] (r.toList ++ []) I1 J1 P1 Q) := wp_callV (M' := MX9_changes) (As := []) rfl rfl rfl rfl (by decide) (Nat.le_of_ble_eq_true rfl) dX9_clearRules_6
theorem e_X9_clearRules_9 {w : Nat} {x1 x2 : Option Value} : Wp S N d MX9_clearRules 9 [some (.ref w), x1, x2] [] I J P Q ↔ Wp S N d MX9_clearRules 10 [some (.ref w), x1, x2] [.ref w] I J P Q := wp_lod (len := 1) rfl rfl rfl rfl dX9_clearRules_9
theorem e_X9_clearRules_10 {v0 : Nat} {x0 x1 x2 : Option Value} : Wp S N d MX9_clearRules 10 [x0, x1, x2] [.ref v0] I J P Q ↔ S v0 = 9 ∧ Wp S N d MX9_clearRules 13 [x0, x1, x2] [va_rf (P v0 0)] I J P Q := wp_getf rfl rfl rfl rfl dX9_clearRules_10
theorem e_X9_clearRules_13 {v0 : Nat} {x0 x1 x2 : Option Value} : Wp S N d MX9_clearRules 13 [x0, x1, x2] [.ref v0] I J P Q ↔ Wp S N d MX9_clearRules 15 [x0, x1, x2] [.int 18, .ref v0] I J P Q := wp_bipush (by decide) dX9_clearRules_13
theorem e_X9_clearRules_15 {v0 : Int32} {v1 : Nat} {x0 x1 x2 : Option Value} : Wp S N d MX9_clearRules 15 [x0, x1, x2] [.int v0, .ref v1] I J P Q ↔ (S v1 = 10 ∧ vp_in v0 (N v1)) ∧ Wp S N d MX9_clearRules 16 [x0, x1, x2] [.int (I v1 v0.toNatClampNeg)] I J P Q := wp_ald rfl rfl dX9_clearRules_15
theorem e_X9_clearRules_16 {v0 : Int32} {w : Nat} {x1 x2 : Option Value} : Wp S N d MX9_clearRules 16 [some (.ref w), x1, x2] [.int v0] I J P Q ↔ Wp S N d MX9_clearRules 17 [some (.ref w), x1, x2] [.ref w, .int v0] I J P Q := wp_lod (len := 1) rfl rfl rfl rfl dX9_clearRules_16
theorem e_X9_clearRules_17 {v0 : Nat} {v1 : Int32} {x0 x1 x2 : Option Value} : Wp S N d MX9_clearRules 17 [x0, x1, x2] [.ref v0, .int v1] I J P Q ↔ S v0 = 9 ∧ Wp S N d MX9_clearRules 20 [x0, x1, x2] [va_rf (P v0 0), .int v1] I J P Q := wp_getf rfl rfl rfl rfl dX9_clearRules_17
theorem e_X9_clearRules_20 {v0 : Nat} {v1 : Int32} {x0 x1 x2 : Option Value} : Wp S N d MX9_clearRules 20 [x0, x1, x2] [.ref v0, .int v1] I J P Q ↔ Wp S N d MX9_clearRules 22 [x0, x1, x2] [.int 27, .ref v0, .int v1] I J P Q := wp_bipush (by decide) dX9_clearRules_20
theorem e_X9_clearRules_22 {v0 : Int32} {v1 : Nat} {v2 : Int32} {x0 x1 x2 : Option Value} : Wp S N d MX9_clearRules 22 [x0, x1, x2] [.int v0, .ref v1, .int v2] I J P Q ↔ (S v1 = 10 ∧ vp_in v0 (N v1)) ∧ Wp S N d MX9_clearRules 23 [x0, x1, x2] [.int (I v1 v0.toNatClampNeg), .int v2] I J P Q := wp_ald rfl rfl dX9_clearRules_22
theorem e_X9_clearRules_23 {v0 : Int32} {v1 : Int32} {x0 x1 x2 : Option Value} : Wp S N d MX9_clearRules 23 [x0, x1, x2] [.int v0, .int v1] I J P Q ↔ Wp S N d MX9_clearRules 24 [x0, x1, x2] [.int (v1 + v0)] I J P Q := wp_alu (len := 1) rfl rfl rfl dX9_clearRules_23
theorem e_X9_clearRules_24 {v0 : Int32} {x0 x1 x2 : Option Value} : Wp S N d MX9_clearRules 24 [x0, x1, x2] [.int v0] I J P Q ↔ Wp S N d MX9_clearRules 25 [kl x0, some (.int v0), x2] [] I J P Q := wp_sto (len := 1) rfl rfl rfl rfl (Nat.le_of_ble_eq_true rfl) rfl dX9_clearRules_24
theorem e_X9_clearRules_25  {x0 x1 x2 : Option Value} : Wp S N d MX9_clearRules 25 [x0, x1, x2] [] I J P Q ↔ Wp S N d MX9_clearRules 26 [x0, x1, x2] [.int 0] I J P Q := wp_iconst (by decide) dX9_clearRules_25
theorem e_X9_clearRules_26 {v0 : Int32} {x0 x1 x2 : Option Value} : Wp S N d MX9_clearRules 26 [x0, x1, x2] [.int v0] I J P Q ↔ Wp S N d MX9_clearRules 27 [x0, kl x1, some (.int v0)] [] I J P Q := wp_sto (len := 1) rfl rfl rfl rfl (Nat.le_of_ble_eq_true rfl) rfl dX9_clearRules_26
theorem e_X9_clearRules_27 {w : Int32} {x0 x1 : Option Value} : Wp S N d MX9_clearRules 27 [x0, x1, some (.int w)] [] I J P Q ↔ Wp S N d MX9_clearRules 28 [x0, x1, some (.int w)] [.int w] I J P Q := wp_lod (len := 1) rfl rfl rfl rfl dX9_clearRules_27
theorem e_X9_clearRules_28 {v0 : Int32} {x0 x1 x2 : Option Value} : Wp S N d MX9_clearRules 28 [x0, x1, x2] [.int v0] I J P Q ↔ Wp S N d MX9_clearRules 30 [x0, x1, x2] [.int 64, .int v0] I J P Q := wp_bipush (by decide) dX9_clearRules_28
theorem e_X9_clearRules_30 {v0 : Int32} {v1 : Int32} {x0 x1 x2 : Option Value} : Wp S N d MX9_clearRules 30 [x0, x1, x2] [.int v0, .int v1] I J P Q ↔ (v0 ≤ v1 → Wp S N d MX9_clearRules 46 [x0, x1, x2] [] I J P Q) ∧ (¬ v0 ≤ v1 → Wp S N d MX9_clearRules 33 [x0, x1, x2] [] I J P Q) := wp_br rfl rfl (by decide) dX9_clearRules_30
theorem e_X9_clearRules_33 {w : Nat} {x1 x2 : Option Value} : Wp S N d MX9_clearRules 33 [some (.ref w), x1, x2] [] I J P Q ↔ Wp S N d MX9_clearRules 34 [some (.ref w), x1, x2] [.ref w] I J P Q := wp_lod (len := 1) rfl rfl rfl rfl dX9_clearRules_33
theorem e_X9_clearRules_34 {v0 : Nat} {x0 x1 x2 : Option Value} : Wp S N d MX9_clearRules 34 [x0, x1, x2] [.ref v0] I J P Q ↔ S v0 = 9 ∧ Wp S N d MX9_clearRules 37 [x0, x1, x2] [va_rf (P v0 0)] I J P Q := wp_getf rfl rfl rfl rfl dX9_clearRules_34
theorem e_X9_clearRules_37 {v0 : Nat} {w : Int32} {x0 x1 : Option Value} : Wp S N d MX9_clearRules 37 [x0, x1, some (.int w)] [.ref v0] I J P Q ↔ Wp S N d MX9_clearRules 38 [x0, x1, some (.int w)] [.int w, .ref v0] I J P Q := wp_lod (len := 1) rfl rfl rfl rfl dX9_clearRules_37
theorem e_X9_clearRules_38 {v0 : Int32} {v1 : Nat} {x0 x1 x2 : Option Value} : Wp S N d MX9_clearRules 38 [x0, x1, x2] [.int v0, .ref v1] I J P Q ↔ Wp S N d MX9_clearRules 39 [x0, x1, x2] [.int 0, .int v0, .ref v1] I J P Q := wp_iconst (by decide) dX9_clearRules_38
theorem e_X9_clearRules_39 {v0 : Int32} {v1 : Int32} {v2 : Nat} {x0 x1 x2 : Option Value} : Wp S N d MX9_clearRules 39 [x0, x1, x2] [.int v0, .int v1, .ref v2] I J P Q ↔ (S v2 = 10 ∧ vp_in v1 (N v2)) ∧ Wp S N d MX9_clearRules 40 [x0, x1, x2] [] (u2 I v2 v1.toNatClampNeg v0) J P Q := wp_ast rfl rfl dX9_clearRules_39
theorem e_X9_clearRules_40 {w : Int32} {x0 x1 : Option Value} : Wp S N d MX9_clearRules 40 [x0, x1, some (.int w)] [] I J P Q ↔ Wp S N d MX9_clearRules 43 [x0, kl x1, some (.int (w + 1))] [] I J P Q := wp_inc rfl rfl dX9_clearRules_40
theorem e_X9_clearRules_43  {x0 x1 x2 : Option Value} : Wp S N d MX9_clearRules 43 [x0, x1, x2] [] I J P Q ↔ Wp S N d MX9_clearRules 27 [x0, x1, x2] [] I J P Q := wp_go (len := 3) rfl (fun _ _ => rfl) rfl (by decide) dX9_clearRules_43
theorem e_X9_clearRules_46 {w : Nat} {x1 x2 : Option Value} : Wp S N d MX9_clearRules 46 [some (.ref w), x1, x2] [] I J P Q ↔ Wp S N d MX9_clearRules 47 [some (.ref w), x1, x2] [.ref w] I J P Q := wp_lod (len := 1) rfl rfl rfl rfl dX9_clearRules_46
theorem e_X9_clearRules_47 {v0 : Nat} {x0 x1 x2 : Option Value} : Wp S N d MX9_clearRules 47 [x0, x1, x2] [.ref v0] I J P Q ↔ S v0 = 9 ∧ Wp S N d MX9_clearRules 50 [x0, x1, x2] [va_rf (P v0 0)] I J P Q := wp_getf rfl rfl rfl rfl dX9_clearRules_47
theorem e_X9_clearRules_50 {v0 : Nat} {x0 x1 x2 : Option Value} : Wp S N d MX9_clearRules 50 [x0, x1, x2] [.ref v0] I J P Q ↔ Wp S N d MX9_clearRules 51 [x0, x1, x2] [.int 0, .ref v0] I J P Q := wp_iconst (by decide) dX9_clearRules_50
theorem e_X9_clearRules_51 {v0 : Int32} {v1 : Nat} {x0 x1 x2 : Option Value} : Wp S N d MX9_clearRules 51 [x0, x1, x2] [.int v0, .ref v1] I J P Q ↔ Wp S N d MX9_clearRules 52 [x0, x1, x2] [.int 1, .int v0, .ref v1] I J P Q := wp_iconst (by decide) dX9_clearRules_51
theorem e_X9_clearRules_52 {v0 : Int32} {v1 : Int32} {v2 : Nat} {x0 x1 x2 : Option Value} : Wp S N d MX9_clearRules 52 [x0, x1, x2] [.int v0, .int v1, .ref v2] I J P Q ↔ (S v2 = 10 ∧ vp_in v1 (N v2)) ∧ Wp S N d MX9_clearRules 53 [x0, x1, x2] [] (u2 I v2 v1.toNatClampNeg v0) J P Q := wp_ast rfl rfl dX9_clearRules_52
theorem e_X9_clearRules_53  {x0 x1 x2 : Option Value} : Wp S N d MX9_clearRules 53 [x0, x1, x2] [] I J P Q ↔ Wp S N d MX9_clearRules 54 [x0, x1, x2] [.int 0] I J P Q := wp_iconst (by decide) dX9_clearRules_53
theorem e_X9_clearRules_54 {v0 : Int32} {x0 x1 x2 : Option Value} : Wp S N d MX9_clearRules 54 [x0, x1, x2] [.int v0] I J P Q ↔ Wp S N d MX9_clearRules 55 [x0, kl x1, some (.int v0)] [] I J P Q := wp_sto (len := 1) rfl rfl rfl rfl (Nat.le_of_ble_eq_true rfl) rfl dX9_clearRules_54
theorem e_X9_clearRules_55 {w : Int32} {x0 x1 : Option Value} : Wp S N d MX9_clearRules 55 [x0, x1, some (.int w)] [] I J P Q ↔ Wp S N d MX9_clearRules 56 [x0, x1, some (.int w)] [.int w] I J P Q := wp_lod (len := 1) rfl rfl rfl rfl dX9_clearRules_55
theorem e_X9_clearRules_56 {v0 : Int32} {x0 x1 x2 : Option Value} : Wp S N d MX9_clearRules 56 [x0, x1, x2] [.int v0] I J P Q ↔ Wp S N d MX9_clearRules 58 [x0, x1, x2] [.int 6, .int v0] I J P Q := wp_bipush (by decide) dX9_clearRules_56
theorem e_X9_clearRules_58 {v0 : Int32} {v1 : Int32} {x0 x1 x2 : Option Value} : Wp S N d MX9_clearRules 58 [x0, x1, x2] [.int v0, .int v1] I J P Q ↔ (v0 ≤ v1 → Wp S N d MX9_clearRules 72 [x0, x1, x2] [] I J P Q) ∧ (¬ v0 ≤ v1 → Wp S N d MX9_clearRules 61 [x0, x1, x2] [] I J P Q) := wp_br rfl rfl (by decide) dX9_clearRules_58
theorem e_X9_clearRules_61 {w : Nat} {x1 x2 : Option Value} : Wp S N d MX9_clearRules 61 [some (.ref w), x1, x2] [] I J P Q ↔ Wp S N d MX9_clearRules 62 [some (.ref w), x1, x2] [.ref w] I J P Q := wp_lod (len := 1) rfl rfl rfl rfl dX9_clearRules_61
theorem e_X9_clearRules_62 {v0 : Nat} {w : Int32} {x0 x1 : Option Value} : Wp S N d MX9_clearRules 62 [x0, x1, some (.int w)] [.ref v0] I J P Q ↔ Wp S N d MX9_clearRules 63 [x0, x1, some (.int w)] [.int w, .ref v0] I J P Q := wp_lod (len := 1) rfl rfl rfl rfl dX9_clearRules_62
theorem e_X9_clearRules_63 {v0 : Int32} {v1 : Nat} {x0 x1 x2 : Option Value} : Wp S N (d + 1) MX9_clearRules 63 [x0, x1, x2] [.int v0, .ref v1] I J P Q ↔ S v1 = 9 ∧ CWp S N d MX9_forgets [.ref v1, .int v0] I J P (fun r I1 J1 P1 => Wp S N (d + 1) MX9_clearRules 66 [x0, x1, x2] (r.toList ++ []) I1 J1 P1 Q) := wp_callV (M' := MX9_forgets) (As := [.int v0]) rfl rfl rfl rfl (by decide) (Nat.le_of_ble_eq_true rfl) dX9_clearRules_63
theorem e_X9_clearRules_66 {w : Int32} {x0 x1 : Option Value} : Wp S N d MX9_clearRules 66 [x0, x1, some (.int w)] [] I J P Q ↔ Wp S N d MX9_clearRules 69 [x0, kl x1, some (.int (w + 1))] [] I J P Q := wp_inc rfl rfl dX9_clearRules_66
theorem e_X9_clearRules_69  {x0 x1 x2 : Option Value} : Wp S N d MX9_clearRules 69 [x0, x1, x2] [] I J P Q ↔ Wp S N d MX9_clearRules 55 [x0, x1, x2] [] I J P Q := wp_go (len := 3) rfl (fun _ _ => rfl) rfl (by decide) dX9_clearRules_69
theorem e_X9_clearRules_72 {w : Int32} {x0 x2 : Option Value} : Wp S N d MX9_clearRules 72 [x0, some (.int w), x2] [] I J P Q ↔ Wp S N d MX9_clearRules 73 [x0, some (.int w), x2] [.int w] I J P Q := wp_lod (len := 1) rfl rfl rfl rfl dX9_clearRules_72
theorem e_X9_clearRules_73 {v0 : Int32} {x0 x1 x2 : Option Value} : Wp S N d MX9_clearRules 73 [x0, x1, x2] [.int v0] I J P Q ↔ Q (some (.int v0)) I J P := wp_iret rfl dX9_clearRules_73
theorem dX9_bracketCount_0 : decode cX9_bracketCount 0 = .ok (.aload_n 0, 1) := by decide +kernel
theorem dX9_bracketCount_1 : decode cX9_bracketCount 1 = .ok (.iconst 0, 1) := by decide +kernel
theorem dX9_bracketCount_2 : decode cX9_bracketCount 2 = .ok (.putfield 57, 3) := by decide +kernel
theorem dX9_bracketCount_5 : decode cX9_bracketCount 5 = .ok (.aload_n 0, 1) := by decide +kernel
theorem dX9_bracketCount_6 : decode cX9_bracketCount 6 = .ok (.getfield 7, 3) := by decide +kernel
theorem dX9_bracketCount_9 : decode cX9_bracketCount 9 = .ok (.iconst 0, 1) := by decide +kernel
theorem dX9_bracketCount_10 : decode cX9_bracketCount 10 = .ok (.iaload, 1) := by decide +kernel
theorem dX9_bracketCount_11 : decode cX9_bracketCount 11 = .ok (.ireturn, 1) := by decide +kernel
theorem c_X9_bracketCount {a0 : Nat} : CWp S N d MX9_bracketCount [.ref a0] I J P Q ↔ Wp S N d MX9_bracketCount 0 [some (.ref a0)] [] I J P Q := by
  rw [cwp_iff]
  exact ⟨fun h => h.2, fun h => ⟨Nat.le_of_ble_eq_true rfl, h⟩⟩
theorem e_X9_bracketCount_0 {w : Nat} : Wp S N d MX9_bracketCount 0 [some (.ref w)] [] I J P Q ↔ Wp S N d MX9_bracketCount 1 [some (.ref w)] [.ref w] I J P Q := wp_lod (len := 1) rfl rfl rfl rfl dX9_bracketCount_0
theorem e_X9_bracketCount_1 {v0 : Nat} {x0 : Option Value} : Wp S N d MX9_bracketCount 1 [x0] [.ref v0] I J P Q ↔ Wp S N d MX9_bracketCount 2 [x0] [.int 0, .ref v0] I J P Q := wp_iconst (by decide) dX9_bracketCount_1
theorem e_X9_bracketCount_2 {v0 : Int32} {v1 : Nat} {x0 : Option Value} : Wp S N d MX9_bracketCount 2 [x0] [.int v0, .ref v1] I J P Q ↔ S v1 = 9 ∧ Wp S N d MX9_bracketCount 5 [x0] [] (u2 I v1 8 v0) J P Q := wp_putI rfl rfl rfl rfl dX9_bracketCount_2
theorem e_X9_bracketCount_5 {w : Nat} : Wp S N d MX9_bracketCount 5 [some (.ref w)] [] I J P Q ↔ Wp S N d MX9_bracketCount 6 [some (.ref w)] [.ref w] I J P Q := wp_lod (len := 1) rfl rfl rfl rfl dX9_bracketCount_5
theorem e_X9_bracketCount_6 {v0 : Nat} {x0 : Option Value} : Wp S N d MX9_bracketCount 6 [x0] [.ref v0] I J P Q ↔ S v0 = 9 ∧ Wp S N d MX9_bracketCount 9 [x0] [va_rf (P v0 0)] I J P Q := wp_getf rfl rfl rfl rfl dX9_bracketCount_6
theorem e_X9_bracketCount_9 {v0 : Nat} {x0 : Option Value} : Wp S N d MX9_bracketCount 9 [x0] [.ref v0] I J P Q ↔ Wp S N d MX9_bracketCount 10 [x0] [.int 0, .ref v0] I J P Q := wp_iconst (by decide) dX9_bracketCount_9
theorem e_X9_bracketCount_10 {v0 : Int32} {v1 : Nat} {x0 : Option Value} : Wp S N d MX9_bracketCount 10 [x0] [.int v0, .ref v1] I J P Q ↔ (S v1 = 10 ∧ vp_in v0 (N v1)) ∧ Wp S N d MX9_bracketCount 11 [x0] [.int (I v1 v0.toNatClampNeg)] I J P Q := wp_ald rfl rfl dX9_bracketCount_10
theorem e_X9_bracketCount_11 {v0 : Int32} {x0 : Option Value} : Wp S N d MX9_bracketCount 11 [x0] [.int v0] I J P Q ↔ Q (some (.int v0)) I J P := wp_iret rfl dX9_bracketCount_11
theorem dX9_bracket_0 : decode cX9_bracket 0 = .ok (.aload_n 0, 1) := by decide +kernel
theorem dX9_bracket_1 : decode cX9_bracket 1 = .ok (.iload_n 1, 1) := by decide +kernel
theorem dX9_bracket_2 : decode cX9_bracket 2 = .ok (.iconst 0, 1) := by decide +kernel
theorem dX9_bracket_3 : decode cX9_bracket 3 = .ok (.aload_n 0, 1) := by decide +kernel
theorem dX9_bracket_4 : decode cX9_bracket 4 = .ok (.getfield 7, 3) := by decide +kernel
theorem dX9_bracket_7 : decode cX9_bracket 7 = .ok (.iconst 0, 1) := by decide +kernel
theorem dX9_bracket_8 : decode cX9_bracket 8 = .ok (.iaload, 1) := by decide +kernel
theorem dX9_bracket_9 : decode cX9_bracket 9 = .ok (.iconst 1, 1) := by decide +kernel
theorem dX9_bracket_10 : decode cX9_bracket 10 = .ok (.isub, 1) := by decide +kernel
theorem dX9_bracket_11 : decode cX9_bracket 11 = .ok (.invokestatic 60, 3) := by decide +kernel
theorem dX9_bracket_14 : decode cX9_bracket 14 = .ok (.ifCond .eq 20, 3) := by decide +kernel
theorem dX9_bracket_17 : decode cX9_bracket 17 = .ok (.iload_n 2, 1) := by decide +kernel
theorem dX9_bracket_18 : decode cX9_bracket 18 = .ok (.iconst 0, 1) := by decide +kernel
theorem dX9_bracket_19 : decode cX9_bracket 19 = .ok (.iconst 1, 1) := by decide +kernel
theorem dX9_bracket_20 : decode cX9_bracket 20 = .ok (.invokestatic 60, 3) := by decide +kernel
theorem dX9_bracket_23 : decode cX9_bracket 23 = .ok (.ifCond .eq 7, 3) := by decide +kernel
theorem dX9_bracket_26 : decode cX9_bracket 26 = .ok (.iconst 0, 1) := by decide +kernel
theorem dX9_bracket_27 : decode cX9_bracket 27 = .ok (.goto 8, 3) := by decide +kernel
theorem dX9_bracket_30 : decode cX9_bracket 30 = .ok (.iconst 2, 1) := by decide +kernel
theorem dX9_bracket_31 : decode cX9_bracket 31 = .ok (.goto 4, 3) := by decide +kernel
theorem dX9_bracket_34 : decode cX9_bracket 34 = .ok (.iconst 1, 1) := by decide +kernel
theorem dX9_bracket_35 : decode cX9_bracket 35 = .ok (.putfield 57, 3) := by decide +kernel
theorem dX9_bracket_38 : decode cX9_bracket 38 = .ok (.aload_n 0, 1) := by decide +kernel
theorem dX9_bracket_39 : decode cX9_bracket 39 = .ok (.getfield 57, 3) := by decide +kernel
theorem dX9_bracket_42 : decode cX9_bracket 42 = .ok (.ifCond .le 7, 3) := by decide +kernel
theorem dX9_bracket_45 : decode cX9_bracket 45 = .ok (.iconst 0, 1) := by decide +kernel
theorem dX9_bracket_46 : decode cX9_bracket 46 = .ok (.goto 15, 3) := by decide +kernel
theorem dX9_bracket_49 : decode cX9_bracket 49 = .ok (.aload_n 0, 1) := by decide +kernel
theorem dX9_bracket_50 : decode cX9_bracket 50 = .ok (.getfield 7, 3) := by decide +kernel
theorem dX9_bracket_53 : decode cX9_bracket 53 = .ok (.iconst 1, 1) := by decide +kernel
theorem dX9_bracket_54 : decode cX9_bracket 54 = .ok (.iconst 2, 1) := by decide +kernel
theorem dX9_bracket_55 : decode cX9_bracket 55 = .ok (.iload_n 1, 1) := by decide +kernel
theorem dX9_bracket_56 : decode cX9_bracket 56 = .ok (.imul, 1) := by decide +kernel
theorem dX9_bracket_57 : decode cX9_bracket 57 = .ok (.iadd, 1) := by decide +kernel
theorem dX9_bracket_58 : decode cX9_bracket 58 = .ok (.iload_n 2, 1) := by decide +kernel
theorem dX9_bracket_59 : decode cX9_bracket 59 = .ok (.iadd, 1) := by decide +kernel
theorem dX9_bracket_60 : decode cX9_bracket 60 = .ok (.iaload, 1) := by decide +kernel
theorem dX9_bracket_61 : decode cX9_bracket 61 = .ok (.ireturn, 1) := by decide +kernel
theorem c_X9_bracket {a0 : Nat} {a1 : Int32} {a2 : Int32} : CWp S N d MX9_bracket [.ref a0, .int a1, .int a2] I J P Q ↔ Wp S N d MX9_bracket 0 [some (.ref a0), some (.int a1), some (.int a2)] [] I J P Q := by
  rw [cwp_iff]
  exact ⟨fun h => h.2, fun h => ⟨Nat.le_of_ble_eq_true rfl, h⟩⟩
theorem e_X9_bracket_0 {w : Nat} {x1 x2 : Option Value} : Wp S N d MX9_bracket 0 [some (.ref w), x1, x2] [] I J P Q ↔ Wp S N d MX9_bracket 1 [some (.ref w), x1, x2] [.ref w] I J P Q := wp_lod (len := 1) rfl rfl rfl rfl dX9_bracket_0
theorem e_X9_bracket_1 {v0 : Nat} {w : Int32} {x0 x2 : Option Value} : Wp S N d MX9_bracket 1 [x0, some (.int w), x2] [.ref v0] I J P Q ↔ Wp S N d MX9_bracket 2 [x0, some (.int w), x2] [.int w, .ref v0] I J P Q := wp_lod (len := 1) rfl rfl rfl rfl dX9_bracket_1
theorem e_X9_bracket_2 {v0 : Int32} {v1 : Nat} {x0 x1 x2 : Option Value} : Wp S N d MX9_bracket 2 [x0, x1, x2] [.int v0, .ref v1] I J P Q ↔ Wp S N d MX9_bracket 3 [x0, x1, x2] [.int 0, .int v0, .ref v1] I J P Q := wp_iconst (by decide) dX9_bracket_2
theorem e_X9_bracket_3 {v0 : Int32} {v1 : Int32} {v2 : Nat} {w : Nat} {x1 x2 : Option Value} : Wp S N d MX9_bracket 3 [some (.ref w), x1, x2] [.int v0, .int v1, .ref v2] I J P Q ↔ Wp S N d MX9_bracket 4 [some (.ref w), x1, x2] [.ref w, .int v0, .int v1, .ref v2] I J P Q := wp_lod (len := 1) rfl rfl rfl rfl dX9_bracket_3
theorem e_X9_bracket_4 {v0 : Nat} {v1 : Int32} {v2 : Int32} {v3 : Nat} {x0 x1 x2 : Option Value} : Wp S N d MX9_bracket 4 [x0, x1, x2] [.ref v0, .int v1, .int v2, .ref v3] I J P Q ↔ S v0 = 9 ∧ Wp S N d MX9_bracket 7 [x0, x1, x2] [va_rf (P v0 0), .int v1, .int v2, .ref v3] I J P Q := wp_getf rfl rfl rfl rfl dX9_bracket_4
theorem e_X9_bracket_7 {v0 : Nat} {v1 : Int32} {v2 : Int32} {v3 : Nat} {x0 x1 x2 : Option Value} : Wp S N d MX9_bracket 7 [x0, x1, x2] [.ref v0, .int v1, .int v2, .ref v3] I J P Q ↔ Wp S N d MX9_bracket 8 [x0, x1, x2] [.int 0, .ref v0, .int v1, .int v2, .ref v3] I J P Q := wp_iconst (by decide) dX9_bracket_7
theorem e_X9_bracket_8 {v0 : Int32} {v1 : Nat} {v2 : Int32} {v3 : Int32} {v4 : Nat} {x0 x1 x2 : Option Value} : Wp S N d MX9_bracket 8 [x0, x1, x2] [.int v0, .ref v1, .int v2, .int v3, .ref v4] I J P Q ↔ (S v1 = 10 ∧ vp_in v0 (N v1)) ∧ Wp S N d MX9_bracket 9 [x0, x1, x2] [.int (I v1 v0.toNatClampNeg), .int v2, .int v3, .ref v4] I J P Q := wp_ald rfl rfl dX9_bracket_8
theorem e_X9_bracket_9 {v0 : Int32} {v1 : Int32} {v2 : Int32} {v3 : Nat} {x0 x1 x2 : Option Value} : Wp S N d MX9_bracket 9 [x0, x1, x2] [.int v0, .int v1, .int v2, .ref v3] I J P Q ↔ Wp S N d MX9_bracket 10 [x0, x1, x2] [.int 1, .int v0, .int v1, .int v2, .ref v3] I J P Q := wp_iconst (by decide) dX9_bracket_9
theorem e_X9_bracket_10 {v0 : Int32} {v1 : Int32} {v2 : Int32} {v3 : Int32} {v4 : Nat} {x0 x1 x2 : Option Value} : Wp S N d MX9_bracket 10 [x0, x1, x2] [.int v0, .int v1, .int v2, .int v3, .ref v4] I J P Q ↔ Wp S N d MX9_bracket 11 [x0, x1, x2] [.int (v1 - v0), .int v2, .int v3, .ref v4] I J P Q := wp_alu (len := 1) rfl rfl rfl dX9_bracket_10
theorem e_X9_bracket_11 {v0 : Int32} {v1 : Int32} {v2 : Int32} {v3 : Nat} {x0 x1 x2 : Option Value} : Wp S N (d + 1) MX9_bracket 11 [x0, x1, x2] [.int v0, .int v1, .int v2, .ref v3] I J P Q ↔ CWp S N d MX9_in [.int v2, .int v1, .int v0] I J P (fun r I1 J1 P1 => Wp S N (d + 1) MX9_bracket 14 [x0, x1, x2] (r.toList ++ [.ref v3]) I1 J1 P1 Q) := wp_callS (M' := MX9_in) (As := [.int v2, .int v1, .int v0]) rfl rfl rfl rfl (Nat.le_of_ble_eq_true rfl) dX9_bracket_11
theorem e_X9_bracket_14 {v0 : Int32} {v1 : Nat} {x0 x1 x2 : Option Value} : Wp S N d MX9_bracket 14 [x0, x1, x2] [.int v0, .ref v1] I J P Q ↔ (v0 = 0 → Wp S N d MX9_bracket 34 [x0, x1, x2] [.ref v1] I J P Q) ∧ (¬ v0 = 0 → Wp S N d MX9_bracket 17 [x0, x1, x2] [.ref v1] I J P Q) := wp_br rfl rfl (by decide) dX9_bracket_14
theorem e_X9_bracket_17 {v0 : Nat} {w : Int32} {x0 x1 : Option Value} : Wp S N d MX9_bracket 17 [x0, x1, some (.int w)] [.ref v0] I J P Q ↔ Wp S N d MX9_bracket 18 [x0, x1, some (.int w)] [.int w, .ref v0] I J P Q := wp_lod (len := 1) rfl rfl rfl rfl dX9_bracket_17
theorem e_X9_bracket_18 {v0 : Int32} {v1 : Nat} {x0 x1 x2 : Option Value} : Wp S N d MX9_bracket 18 [x0, x1, x2] [.int v0, .ref v1] I J P Q ↔ Wp S N d MX9_bracket 19 [x0, x1, x2] [.int 0, .int v0, .ref v1] I J P Q := wp_iconst (by decide) dX9_bracket_18
theorem e_X9_bracket_19 {v0 : Int32} {v1 : Int32} {v2 : Nat} {x0 x1 x2 : Option Value} : Wp S N d MX9_bracket 19 [x0, x1, x2] [.int v0, .int v1, .ref v2] I J P Q ↔ Wp S N d MX9_bracket 20 [x0, x1, x2] [.int 1, .int v0, .int v1, .ref v2] I J P Q := wp_iconst (by decide) dX9_bracket_19
theorem e_X9_bracket_20 {v0 : Int32} {v1 : Int32} {v2 : Int32} {v3 : Nat} {x0 x1 x2 : Option Value} : Wp S N (d + 1) MX9_bracket 20 [x0, x1, x2] [.int v0, .int v1, .int v2, .ref v3] I J P Q ↔ CWp S N d MX9_in [.int v2, .int v1, .int v0] I J P (fun r I1 J1 P1 => Wp S N (d + 1) MX9_bracket 23 [x0, x1, x2] (r.toList ++ [.ref v3]) I1 J1 P1 Q) := wp_callS (M' := MX9_in) (As := [.int v2, .int v1, .int v0]) rfl rfl rfl rfl (Nat.le_of_ble_eq_true rfl) dX9_bracket_20
theorem e_X9_bracket_23 {v0 : Int32} {v1 : Nat} {x0 x1 x2 : Option Value} : Wp S N d MX9_bracket 23 [x0, x1, x2] [.int v0, .ref v1] I J P Q ↔ (v0 = 0 → Wp S N d MX9_bracket 30 [x0, x1, x2] [.ref v1] I J P Q) ∧ (¬ v0 = 0 → Wp S N d MX9_bracket 26 [x0, x1, x2] [.ref v1] I J P Q) := wp_br rfl rfl (by decide) dX9_bracket_23
theorem e_X9_bracket_26 {v0 : Nat} {x0 x1 x2 : Option Value} : Wp S N d MX9_bracket 26 [x0, x1, x2] [.ref v0] I J P Q ↔ Wp S N d MX9_bracket 27 [x0, x1, x2] [.int 0, .ref v0] I J P Q := wp_iconst (by decide) dX9_bracket_26
theorem e_X9_bracket_27 {v0 : Int32} {v1 : Nat} {x0 x1 x2 : Option Value} : Wp S N d MX9_bracket 27 [x0, x1, x2] [.int v0, .ref v1] I J P Q ↔ Wp S N d MX9_bracket 35 [x0, x1, x2] [.int v0, .ref v1] I J P Q := wp_go (len := 3) rfl (fun _ _ => rfl) rfl (by decide) dX9_bracket_27
theorem e_X9_bracket_30 {v0 : Nat} {x0 x1 x2 : Option Value} : Wp S N d MX9_bracket 30 [x0, x1, x2] [.ref v0] I J P Q ↔ Wp S N d MX9_bracket 31 [x0, x1, x2] [.int 2, .ref v0] I J P Q := wp_iconst (by decide) dX9_bracket_30
theorem e_X9_bracket_31 {v0 : Int32} {v1 : Nat} {x0 x1 x2 : Option Value} : Wp S N d MX9_bracket 31 [x0, x1, x2] [.int v0, .ref v1] I J P Q ↔ Wp S N d MX9_bracket 35 [x0, x1, x2] [.int v0, .ref v1] I J P Q := wp_go (len := 3) rfl (fun _ _ => rfl) rfl (by decide) dX9_bracket_31
theorem e_X9_bracket_34 {v0 : Nat} {x0 x1 x2 : Option Value} : Wp S N d MX9_bracket 34 [x0, x1, x2] [.ref v0] I J P Q ↔ Wp S N d MX9_bracket 35 [x0, x1, x2] [.int 1, .ref v0] I J P Q := wp_iconst (by decide) dX9_bracket_34
theorem e_X9_bracket_35 {v0 : Int32} {v1 : Nat} {x0 x1 x2 : Option Value} : Wp S N d MX9_bracket 35 [x0, x1, x2] [.int v0, .ref v1] I J P Q ↔ S v1 = 9 ∧ Wp S N d MX9_bracket 38 [x0, x1, x2] [] (u2 I v1 8 v0) J P Q := wp_putI rfl rfl rfl rfl dX9_bracket_35
theorem e_X9_bracket_38 {w : Nat} {x1 x2 : Option Value} : Wp S N d MX9_bracket 38 [some (.ref w), x1, x2] [] I J P Q ↔ Wp S N d MX9_bracket 39 [some (.ref w), x1, x2] [.ref w] I J P Q := wp_lod (len := 1) rfl rfl rfl rfl dX9_bracket_38
theorem e_X9_bracket_39 {v0 : Nat} {x0 x1 x2 : Option Value} : Wp S N d MX9_bracket 39 [x0, x1, x2] [.ref v0] I J P Q ↔ S v0 = 9 ∧ Wp S N d MX9_bracket 42 [x0, x1, x2] [.int (I v0 8)] I J P Q := wp_getf rfl rfl rfl rfl dX9_bracket_39
theorem e_X9_bracket_42 {v0 : Int32} {x0 x1 x2 : Option Value} : Wp S N d MX9_bracket 42 [x0, x1, x2] [.int v0] I J P Q ↔ (v0 ≤ 0 → Wp S N d MX9_bracket 49 [x0, x1, x2] [] I J P Q) ∧ (¬ v0 ≤ 0 → Wp S N d MX9_bracket 45 [x0, x1, x2] [] I J P Q) := wp_br rfl rfl (by decide) dX9_bracket_42
theorem e_X9_bracket_45  {x0 x1 x2 : Option Value} : Wp S N d MX9_bracket 45 [x0, x1, x2] [] I J P Q ↔ Wp S N d MX9_bracket 46 [x0, x1, x2] [.int 0] I J P Q := wp_iconst (by decide) dX9_bracket_45
theorem e_X9_bracket_46 {v0 : Int32} {x0 x1 x2 : Option Value} : Wp S N d MX9_bracket 46 [x0, x1, x2] [.int v0] I J P Q ↔ Wp S N d MX9_bracket 61 [x0, x1, x2] [.int v0] I J P Q := wp_go (len := 3) rfl (fun _ _ => rfl) rfl (by decide) dX9_bracket_46
theorem e_X9_bracket_49 {w : Nat} {x1 x2 : Option Value} : Wp S N d MX9_bracket 49 [some (.ref w), x1, x2] [] I J P Q ↔ Wp S N d MX9_bracket 50 [some (.ref w), x1, x2] [.ref w] I J P Q := wp_lod (len := 1) rfl rfl rfl rfl dX9_bracket_49
theorem e_X9_bracket_50 {v0 : Nat} {x0 x1 x2 : Option Value} : Wp S N d MX9_bracket 50 [x0, x1, x2] [.ref v0] I J P Q ↔ S v0 = 9 ∧ Wp S N d MX9_bracket 53 [x0, x1, x2] [va_rf (P v0 0)] I J P Q := wp_getf rfl rfl rfl rfl dX9_bracket_50
theorem e_X9_bracket_53 {v0 : Nat} {x0 x1 x2 : Option Value} : Wp S N d MX9_bracket 53 [x0, x1, x2] [.ref v0] I J P Q ↔ Wp S N d MX9_bracket 54 [x0, x1, x2] [.int 1, .ref v0] I J P Q := wp_iconst (by decide) dX9_bracket_53
theorem e_X9_bracket_54 {v0 : Int32} {v1 : Nat} {x0 x1 x2 : Option Value} : Wp S N d MX9_bracket 54 [x0, x1, x2] [.int v0, .ref v1] I J P Q ↔ Wp S N d MX9_bracket 55 [x0, x1, x2] [.int 2, .int v0, .ref v1] I J P Q := wp_iconst (by decide) dX9_bracket_54
theorem e_X9_bracket_55 {v0 : Int32} {v1 : Int32} {v2 : Nat} {w : Int32} {x0 x2 : Option Value} : Wp S N d MX9_bracket 55 [x0, some (.int w), x2] [.int v0, .int v1, .ref v2] I J P Q ↔ Wp S N d MX9_bracket 56 [x0, some (.int w), x2] [.int w, .int v0, .int v1, .ref v2] I J P Q := wp_lod (len := 1) rfl rfl rfl rfl dX9_bracket_55
theorem e_X9_bracket_56 {v0 : Int32} {v1 : Int32} {v2 : Int32} {v3 : Nat} {x0 x1 x2 : Option Value} : Wp S N d MX9_bracket 56 [x0, x1, x2] [.int v0, .int v1, .int v2, .ref v3] I J P Q ↔ Wp S N d MX9_bracket 57 [x0, x1, x2] [.int (v1 * v0), .int v2, .ref v3] I J P Q := wp_alu (len := 1) rfl rfl rfl dX9_bracket_56
theorem e_X9_bracket_57 {v0 : Int32} {v1 : Int32} {v2 : Nat} {x0 x1 x2 : Option Value} : Wp S N d MX9_bracket 57 [x0, x1, x2] [.int v0, .int v1, .ref v2] I J P Q ↔ Wp S N d MX9_bracket 58 [x0, x1, x2] [.int (v1 + v0), .ref v2] I J P Q := wp_alu (len := 1) rfl rfl rfl dX9_bracket_57
theorem e_X9_bracket_58 {v0 : Int32} {v1 : Nat} {w : Int32} {x0 x1 : Option Value} : Wp S N d MX9_bracket 58 [x0, x1, some (.int w)] [.int v0, .ref v1] I J P Q ↔ Wp S N d MX9_bracket 59 [x0, x1, some (.int w)] [.int w, .int v0, .ref v1] I J P Q := wp_lod (len := 1) rfl rfl rfl rfl dX9_bracket_58
theorem e_X9_bracket_59 {v0 : Int32} {v1 : Int32} {v2 : Nat} {x0 x1 x2 : Option Value} : Wp S N d MX9_bracket 59 [x0, x1, x2] [.int v0, .int v1, .ref v2] I J P Q ↔ Wp S N d MX9_bracket 60 [x0, x1, x2] [.int (v1 + v0), .ref v2] I J P Q := wp_alu (len := 1) rfl rfl rfl dX9_bracket_59
theorem e_X9_bracket_60 {v0 : Int32} {v1 : Nat} {x0 x1 x2 : Option Value} : Wp S N d MX9_bracket 60 [x0, x1, x2] [.int v0, .ref v1] I J P Q ↔ (S v1 = 10 ∧ vp_in v0 (N v1)) ∧ Wp S N d MX9_bracket 61 [x0, x1, x2] [.int (I v1 v0.toNatClampNeg)] I J P Q := wp_ald rfl rfl dX9_bracket_60
theorem e_X9_bracket_61 {v0 : Int32} {x0 x1 x2 : Option Value} : Wp S N d MX9_bracket 61 [x0, x1, x2] [.int v0] I J P Q ↔ Q (some (.int v0)) I J P := wp_iret rfl dX9_bracket_61
theorem dX9_allowance_0 : decode cX9_allowance 0 = .ok (.aload_n 0, 1) := by decide +kernel
theorem dX9_allowance_1 : decode cX9_allowance 1 = .ok (.iload_n 1, 1) := by decide +kernel
theorem dX9_allowance_2 : decode cX9_allowance 2 = .ok (.iconst 0, 1) := by decide +kernel
theorem dX9_allowance_3 : decode cX9_allowance 3 = .ok (.iconst 4, 1) := by decide +kernel
theorem dX9_allowance_4 : decode cX9_allowance 4 = .ok (.invokestatic 60, 3) := by decide +kernel
theorem dX9_allowance_7 : decode cX9_allowance 7 = .ok (.ifCond .eq 7, 3) := by decide +kernel
theorem dX9_allowance_10 : decode cX9_allowance 10 = .ok (.iconst 0, 1) := by decide +kernel
theorem dX9_allowance_11 : decode cX9_allowance 11 = .ok (.goto 4, 3) := by decide +kernel
theorem dX9_allowance_14 : decode cX9_allowance 14 = .ok (.iconst 1, 1) := by decide +kernel
theorem dX9_allowance_15 : decode cX9_allowance 15 = .ok (.putfield 57, 3) := by decide +kernel
theorem dX9_allowance_18 : decode cX9_allowance 18 = .ok (.aload_n 0, 1) := by decide +kernel
theorem dX9_allowance_19 : decode cX9_allowance 19 = .ok (.getfield 57, 3) := by decide +kernel
theorem dX9_allowance_22 : decode cX9_allowance 22 = .ok (.ifCond .le 7, 3) := by decide +kernel
theorem dX9_allowance_25 : decode cX9_allowance 25 = .ok (.iconst 0, 1) := by decide +kernel
theorem dX9_allowance_26 : decode cX9_allowance 26 = .ok (.goto 12, 3) := by decide +kernel
theorem dX9_allowance_29 : decode cX9_allowance 29 = .ok (.aload_n 0, 1) := by decide +kernel
theorem dX9_allowance_30 : decode cX9_allowance 30 = .ok (.getfield 7, 3) := by decide +kernel
theorem dX9_allowance_33 : decode cX9_allowance 33 = .ok (.bipush 13, 2) := by decide +kernel
theorem dX9_allowance_35 : decode cX9_allowance 35 = .ok (.iload_n 1, 1) := by decide +kernel
theorem dX9_allowance_36 : decode cX9_allowance 36 = .ok (.iadd, 1) := by decide +kernel
theorem dX9_allowance_37 : decode cX9_allowance 37 = .ok (.iaload, 1) := by decide +kernel
theorem dX9_allowance_38 : decode cX9_allowance 38 = .ok (.ireturn, 1) := by decide +kernel
theorem c_X9_allowance {a0 : Nat} {a1 : Int32} : CWp S N d MX9_allowance [.ref a0, .int a1] I J P Q ↔ Wp S N d MX9_allowance 0 [some (.ref a0), some (.int a1)] [] I J P Q := by
  rw [cwp_iff]
  exact ⟨fun h => h.2, fun h => ⟨Nat.le_of_ble_eq_true rfl, h⟩⟩
theorem e_X9_allowance_0 {w : Nat} {x1 : Option Value} : Wp S N d MX9_allowance 0 [some (.ref w), x1] [] I J P Q ↔ Wp S N d MX9_allowance 1 [some (.ref w), x1] [.ref w] I J P Q := wp_lod (len := 1) rfl rfl rfl rfl dX9_allowance_0
theorem e_X9_allowance_1 {v0 : Nat} {w : Int32} {x0 : Option Value} : Wp S N d MX9_allowance 1 [x0, some (.int w)] [.ref v0] I J P Q ↔ Wp S N d MX9_allowance 2 [x0, some (.int w)] [.int w, .ref v0] I J P Q := wp_lod (len := 1) rfl rfl rfl rfl dX9_allowance_1
theorem e_X9_allowance_2 {v0 : Int32} {v1 : Nat} {x0 x1 : Option Value} : Wp S N d MX9_allowance 2 [x0, x1] [.int v0, .ref v1] I J P Q ↔ Wp S N d MX9_allowance 3 [x0, x1] [.int 0, .int v0, .ref v1] I J P Q := wp_iconst (by decide) dX9_allowance_2
theorem e_X9_allowance_3 {v0 : Int32} {v1 : Int32} {v2 : Nat} {x0 x1 : Option Value} : Wp S N d MX9_allowance 3 [x0, x1] [.int v0, .int v1, .ref v2] I J P Q ↔ Wp S N d MX9_allowance 4 [x0, x1] [.int 4, .int v0, .int v1, .ref v2] I J P Q := wp_iconst (by decide) dX9_allowance_3
theorem e_X9_allowance_4 {v0 : Int32} {v1 : Int32} {v2 : Int32} {v3 : Nat} {x0 x1 : Option Value} : Wp S N (d + 1) MX9_allowance 4 [x0, x1] [.int v0, .int v1, .int v2, .ref v3] I J P Q ↔ CWp S N d MX9_in [.int v2, .int v1, .int v0] I J P (fun r I1 J1 P1 => Wp S N (d + 1) MX9_allowance 7 [x0, x1] (r.toList ++ [.ref v3]) I1 J1 P1 Q) := wp_callS (M' := MX9_in) (As := [.int v2, .int v1, .int v0]) rfl rfl rfl rfl (Nat.le_of_ble_eq_true rfl) dX9_allowance_4
theorem e_X9_allowance_7 {v0 : Int32} {v1 : Nat} {x0 x1 : Option Value} : Wp S N d MX9_allowance 7 [x0, x1] [.int v0, .ref v1] I J P Q ↔ (v0 = 0 → Wp S N d MX9_allowance 14 [x0, x1] [.ref v1] I J P Q) ∧ (¬ v0 = 0 → Wp S N d MX9_allowance 10 [x0, x1] [.ref v1] I J P Q) := wp_br rfl rfl (by decide) dX9_allowance_7
theorem e_X9_allowance_10 {v0 : Nat} {x0 x1 : Option Value} : Wp S N d MX9_allowance 10 [x0, x1] [.ref v0] I J P Q ↔ Wp S N d MX9_allowance 11 [x0, x1] [.int 0, .ref v0] I J P Q := wp_iconst (by decide) dX9_allowance_10
theorem e_X9_allowance_11 {v0 : Int32} {v1 : Nat} {x0 x1 : Option Value} : Wp S N d MX9_allowance 11 [x0, x1] [.int v0, .ref v1] I J P Q ↔ Wp S N d MX9_allowance 15 [x0, x1] [.int v0, .ref v1] I J P Q := wp_go (len := 3) rfl (fun _ _ => rfl) rfl (by decide) dX9_allowance_11
theorem e_X9_allowance_14 {v0 : Nat} {x0 x1 : Option Value} : Wp S N d MX9_allowance 14 [x0, x1] [.ref v0] I J P Q ↔ Wp S N d MX9_allowance 15 [x0, x1] [.int 1, .ref v0] I J P Q := wp_iconst (by decide) dX9_allowance_14
theorem e_X9_allowance_15 {v0 : Int32} {v1 : Nat} {x0 x1 : Option Value} : Wp S N d MX9_allowance 15 [x0, x1] [.int v0, .ref v1] I J P Q ↔ S v1 = 9 ∧ Wp S N d MX9_allowance 18 [x0, x1] [] (u2 I v1 8 v0) J P Q := wp_putI rfl rfl rfl rfl dX9_allowance_15
theorem e_X9_allowance_18 {w : Nat} {x1 : Option Value} : Wp S N d MX9_allowance 18 [some (.ref w), x1] [] I J P Q ↔ Wp S N d MX9_allowance 19 [some (.ref w), x1] [.ref w] I J P Q := wp_lod (len := 1) rfl rfl rfl rfl dX9_allowance_18
theorem e_X9_allowance_19 {v0 : Nat} {x0 x1 : Option Value} : Wp S N d MX9_allowance 19 [x0, x1] [.ref v0] I J P Q ↔ S v0 = 9 ∧ Wp S N d MX9_allowance 22 [x0, x1] [.int (I v0 8)] I J P Q := wp_getf rfl rfl rfl rfl dX9_allowance_19
theorem e_X9_allowance_22 {v0 : Int32} {x0 x1 : Option Value} : Wp S N d MX9_allowance 22 [x0, x1] [.int v0] I J P Q ↔ (v0 ≤ 0 → Wp S N d MX9_allowance 29 [x0, x1] [] I J P Q) ∧ (¬ v0 ≤ 0 → Wp S N d MX9_allowance 25 [x0, x1] [] I J P Q) := wp_br rfl rfl (by decide) dX9_allowance_22
theorem e_X9_allowance_25  {x0 x1 : Option Value} : Wp S N d MX9_allowance 25 [x0, x1] [] I J P Q ↔ Wp S N d MX9_allowance 26 [x0, x1] [.int 0] I J P Q := wp_iconst (by decide) dX9_allowance_25
theorem e_X9_allowance_26 {v0 : Int32} {x0 x1 : Option Value} : Wp S N d MX9_allowance 26 [x0, x1] [.int v0] I J P Q ↔ Wp S N d MX9_allowance 38 [x0, x1] [.int v0] I J P Q := wp_go (len := 3) rfl (fun _ _ => rfl) rfl (by decide) dX9_allowance_26
theorem e_X9_allowance_29 {w : Nat} {x1 : Option Value} : Wp S N d MX9_allowance 29 [some (.ref w), x1] [] I J P Q ↔ Wp S N d MX9_allowance 30 [some (.ref w), x1] [.ref w] I J P Q := wp_lod (len := 1) rfl rfl rfl rfl dX9_allowance_29
theorem e_X9_allowance_30 {v0 : Nat} {x0 x1 : Option Value} : Wp S N d MX9_allowance 30 [x0, x1] [.ref v0] I J P Q ↔ S v0 = 9 ∧ Wp S N d MX9_allowance 33 [x0, x1] [va_rf (P v0 0)] I J P Q := wp_getf rfl rfl rfl rfl dX9_allowance_30
theorem e_X9_allowance_33 {v0 : Nat} {x0 x1 : Option Value} : Wp S N d MX9_allowance 33 [x0, x1] [.ref v0] I J P Q ↔ Wp S N d MX9_allowance 35 [x0, x1] [.int 13, .ref v0] I J P Q := wp_bipush (by decide) dX9_allowance_33
theorem e_X9_allowance_35 {v0 : Int32} {v1 : Nat} {w : Int32} {x0 : Option Value} : Wp S N d MX9_allowance 35 [x0, some (.int w)] [.int v0, .ref v1] I J P Q ↔ Wp S N d MX9_allowance 36 [x0, some (.int w)] [.int w, .int v0, .ref v1] I J P Q := wp_lod (len := 1) rfl rfl rfl rfl dX9_allowance_35
theorem e_X9_allowance_36 {v0 : Int32} {v1 : Int32} {v2 : Nat} {x0 x1 : Option Value} : Wp S N d MX9_allowance 36 [x0, x1] [.int v0, .int v1, .ref v2] I J P Q ↔ Wp S N d MX9_allowance 37 [x0, x1] [.int (v1 + v0), .ref v2] I J P Q := wp_alu (len := 1) rfl rfl rfl dX9_allowance_36
theorem e_X9_allowance_37 {v0 : Int32} {v1 : Nat} {x0 x1 : Option Value} : Wp S N d MX9_allowance 37 [x0, x1] [.int v0, .ref v1] I J P Q ↔ (S v1 = 10 ∧ vp_in v0 (N v1)) ∧ Wp S N d MX9_allowance 38 [x0, x1] [.int (I v1 v0.toNatClampNeg)] I J P Q := wp_ald rfl rfl dX9_allowance_37
theorem e_X9_allowance_38 {v0 : Int32} {x0 x1 : Option Value} : Wp S N d MX9_allowance 38 [x0, x1] [.int v0] I J P Q ↔ Q (some (.int v0)) I J P := wp_iret rfl dX9_allowance_38
theorem dX9_chargeCount_0 : decode cX9_chargeCount 0 = .ok (.aload_n 0, 1) := by decide +kernel
theorem dX9_chargeCount_1 : decode cX9_chargeCount 1 = .ok (.iconst 0, 1) := by decide +kernel
theorem dX9_chargeCount_2 : decode cX9_chargeCount 2 = .ok (.putfield 57, 3) := by decide +kernel
theorem dX9_chargeCount_5 : decode cX9_chargeCount 5 = .ok (.aload_n 0, 1) := by decide +kernel
theorem dX9_chargeCount_6 : decode cX9_chargeCount 6 = .ok (.getfield 7, 3) := by decide +kernel
theorem dX9_chargeCount_9 : decode cX9_chargeCount 9 = .ok (.bipush 18, 2) := by decide +kernel
theorem dX9_chargeCount_11 : decode cX9_chargeCount 11 = .ok (.iaload, 1) := by decide +kernel
theorem dX9_chargeCount_12 : decode cX9_chargeCount 12 = .ok (.ireturn, 1) := by decide +kernel
theorem c_X9_chargeCount {a0 : Nat} : CWp S N d MX9_chargeCount [.ref a0] I J P Q ↔ Wp S N d MX9_chargeCount 0 [some (.ref a0)] [] I J P Q := by
  rw [cwp_iff]
  exact ⟨fun h => h.2, fun h => ⟨Nat.le_of_ble_eq_true rfl, h⟩⟩
theorem e_X9_chargeCount_0 {w : Nat} : Wp S N d MX9_chargeCount 0 [some (.ref w)] [] I J P Q ↔ Wp S N d MX9_chargeCount 1 [some (.ref w)] [.ref w] I J P Q := wp_lod (len := 1) rfl rfl rfl rfl dX9_chargeCount_0
theorem e_X9_chargeCount_1 {v0 : Nat} {x0 : Option Value} : Wp S N d MX9_chargeCount 1 [x0] [.ref v0] I J P Q ↔ Wp S N d MX9_chargeCount 2 [x0] [.int 0, .ref v0] I J P Q := wp_iconst (by decide) dX9_chargeCount_1
theorem e_X9_chargeCount_2 {v0 : Int32} {v1 : Nat} {x0 : Option Value} : Wp S N d MX9_chargeCount 2 [x0] [.int v0, .ref v1] I J P Q ↔ S v1 = 9 ∧ Wp S N d MX9_chargeCount 5 [x0] [] (u2 I v1 8 v0) J P Q := wp_putI rfl rfl rfl rfl dX9_chargeCount_2
theorem e_X9_chargeCount_5 {w : Nat} : Wp S N d MX9_chargeCount 5 [some (.ref w)] [] I J P Q ↔ Wp S N d MX9_chargeCount 6 [some (.ref w)] [.ref w] I J P Q := wp_lod (len := 1) rfl rfl rfl rfl dX9_chargeCount_5
theorem e_X9_chargeCount_6 {v0 : Nat} {x0 : Option Value} : Wp S N d MX9_chargeCount 6 [x0] [.ref v0] I J P Q ↔ S v0 = 9 ∧ Wp S N d MX9_chargeCount 9 [x0] [va_rf (P v0 0)] I J P Q := wp_getf rfl rfl rfl rfl dX9_chargeCount_6
theorem e_X9_chargeCount_9 {v0 : Nat} {x0 : Option Value} : Wp S N d MX9_chargeCount 9 [x0] [.ref v0] I J P Q ↔ Wp S N d MX9_chargeCount 11 [x0] [.int 18, .ref v0] I J P Q := wp_bipush (by decide) dX9_chargeCount_9
theorem e_X9_chargeCount_11 {v0 : Int32} {v1 : Nat} {x0 : Option Value} : Wp S N d MX9_chargeCount 11 [x0] [.int v0, .ref v1] I J P Q ↔ (S v1 = 10 ∧ vp_in v0 (N v1)) ∧ Wp S N d MX9_chargeCount 12 [x0] [.int (I v1 v0.toNatClampNeg)] I J P Q := wp_ald rfl rfl dX9_chargeCount_11
theorem e_X9_chargeCount_12 {v0 : Int32} {x0 : Option Value} : Wp S N d MX9_chargeCount 12 [x0] [.int v0] I J P Q ↔ Q (some (.int v0)) I J P := wp_iret rfl dX9_chargeCount_12
theorem dX9_charge_0 : decode cX9_charge 0 = .ok (.aload_n 0, 1) := by decide +kernel
theorem dX9_charge_1 : decode cX9_charge 1 = .ok (.iload_n 1, 1) := by decide +kernel
theorem dX9_charge_2 : decode cX9_charge 2 = .ok (.iconst 0, 1) := by decide +kernel
theorem dX9_charge_3 : decode cX9_charge 3 = .ok (.aload_n 0, 1) := by decide +kernel
theorem dX9_charge_4 : decode cX9_charge 4 = .ok (.getfield 7, 3) := by decide +kernel
theorem dX9_charge_7 : decode cX9_charge 7 = .ok (.bipush 18, 2) := by decide +kernel
theorem dX9_charge_9 : decode cX9_charge 9 = .ok (.iaload, 1) := by decide +kernel
theorem dX9_charge_10 : decode cX9_charge 10 = .ok (.iconst 1, 1) := by decide +kernel
theorem dX9_charge_11 : decode cX9_charge 11 = .ok (.isub, 1) := by decide +kernel
theorem dX9_charge_12 : decode cX9_charge 12 = .ok (.invokestatic 60, 3) := by decide +kernel
theorem dX9_charge_15 : decode cX9_charge 15 = .ok (.ifCond .eq 20, 3) := by decide +kernel
theorem dX9_charge_18 : decode cX9_charge 18 = .ok (.iload_n 2, 1) := by decide +kernel
theorem dX9_charge_19 : decode cX9_charge 19 = .ok (.iconst 0, 1) := by decide +kernel
theorem dX9_charge_20 : decode cX9_charge 20 = .ok (.iconst 1, 1) := by decide +kernel
theorem dX9_charge_21 : decode cX9_charge 21 = .ok (.invokestatic 60, 3) := by decide +kernel
theorem dX9_charge_24 : decode cX9_charge 24 = .ok (.ifCond .eq 7, 3) := by decide +kernel
theorem dX9_charge_27 : decode cX9_charge 27 = .ok (.iconst 0, 1) := by decide +kernel
theorem dX9_charge_28 : decode cX9_charge 28 = .ok (.goto 8, 3) := by decide +kernel
theorem dX9_charge_31 : decode cX9_charge 31 = .ok (.iconst 2, 1) := by decide +kernel
theorem dX9_charge_32 : decode cX9_charge 32 = .ok (.goto 4, 3) := by decide +kernel
theorem dX9_charge_35 : decode cX9_charge 35 = .ok (.iconst 1, 1) := by decide +kernel
theorem dX9_charge_36 : decode cX9_charge 36 = .ok (.putfield 57, 3) := by decide +kernel
theorem dX9_charge_39 : decode cX9_charge 39 = .ok (.aload_n 0, 1) := by decide +kernel
theorem dX9_charge_40 : decode cX9_charge 40 = .ok (.getfield 57, 3) := by decide +kernel
theorem dX9_charge_43 : decode cX9_charge 43 = .ok (.ifCond .le 7, 3) := by decide +kernel
theorem dX9_charge_46 : decode cX9_charge 46 = .ok (.iconst 0, 1) := by decide +kernel
theorem dX9_charge_47 : decode cX9_charge 47 = .ok (.goto 16, 3) := by decide +kernel
theorem dX9_charge_50 : decode cX9_charge 50 = .ok (.aload_n 0, 1) := by decide +kernel
theorem dX9_charge_51 : decode cX9_charge 51 = .ok (.getfield 7, 3) := by decide +kernel
theorem dX9_charge_54 : decode cX9_charge 54 = .ok (.bipush 19, 2) := by decide +kernel
theorem dX9_charge_56 : decode cX9_charge 56 = .ok (.iconst 2, 1) := by decide +kernel
theorem dX9_charge_57 : decode cX9_charge 57 = .ok (.iload_n 1, 1) := by decide +kernel
theorem dX9_charge_58 : decode cX9_charge 58 = .ok (.imul, 1) := by decide +kernel
theorem dX9_charge_59 : decode cX9_charge 59 = .ok (.iadd, 1) := by decide +kernel
theorem dX9_charge_60 : decode cX9_charge 60 = .ok (.iload_n 2, 1) := by decide +kernel
theorem dX9_charge_61 : decode cX9_charge 61 = .ok (.iadd, 1) := by decide +kernel
theorem dX9_charge_62 : decode cX9_charge 62 = .ok (.iaload, 1) := by decide +kernel
theorem dX9_charge_63 : decode cX9_charge 63 = .ok (.ireturn, 1) := by decide +kernel
theorem c_X9_charge {a0 : Nat} {a1 : Int32} {a2 : Int32} : CWp S N d MX9_charge [.ref a0, .int a1, .int a2] I J P Q ↔ Wp S N d MX9_charge 0 [some (.ref a0), some (.int a1), some (.int a2)] [] I J P Q := by
  rw [cwp_iff]
  exact ⟨fun h => h.2, fun h => ⟨Nat.le_of_ble_eq_true rfl, h⟩⟩
theorem e_X9_charge_0 {w : Nat} {x1 x2 : Option Value} : Wp S N d MX9_charge 0 [some (.ref w), x1, x2] [] I J P Q ↔ Wp S N d MX9_charge 1 [some (.ref w), x1, x2] [.ref w] I J P Q := wp_lod (len := 1) rfl rfl rfl rfl dX9_charge_0
theorem e_X9_charge_1 {v0 : Nat} {w : Int32} {x0 x2 : Option Value} : Wp S N d MX9_charge 1 [x0, some (.int w), x2] [.ref v0] I J P Q ↔ Wp S N d MX9_charge 2 [x0, some (.int w), x2] [.int w, .ref v0] I J P Q := wp_lod (len := 1) rfl rfl rfl rfl dX9_charge_1
theorem e_X9_charge_2 {v0 : Int32} {v1 : Nat} {x0 x1 x2 : Option Value} : Wp S N d MX9_charge 2 [x0, x1, x2] [.int v0, .ref v1] I J P Q ↔ Wp S N d MX9_charge 3 [x0, x1, x2] [.int 0, .int v0, .ref v1] I J P Q := wp_iconst (by decide) dX9_charge_2
theorem e_X9_charge_3 {v0 : Int32} {v1 : Int32} {v2 : Nat} {w : Nat} {x1 x2 : Option Value} : Wp S N d MX9_charge 3 [some (.ref w), x1, x2] [.int v0, .int v1, .ref v2] I J P Q ↔ Wp S N d MX9_charge 4 [some (.ref w), x1, x2] [.ref w, .int v0, .int v1, .ref v2] I J P Q := wp_lod (len := 1) rfl rfl rfl rfl dX9_charge_3
theorem e_X9_charge_4 {v0 : Nat} {v1 : Int32} {v2 : Int32} {v3 : Nat} {x0 x1 x2 : Option Value} : Wp S N d MX9_charge 4 [x0, x1, x2] [.ref v0, .int v1, .int v2, .ref v3] I J P Q ↔ S v0 = 9 ∧ Wp S N d MX9_charge 7 [x0, x1, x2] [va_rf (P v0 0), .int v1, .int v2, .ref v3] I J P Q := wp_getf rfl rfl rfl rfl dX9_charge_4
theorem e_X9_charge_7 {v0 : Nat} {v1 : Int32} {v2 : Int32} {v3 : Nat} {x0 x1 x2 : Option Value} : Wp S N d MX9_charge 7 [x0, x1, x2] [.ref v0, .int v1, .int v2, .ref v3] I J P Q ↔ Wp S N d MX9_charge 9 [x0, x1, x2] [.int 18, .ref v0, .int v1, .int v2, .ref v3] I J P Q := wp_bipush (by decide) dX9_charge_7
theorem e_X9_charge_9 {v0 : Int32} {v1 : Nat} {v2 : Int32} {v3 : Int32} {v4 : Nat} {x0 x1 x2 : Option Value} : Wp S N d MX9_charge 9 [x0, x1, x2] [.int v0, .ref v1, .int v2, .int v3, .ref v4] I J P Q ↔ (S v1 = 10 ∧ vp_in v0 (N v1)) ∧ Wp S N d MX9_charge 10 [x0, x1, x2] [.int (I v1 v0.toNatClampNeg), .int v2, .int v3, .ref v4] I J P Q := wp_ald rfl rfl dX9_charge_9
theorem e_X9_charge_10 {v0 : Int32} {v1 : Int32} {v2 : Int32} {v3 : Nat} {x0 x1 x2 : Option Value} : Wp S N d MX9_charge 10 [x0, x1, x2] [.int v0, .int v1, .int v2, .ref v3] I J P Q ↔ Wp S N d MX9_charge 11 [x0, x1, x2] [.int 1, .int v0, .int v1, .int v2, .ref v3] I J P Q := wp_iconst (by decide) dX9_charge_10
theorem e_X9_charge_11 {v0 : Int32} {v1 : Int32} {v2 : Int32} {v3 : Int32} {v4 : Nat} {x0 x1 x2 : Option Value} : Wp S N d MX9_charge 11 [x0, x1, x2] [.int v0, .int v1, .int v2, .int v3, .ref v4] I J P Q ↔ Wp S N d MX9_charge 12 [x0, x1, x2] [.int (v1 - v0), .int v2, .int v3, .ref v4] I J P Q := wp_alu (len := 1) rfl rfl rfl dX9_charge_11
theorem e_X9_charge_12 {v0 : Int32} {v1 : Int32} {v2 : Int32} {v3 : Nat} {x0 x1 x2 : Option Value} : Wp S N (d + 1) MX9_charge 12 [x0, x1, x2] [.int v0, .int v1, .int v2, .ref v3] I J P Q ↔ CWp S N d MX9_in [.int v2, .int v1, .int v0] I J P (fun r I1 J1 P1 => Wp S N (d + 1) MX9_charge 15 [x0, x1, x2] (r.toList ++ [.ref v3]) I1 J1 P1 Q) := wp_callS (M' := MX9_in) (As := [.int v2, .int v1, .int v0]) rfl rfl rfl rfl (Nat.le_of_ble_eq_true rfl) dX9_charge_12
theorem e_X9_charge_15 {v0 : Int32} {v1 : Nat} {x0 x1 x2 : Option Value} : Wp S N d MX9_charge 15 [x0, x1, x2] [.int v0, .ref v1] I J P Q ↔ (v0 = 0 → Wp S N d MX9_charge 35 [x0, x1, x2] [.ref v1] I J P Q) ∧ (¬ v0 = 0 → Wp S N d MX9_charge 18 [x0, x1, x2] [.ref v1] I J P Q) := wp_br rfl rfl (by decide) dX9_charge_15
theorem e_X9_charge_18 {v0 : Nat} {w : Int32} {x0 x1 : Option Value} : Wp S N d MX9_charge 18 [x0, x1, some (.int w)] [.ref v0] I J P Q ↔ Wp S N d MX9_charge 19 [x0, x1, some (.int w)] [.int w, .ref v0] I J P Q := wp_lod (len := 1) rfl rfl rfl rfl dX9_charge_18
theorem e_X9_charge_19 {v0 : Int32} {v1 : Nat} {x0 x1 x2 : Option Value} : Wp S N d MX9_charge 19 [x0, x1, x2] [.int v0, .ref v1] I J P Q ↔ Wp S N d MX9_charge 20 [x0, x1, x2] [.int 0, .int v0, .ref v1] I J P Q := wp_iconst (by decide) dX9_charge_19
theorem e_X9_charge_20 {v0 : Int32} {v1 : Int32} {v2 : Nat} {x0 x1 x2 : Option Value} : Wp S N d MX9_charge 20 [x0, x1, x2] [.int v0, .int v1, .ref v2] I J P Q ↔ Wp S N d MX9_charge 21 [x0, x1, x2] [.int 1, .int v0, .int v1, .ref v2] I J P Q := wp_iconst (by decide) dX9_charge_20
theorem e_X9_charge_21 {v0 : Int32} {v1 : Int32} {v2 : Int32} {v3 : Nat} {x0 x1 x2 : Option Value} : Wp S N (d + 1) MX9_charge 21 [x0, x1, x2] [.int v0, .int v1, .int v2, .ref v3] I J P Q ↔ CWp S N d MX9_in [.int v2, .int v1, .int v0] I J P (fun r I1 J1 P1 => Wp S N (d + 1) MX9_charge 24 [x0, x1, x2] (r.toList ++ [.ref v3]) I1 J1 P1 Q) := wp_callS (M' := MX9_in) (As := [.int v2, .int v1, .int v0]) rfl rfl rfl rfl (Nat.le_of_ble_eq_true rfl) dX9_charge_21
theorem e_X9_charge_24 {v0 : Int32} {v1 : Nat} {x0 x1 x2 : Option Value} : Wp S N d MX9_charge 24 [x0, x1, x2] [.int v0, .ref v1] I J P Q ↔ (v0 = 0 → Wp S N d MX9_charge 31 [x0, x1, x2] [.ref v1] I J P Q) ∧ (¬ v0 = 0 → Wp S N d MX9_charge 27 [x0, x1, x2] [.ref v1] I J P Q) := wp_br rfl rfl (by decide) dX9_charge_24
theorem e_X9_charge_27 {v0 : Nat} {x0 x1 x2 : Option Value} : Wp S N d MX9_charge 27 [x0, x1, x2] [.ref v0] I J P Q ↔ Wp S N d MX9_charge 28 [x0, x1, x2] [.int 0, .ref v0] I J P Q := wp_iconst (by decide) dX9_charge_27
theorem e_X9_charge_28 {v0 : Int32} {v1 : Nat} {x0 x1 x2 : Option Value} : Wp S N d MX9_charge 28 [x0, x1, x2] [.int v0, .ref v1] I J P Q ↔ Wp S N d MX9_charge 36 [x0, x1, x2] [.int v0, .ref v1] I J P Q := wp_go (len := 3) rfl (fun _ _ => rfl) rfl (by decide) dX9_charge_28
theorem e_X9_charge_31 {v0 : Nat} {x0 x1 x2 : Option Value} : Wp S N d MX9_charge 31 [x0, x1, x2] [.ref v0] I J P Q ↔ Wp S N d MX9_charge 32 [x0, x1, x2] [.int 2, .ref v0] I J P Q := wp_iconst (by decide) dX9_charge_31
theorem e_X9_charge_32 {v0 : Int32} {v1 : Nat} {x0 x1 x2 : Option Value} : Wp S N d MX9_charge 32 [x0, x1, x2] [.int v0, .ref v1] I J P Q ↔ Wp S N d MX9_charge 36 [x0, x1, x2] [.int v0, .ref v1] I J P Q := wp_go (len := 3) rfl (fun _ _ => rfl) rfl (by decide) dX9_charge_32
theorem e_X9_charge_35 {v0 : Nat} {x0 x1 x2 : Option Value} : Wp S N d MX9_charge 35 [x0, x1, x2] [.ref v0] I J P Q ↔ Wp S N d MX9_charge 36 [x0, x1, x2] [.int 1, .ref v0] I J P Q := wp_iconst (by decide) dX9_charge_35
theorem e_X9_charge_36 {v0 : Int32} {v1 : Nat} {x0 x1 x2 : Option Value} : Wp S N d MX9_charge 36 [x0, x1, x2] [.int v0, .ref v1] I J P Q ↔ S v1 = 9 ∧ Wp S N d MX9_charge 39 [x0, x1, x2] [] (u2 I v1 8 v0) J P Q := wp_putI rfl rfl rfl rfl dX9_charge_36
theorem e_X9_charge_39 {w : Nat} {x1 x2 : Option Value} : Wp S N d MX9_charge 39 [some (.ref w), x1, x2] [] I J P Q ↔ Wp S N d MX9_charge 40 [some (.ref w), x1, x2] [.ref w] I J P Q := wp_lod (len := 1) rfl rfl rfl rfl dX9_charge_39
theorem e_X9_charge_40 {v0 : Nat} {x0 x1 x2 : Option Value} : Wp S N d MX9_charge 40 [x0, x1, x2] [.ref v0] I J P Q ↔ S v0 = 9 ∧ Wp S N d MX9_charge 43 [x0, x1, x2] [.int (I v0 8)] I J P Q := wp_getf rfl rfl rfl rfl dX9_charge_40
theorem e_X9_charge_43 {v0 : Int32} {x0 x1 x2 : Option Value} : Wp S N d MX9_charge 43 [x0, x1, x2] [.int v0] I J P Q ↔ (v0 ≤ 0 → Wp S N d MX9_charge 50 [x0, x1, x2] [] I J P Q) ∧ (¬ v0 ≤ 0 → Wp S N d MX9_charge 46 [x0, x1, x2] [] I J P Q) := wp_br rfl rfl (by decide) dX9_charge_43
theorem e_X9_charge_46  {x0 x1 x2 : Option Value} : Wp S N d MX9_charge 46 [x0, x1, x2] [] I J P Q ↔ Wp S N d MX9_charge 47 [x0, x1, x2] [.int 0] I J P Q := wp_iconst (by decide) dX9_charge_46
theorem e_X9_charge_47 {v0 : Int32} {x0 x1 x2 : Option Value} : Wp S N d MX9_charge 47 [x0, x1, x2] [.int v0] I J P Q ↔ Wp S N d MX9_charge 63 [x0, x1, x2] [.int v0] I J P Q := wp_go (len := 3) rfl (fun _ _ => rfl) rfl (by decide) dX9_charge_47
theorem e_X9_charge_50 {w : Nat} {x1 x2 : Option Value} : Wp S N d MX9_charge 50 [some (.ref w), x1, x2] [] I J P Q ↔ Wp S N d MX9_charge 51 [some (.ref w), x1, x2] [.ref w] I J P Q := wp_lod (len := 1) rfl rfl rfl rfl dX9_charge_50
theorem e_X9_charge_51 {v0 : Nat} {x0 x1 x2 : Option Value} : Wp S N d MX9_charge 51 [x0, x1, x2] [.ref v0] I J P Q ↔ S v0 = 9 ∧ Wp S N d MX9_charge 54 [x0, x1, x2] [va_rf (P v0 0)] I J P Q := wp_getf rfl rfl rfl rfl dX9_charge_51
theorem e_X9_charge_54 {v0 : Nat} {x0 x1 x2 : Option Value} : Wp S N d MX9_charge 54 [x0, x1, x2] [.ref v0] I J P Q ↔ Wp S N d MX9_charge 56 [x0, x1, x2] [.int 19, .ref v0] I J P Q := wp_bipush (by decide) dX9_charge_54
theorem e_X9_charge_56 {v0 : Int32} {v1 : Nat} {x0 x1 x2 : Option Value} : Wp S N d MX9_charge 56 [x0, x1, x2] [.int v0, .ref v1] I J P Q ↔ Wp S N d MX9_charge 57 [x0, x1, x2] [.int 2, .int v0, .ref v1] I J P Q := wp_iconst (by decide) dX9_charge_56
theorem e_X9_charge_57 {v0 : Int32} {v1 : Int32} {v2 : Nat} {w : Int32} {x0 x2 : Option Value} : Wp S N d MX9_charge 57 [x0, some (.int w), x2] [.int v0, .int v1, .ref v2] I J P Q ↔ Wp S N d MX9_charge 58 [x0, some (.int w), x2] [.int w, .int v0, .int v1, .ref v2] I J P Q := wp_lod (len := 1) rfl rfl rfl rfl dX9_charge_57
theorem e_X9_charge_58 {v0 : Int32} {v1 : Int32} {v2 : Int32} {v3 : Nat} {x0 x1 x2 : Option Value} : Wp S N d MX9_charge 58 [x0, x1, x2] [.int v0, .int v1, .int v2, .ref v3] I J P Q ↔ Wp S N d MX9_charge 59 [x0, x1, x2] [.int (v1 * v0), .int v2, .ref v3] I J P Q := wp_alu (len := 1) rfl rfl rfl dX9_charge_58
theorem e_X9_charge_59 {v0 : Int32} {v1 : Int32} {v2 : Nat} {x0 x1 x2 : Option Value} : Wp S N d MX9_charge 59 [x0, x1, x2] [.int v0, .int v1, .ref v2] I J P Q ↔ Wp S N d MX9_charge 60 [x0, x1, x2] [.int (v1 + v0), .ref v2] I J P Q := wp_alu (len := 1) rfl rfl rfl dX9_charge_59
theorem e_X9_charge_60 {v0 : Int32} {v1 : Nat} {w : Int32} {x0 x1 : Option Value} : Wp S N d MX9_charge 60 [x0, x1, some (.int w)] [.int v0, .ref v1] I J P Q ↔ Wp S N d MX9_charge 61 [x0, x1, some (.int w)] [.int w, .int v0, .ref v1] I J P Q := wp_lod (len := 1) rfl rfl rfl rfl dX9_charge_60
theorem e_X9_charge_61 {v0 : Int32} {v1 : Int32} {v2 : Nat} {x0 x1 x2 : Option Value} : Wp S N d MX9_charge 61 [x0, x1, x2] [.int v0, .int v1, .ref v2] I J P Q ↔ Wp S N d MX9_charge 62 [x0, x1, x2] [.int (v1 + v0), .ref v2] I J P Q := wp_alu (len := 1) rfl rfl rfl dX9_charge_61
theorem e_X9_charge_62 {v0 : Int32} {v1 : Nat} {x0 x1 x2 : Option Value} : Wp S N d MX9_charge 62 [x0, x1, x2] [.int v0, .ref v1] I J P Q ↔ (S v1 = 10 ∧ vp_in v0 (N v1)) ∧ Wp S N d MX9_charge 63 [x0, x1, x2] [.int (I v1 v0.toNatClampNeg)] I J P Q := wp_ald rfl rfl dX9_charge_62
theorem e_X9_charge_63 {v0 : Int32} {x0 x1 x2 : Option Value} : Wp S N d MX9_charge 63 [x0, x1, x2] [.int v0] I J P Q ↔ Q (some (.int v0)) I J P := wp_iret rfl dX9_charge_63
theorem dX9_creditCount_0 : decode cX9_creditCount 0 = .ok (.aload_n 0, 1) := by decide +kernel
theorem dX9_creditCount_1 : decode cX9_creditCount 1 = .ok (.iconst 0, 1) := by decide +kernel
theorem dX9_creditCount_2 : decode cX9_creditCount 2 = .ok (.putfield 57, 3) := by decide +kernel
theorem dX9_creditCount_5 : decode cX9_creditCount 5 = .ok (.aload_n 0, 1) := by decide +kernel
theorem dX9_creditCount_6 : decode cX9_creditCount 6 = .ok (.getfield 7, 3) := by decide +kernel
theorem dX9_creditCount_9 : decode cX9_creditCount 9 = .ok (.bipush 27, 2) := by decide +kernel
theorem dX9_creditCount_11 : decode cX9_creditCount 11 = .ok (.iaload, 1) := by decide +kernel
theorem dX9_creditCount_12 : decode cX9_creditCount 12 = .ok (.ireturn, 1) := by decide +kernel
theorem c_X9_creditCount {a0 : Nat} : CWp S N d MX9_creditCount [.ref a0] I J P Q ↔ Wp S N d MX9_creditCount 0 [some (.ref a0)] [] I J P Q := by
  rw [cwp_iff]
  exact ⟨fun h => h.2, fun h => ⟨Nat.le_of_ble_eq_true rfl, h⟩⟩
theorem e_X9_creditCount_0 {w : Nat} : Wp S N d MX9_creditCount 0 [some (.ref w)] [] I J P Q ↔ Wp S N d MX9_creditCount 1 [some (.ref w)] [.ref w] I J P Q := wp_lod (len := 1) rfl rfl rfl rfl dX9_creditCount_0
theorem e_X9_creditCount_1 {v0 : Nat} {x0 : Option Value} : Wp S N d MX9_creditCount 1 [x0] [.ref v0] I J P Q ↔ Wp S N d MX9_creditCount 2 [x0] [.int 0, .ref v0] I J P Q := wp_iconst (by decide) dX9_creditCount_1
theorem e_X9_creditCount_2 {v0 : Int32} {v1 : Nat} {x0 : Option Value} : Wp S N d MX9_creditCount 2 [x0] [.int v0, .ref v1] I J P Q ↔ S v1 = 9 ∧ Wp S N d MX9_creditCount 5 [x0] [] (u2 I v1 8 v0) J P Q := wp_putI rfl rfl rfl rfl dX9_creditCount_2
theorem e_X9_creditCount_5 {w : Nat} : Wp S N d MX9_creditCount 5 [some (.ref w)] [] I J P Q ↔ Wp S N d MX9_creditCount 6 [some (.ref w)] [.ref w] I J P Q := wp_lod (len := 1) rfl rfl rfl rfl dX9_creditCount_5
theorem e_X9_creditCount_6 {v0 : Nat} {x0 : Option Value} : Wp S N d MX9_creditCount 6 [x0] [.ref v0] I J P Q ↔ S v0 = 9 ∧ Wp S N d MX9_creditCount 9 [x0] [va_rf (P v0 0)] I J P Q := wp_getf rfl rfl rfl rfl dX9_creditCount_6
theorem e_X9_creditCount_9 {v0 : Nat} {x0 : Option Value} : Wp S N d MX9_creditCount 9 [x0] [.ref v0] I J P Q ↔ Wp S N d MX9_creditCount 11 [x0] [.int 27, .ref v0] I J P Q := wp_bipush (by decide) dX9_creditCount_9
theorem e_X9_creditCount_11 {v0 : Int32} {v1 : Nat} {x0 : Option Value} : Wp S N d MX9_creditCount 11 [x0] [.int v0, .ref v1] I J P Q ↔ (S v1 = 10 ∧ vp_in v0 (N v1)) ∧ Wp S N d MX9_creditCount 12 [x0] [.int (I v1 v0.toNatClampNeg)] I J P Q := wp_ald rfl rfl dX9_creditCount_11
theorem e_X9_creditCount_12 {v0 : Int32} {x0 : Option Value} : Wp S N d MX9_creditCount 12 [x0] [.int v0] I J P Q ↔ Q (some (.int v0)) I J P := wp_iret rfl dX9_creditCount_12
theorem dX9_credit_0 : decode cX9_credit 0 = .ok (.aload_n 0, 1) := by decide +kernel
theorem dX9_credit_1 : decode cX9_credit 1 = .ok (.aload_n 0, 1) := by decide +kernel
theorem dX9_credit_2 : decode cX9_credit 2 = .ok (.iload_n 1, 1) := by decide +kernel
theorem dX9_credit_3 : decode cX9_credit 3 = .ok (.invokevirtual 126, 3) := by decide +kernel
theorem dX9_credit_6 : decode cX9_credit 6 = .ok (.ifCond .eq 20, 3) := by decide +kernel
theorem dX9_credit_9 : decode cX9_credit 9 = .ok (.iload_n 2, 1) := by decide +kernel
theorem dX9_credit_10 : decode cX9_credit 10 = .ok (.iconst 0, 1) := by decide +kernel
theorem dX9_credit_11 : decode cX9_credit 11 = .ok (.iconst 5, 1) := by decide +kernel
theorem dX9_credit_12 : decode cX9_credit 12 = .ok (.invokestatic 60, 3) := by decide +kernel
theorem dX9_credit_15 : decode cX9_credit 15 = .ok (.ifCond .eq 7, 3) := by decide +kernel
theorem dX9_credit_18 : decode cX9_credit 18 = .ok (.iconst 0, 1) := by decide +kernel
theorem dX9_credit_19 : decode cX9_credit 19 = .ok (.goto 8, 3) := by decide +kernel
theorem dX9_credit_22 : decode cX9_credit 22 = .ok (.iconst 2, 1) := by decide +kernel
theorem dX9_credit_23 : decode cX9_credit 23 = .ok (.goto 4, 3) := by decide +kernel
theorem dX9_credit_26 : decode cX9_credit 26 = .ok (.iconst 1, 1) := by decide +kernel
theorem dX9_credit_27 : decode cX9_credit 27 = .ok (.putfield 57, 3) := by decide +kernel
theorem dX9_credit_30 : decode cX9_credit 30 = .ok (.aload_n 0, 1) := by decide +kernel
theorem dX9_credit_31 : decode cX9_credit 31 = .ok (.getfield 57, 3) := by decide +kernel
theorem dX9_credit_34 : decode cX9_credit 34 = .ok (.ifCond .le 7, 3) := by decide +kernel
theorem dX9_credit_37 : decode cX9_credit 37 = .ok (.iconst 0, 1) := by decide +kernel
theorem dX9_credit_38 : decode cX9_credit 38 = .ok (.goto 9, 3) := by decide +kernel
theorem dX9_credit_41 : decode cX9_credit 41 = .ok (.aload_n 0, 1) := by decide +kernel
theorem dX9_credit_42 : decode cX9_credit 42 = .ok (.iload_n 1, 1) := by decide +kernel
theorem dX9_credit_43 : decode cX9_credit 43 = .ok (.iload_n 2, 1) := by decide +kernel
theorem dX9_credit_44 : decode cX9_credit 44 = .ok (.invokevirtual 129, 3) := by decide +kernel
theorem dX9_credit_47 : decode cX9_credit 47 = .ok (.ireturn, 1) := by decide +kernel
theorem c_X9_credit {a0 : Nat} {a1 : Int32} {a2 : Int32} : CWp S N d MX9_credit [.ref a0, .int a1, .int a2] I J P Q ↔ Wp S N d MX9_credit 0 [some (.ref a0), some (.int a1), some (.int a2)] [] I J P Q := by
  rw [cwp_iff]
  exact ⟨fun h => h.2, fun h => ⟨Nat.le_of_ble_eq_true rfl, h⟩⟩
theorem e_X9_credit_0 {w : Nat} {x1 x2 : Option Value} : Wp S N d MX9_credit 0 [some (.ref w), x1, x2] [] I J P Q ↔ Wp S N d MX9_credit 1 [some (.ref w), x1, x2] [.ref w] I J P Q := wp_lod (len := 1) rfl rfl rfl rfl dX9_credit_0
theorem e_X9_credit_1 {v0 : Nat} {w : Nat} {x1 x2 : Option Value} : Wp S N d MX9_credit 1 [some (.ref w), x1, x2] [.ref v0] I J P Q ↔ Wp S N d MX9_credit 2 [some (.ref w), x1, x2] [.ref w, .ref v0] I J P Q := wp_lod (len := 1) rfl rfl rfl rfl dX9_credit_1
theorem e_X9_credit_2 {v0 : Nat} {v1 : Nat} {w : Int32} {x0 x2 : Option Value} : Wp S N d MX9_credit 2 [x0, some (.int w), x2] [.ref v0, .ref v1] I J P Q ↔ Wp S N d MX9_credit 3 [x0, some (.int w), x2] [.int w, .ref v0, .ref v1] I J P Q := wp_lod (len := 1) rfl rfl rfl rfl dX9_credit_2
theorem e_X9_credit_3 {v0 : Int32} {v1 : Nat} {v2 : Nat} {x0 x1 x2 : Option Value} : Wp S N (d + 1) MX9_credit 3 [x0, x1, x2] [.int v0, .ref v1, .ref v2] I J P Q ↔ S v1 = 9 ∧ CWp S N d MX9_isCredit [.ref v1, .int v0] I J P (fun r I1 J1 P1 => Wp S N (d + 1) MX9_credit 6 [x0, x1, x2] (r.toList ++ [.ref v2]) I1 J1 P1 Q) := wp_callV (M' := MX9_isCredit) (As := [.int v0]) rfl rfl rfl rfl (by decide) (Nat.le_of_ble_eq_true rfl) dX9_credit_3
theorem e_X9_credit_6 {v0 : Int32} {v1 : Nat} {x0 x1 x2 : Option Value} : Wp S N d MX9_credit 6 [x0, x1, x2] [.int v0, .ref v1] I J P Q ↔ (v0 = 0 → Wp S N d MX9_credit 26 [x0, x1, x2] [.ref v1] I J P Q) ∧ (¬ v0 = 0 → Wp S N d MX9_credit 9 [x0, x1, x2] [.ref v1] I J P Q) := wp_br rfl rfl (by decide) dX9_credit_6
theorem e_X9_credit_9 {v0 : Nat} {w : Int32} {x0 x1 : Option Value} : Wp S N d MX9_credit 9 [x0, x1, some (.int w)] [.ref v0] I J P Q ↔ Wp S N d MX9_credit 10 [x0, x1, some (.int w)] [.int w, .ref v0] I J P Q := wp_lod (len := 1) rfl rfl rfl rfl dX9_credit_9
theorem e_X9_credit_10 {v0 : Int32} {v1 : Nat} {x0 x1 x2 : Option Value} : Wp S N d MX9_credit 10 [x0, x1, x2] [.int v0, .ref v1] I J P Q ↔ Wp S N d MX9_credit 11 [x0, x1, x2] [.int 0, .int v0, .ref v1] I J P Q := wp_iconst (by decide) dX9_credit_10
theorem e_X9_credit_11 {v0 : Int32} {v1 : Int32} {v2 : Nat} {x0 x1 x2 : Option Value} : Wp S N d MX9_credit 11 [x0, x1, x2] [.int v0, .int v1, .ref v2] I J P Q ↔ Wp S N d MX9_credit 12 [x0, x1, x2] [.int 5, .int v0, .int v1, .ref v2] I J P Q := wp_iconst (by decide) dX9_credit_11
theorem e_X9_credit_12 {v0 : Int32} {v1 : Int32} {v2 : Int32} {v3 : Nat} {x0 x1 x2 : Option Value} : Wp S N (d + 1) MX9_credit 12 [x0, x1, x2] [.int v0, .int v1, .int v2, .ref v3] I J P Q ↔ CWp S N d MX9_in [.int v2, .int v1, .int v0] I J P (fun r I1 J1 P1 => Wp S N (d + 1) MX9_credit 15 [x0, x1, x2] (r.toList ++ [.ref v3]) I1 J1 P1 Q) := wp_callS (M' := MX9_in) (As := [.int v2, .int v1, .int v0]) rfl rfl rfl rfl (Nat.le_of_ble_eq_true rfl) dX9_credit_12
theorem e_X9_credit_15 {v0 : Int32} {v1 : Nat} {x0 x1 x2 : Option Value} : Wp S N d MX9_credit 15 [x0, x1, x2] [.int v0, .ref v1] I J P Q ↔ (v0 = 0 → Wp S N d MX9_credit 22 [x0, x1, x2] [.ref v1] I J P Q) ∧ (¬ v0 = 0 → Wp S N d MX9_credit 18 [x0, x1, x2] [.ref v1] I J P Q) := wp_br rfl rfl (by decide) dX9_credit_15
theorem e_X9_credit_18 {v0 : Nat} {x0 x1 x2 : Option Value} : Wp S N d MX9_credit 18 [x0, x1, x2] [.ref v0] I J P Q ↔ Wp S N d MX9_credit 19 [x0, x1, x2] [.int 0, .ref v0] I J P Q := wp_iconst (by decide) dX9_credit_18
theorem e_X9_credit_19 {v0 : Int32} {v1 : Nat} {x0 x1 x2 : Option Value} : Wp S N d MX9_credit 19 [x0, x1, x2] [.int v0, .ref v1] I J P Q ↔ Wp S N d MX9_credit 27 [x0, x1, x2] [.int v0, .ref v1] I J P Q := wp_go (len := 3) rfl (fun _ _ => rfl) rfl (by decide) dX9_credit_19
theorem e_X9_credit_22 {v0 : Nat} {x0 x1 x2 : Option Value} : Wp S N d MX9_credit 22 [x0, x1, x2] [.ref v0] I J P Q ↔ Wp S N d MX9_credit 23 [x0, x1, x2] [.int 2, .ref v0] I J P Q := wp_iconst (by decide) dX9_credit_22
theorem e_X9_credit_23 {v0 : Int32} {v1 : Nat} {x0 x1 x2 : Option Value} : Wp S N d MX9_credit 23 [x0, x1, x2] [.int v0, .ref v1] I J P Q ↔ Wp S N d MX9_credit 27 [x0, x1, x2] [.int v0, .ref v1] I J P Q := wp_go (len := 3) rfl (fun _ _ => rfl) rfl (by decide) dX9_credit_23
theorem e_X9_credit_26 {v0 : Nat} {x0 x1 x2 : Option Value} : Wp S N d MX9_credit 26 [x0, x1, x2] [.ref v0] I J P Q ↔ Wp S N d MX9_credit 27 [x0, x1, x2] [.int 1, .ref v0] I J P Q := wp_iconst (by decide) dX9_credit_26
theorem e_X9_credit_27 {v0 : Int32} {v1 : Nat} {x0 x1 x2 : Option Value} : Wp S N d MX9_credit 27 [x0, x1, x2] [.int v0, .ref v1] I J P Q ↔ S v1 = 9 ∧ Wp S N d MX9_credit 30 [x0, x1, x2] [] (u2 I v1 8 v0) J P Q := wp_putI rfl rfl rfl rfl dX9_credit_27
theorem e_X9_credit_30 {w : Nat} {x1 x2 : Option Value} : Wp S N d MX9_credit 30 [some (.ref w), x1, x2] [] I J P Q ↔ Wp S N d MX9_credit 31 [some (.ref w), x1, x2] [.ref w] I J P Q := wp_lod (len := 1) rfl rfl rfl rfl dX9_credit_30
theorem e_X9_credit_31 {v0 : Nat} {x0 x1 x2 : Option Value} : Wp S N d MX9_credit 31 [x0, x1, x2] [.ref v0] I J P Q ↔ S v0 = 9 ∧ Wp S N d MX9_credit 34 [x0, x1, x2] [.int (I v0 8)] I J P Q := wp_getf rfl rfl rfl rfl dX9_credit_31
theorem e_X9_credit_34 {v0 : Int32} {x0 x1 x2 : Option Value} : Wp S N d MX9_credit 34 [x0, x1, x2] [.int v0] I J P Q ↔ (v0 ≤ 0 → Wp S N d MX9_credit 41 [x0, x1, x2] [] I J P Q) ∧ (¬ v0 ≤ 0 → Wp S N d MX9_credit 37 [x0, x1, x2] [] I J P Q) := wp_br rfl rfl (by decide) dX9_credit_34
theorem e_X9_credit_37  {x0 x1 x2 : Option Value} : Wp S N d MX9_credit 37 [x0, x1, x2] [] I J P Q ↔ Wp S N d MX9_credit 38 [x0, x1, x2] [.int 0] I J P Q := wp_iconst (by decide) dX9_credit_37
theorem e_X9_credit_38 {v0 : Int32} {x0 x1 x2 : Option Value} : Wp S N d MX9_credit 38 [x0, x1, x2] [.int v0] I J P Q ↔ Wp S N d MX9_credit 47 [x0, x1, x2] [.int v0] I J P Q := wp_go (len := 3) rfl (fun _ _ => rfl) rfl (by decide) dX9_credit_38
theorem e_X9_credit_41 {w : Nat} {x1 x2 : Option Value} : Wp S N d MX9_credit 41 [some (.ref w), x1, x2] [] I J P Q ↔ Wp S N d MX9_credit 42 [some (.ref w), x1, x2] [.ref w] I J P Q := wp_lod (len := 1) rfl rfl rfl rfl dX9_credit_41
theorem e_X9_credit_42 {v0 : Nat} {w : Int32} {x0 x2 : Option Value} : Wp S N d MX9_credit 42 [x0, some (.int w), x2] [.ref v0] I J P Q ↔ Wp S N d MX9_credit 43 [x0, some (.int w), x2] [.int w, .ref v0] I J P Q := wp_lod (len := 1) rfl rfl rfl rfl dX9_credit_42
theorem e_X9_credit_43 {v0 : Int32} {v1 : Nat} {w : Int32} {x0 x1 : Option Value} : Wp S N d MX9_credit 43 [x0, x1, some (.int w)] [.int v0, .ref v1] I J P Q ↔ Wp S N d MX9_credit 44 [x0, x1, some (.int w)] [.int w, .int v0, .ref v1] I J P Q := wp_lod (len := 1) rfl rfl rfl rfl dX9_credit_43
theorem e_X9_credit_44 {v0 : Int32} {v1 : Int32} {v2 : Nat} {x0 x1 x2 : Option Value} : Wp S N (d + 1) MX9_credit 44 [x0, x1, x2] [.int v0, .int v1, .ref v2] I J P Q ↔ S v2 = 9 ∧ CWp S N d MX9_creditOf [.ref v2, .int v1, .int v0] I J P (fun r I1 J1 P1 => Wp S N (d + 1) MX9_credit 47 [x0, x1, x2] (r.toList ++ []) I1 J1 P1 Q) := wp_callV (M' := MX9_creditOf) (As := [.int v1, .int v0]) rfl rfl rfl rfl (by decide) (Nat.le_of_ble_eq_true rfl) dX9_credit_44
theorem e_X9_credit_47 {v0 : Int32} {x0 x1 x2 : Option Value} : Wp S N d MX9_credit 47 [x0, x1, x2] [.int v0] I J P Q ↔ Q (some (.int v0)) I J P := wp_iret rfl dX9_credit_47
theorem dX9_exchanges_0 : decode cX9_exchanges 0 = .ok (.iconst 0, 1) := by decide +kernel
theorem dX9_exchanges_1 : decode cX9_exchanges 1 = .ok (.istore_n 3, 1) := by decide +kernel
theorem dX9_exchanges_2 : decode cX9_exchanges 2 = .ok (.iload_n 3, 1) := by decide +kernel
theorem dX9_exchanges_3 : decode cX9_exchanges 3 = .ok (.bipush 6, 2) := by decide +kernel
theorem dX9_exchanges_5 : decode cX9_exchanges 5 = .ok (.if_icmp .ge 117, 3) := by decide +kernel
theorem dX9_exchanges_8 : decode cX9_exchanges 8 = .ok (.aload_n 0, 1) := by decide +kernel
theorem dX9_exchanges_9 : decode cX9_exchanges 9 = .ok (.getfield 7, 3) := by decide +kernel
theorem dX9_exchanges_12 : decode cX9_exchanges 12 = .ok (.bipush 28, 2) := by decide +kernel
theorem dX9_exchanges_14 : decode cX9_exchanges 14 = .ok (.bipush 6, 2) := by decide +kernel
theorem dX9_exchanges_16 : decode cX9_exchanges 16 = .ok (.iload_n 1, 1) := by decide +kernel
theorem dX9_exchanges_17 : decode cX9_exchanges 17 = .ok (.imul, 1) := by decide +kernel
theorem dX9_exchanges_18 : decode cX9_exchanges 18 = .ok (.iadd, 1) := by decide +kernel
theorem dX9_exchanges_19 : decode cX9_exchanges 19 = .ok (.iload_n 3, 1) := by decide +kernel
theorem dX9_exchanges_20 : decode cX9_exchanges 20 = .ok (.iadd, 1) := by decide +kernel
theorem dX9_exchanges_21 : decode cX9_exchanges 21 = .ok (.iaload, 1) := by decide +kernel
theorem dX9_exchanges_22 : decode cX9_exchanges 22 = .ok (.istore 4, 2) := by decide +kernel
theorem dX9_exchanges_24 : decode cX9_exchanges 24 = .ok (.aload_n 0, 1) := by decide +kernel
theorem dX9_exchanges_25 : decode cX9_exchanges 25 = .ok (.getfield 7, 3) := by decide +kernel
theorem dX9_exchanges_28 : decode cX9_exchanges 28 = .ok (.bipush 28, 2) := by decide +kernel
theorem dX9_exchanges_30 : decode cX9_exchanges 30 = .ok (.bipush 6, 2) := by decide +kernel
theorem dX9_exchanges_32 : decode cX9_exchanges 32 = .ok (.iload_n 1, 1) := by decide +kernel
theorem dX9_exchanges_33 : decode cX9_exchanges 33 = .ok (.imul, 1) := by decide +kernel
theorem dX9_exchanges_34 : decode cX9_exchanges 34 = .ok (.iadd, 1) := by decide +kernel
theorem dX9_exchanges_35 : decode cX9_exchanges 35 = .ok (.iload_n 3, 1) := by decide +kernel
theorem dX9_exchanges_36 : decode cX9_exchanges 36 = .ok (.iadd, 1) := by decide +kernel
theorem dX9_exchanges_37 : decode cX9_exchanges 37 = .ok (.aload_n 0, 1) := by decide +kernel
theorem dX9_exchanges_38 : decode cX9_exchanges 38 = .ok (.getfield 7, 3) := by decide +kernel
theorem dX9_exchanges_41 : decode cX9_exchanges 41 = .ok (.bipush 28, 2) := by decide +kernel
theorem dX9_exchanges_43 : decode cX9_exchanges 43 = .ok (.bipush 6, 2) := by decide +kernel
theorem dX9_exchanges_45 : decode cX9_exchanges 45 = .ok (.iload_n 2, 1) := by decide +kernel
theorem dX9_exchanges_46 : decode cX9_exchanges 46 = .ok (.imul, 1) := by decide +kernel
theorem dX9_exchanges_47 : decode cX9_exchanges 47 = .ok (.iadd, 1) := by decide +kernel
theorem dX9_exchanges_48 : decode cX9_exchanges 48 = .ok (.iload_n 3, 1) := by decide +kernel
theorem dX9_exchanges_49 : decode cX9_exchanges 49 = .ok (.iadd, 1) := by decide +kernel
theorem dX9_exchanges_50 : decode cX9_exchanges 50 = .ok (.iaload, 1) := by decide +kernel
theorem dX9_exchanges_51 : decode cX9_exchanges 51 = .ok (.iastore, 1) := by decide +kernel
theorem dX9_exchanges_52 : decode cX9_exchanges 52 = .ok (.aload_n 0, 1) := by decide +kernel
theorem dX9_exchanges_53 : decode cX9_exchanges 53 = .ok (.getfield 7, 3) := by decide +kernel
theorem dX9_exchanges_56 : decode cX9_exchanges 56 = .ok (.bipush 28, 2) := by decide +kernel
theorem dX9_exchanges_58 : decode cX9_exchanges 58 = .ok (.bipush 6, 2) := by decide +kernel
theorem dX9_exchanges_60 : decode cX9_exchanges 60 = .ok (.iload_n 2, 1) := by decide +kernel
theorem dX9_exchanges_61 : decode cX9_exchanges 61 = .ok (.imul, 1) := by decide +kernel
theorem dX9_exchanges_62 : decode cX9_exchanges 62 = .ok (.iadd, 1) := by decide +kernel
theorem dX9_exchanges_63 : decode cX9_exchanges 63 = .ok (.iload_n 3, 1) := by decide +kernel
theorem dX9_exchanges_64 : decode cX9_exchanges 64 = .ok (.iadd, 1) := by decide +kernel
theorem dX9_exchanges_65 : decode cX9_exchanges 65 = .ok (.iload 4, 2) := by decide +kernel
theorem dX9_exchanges_67 : decode cX9_exchanges 67 = .ok (.iastore, 1) := by decide +kernel
theorem dX9_exchanges_68 : decode cX9_exchanges 68 = .ok (.aload_n 0, 1) := by decide +kernel
theorem dX9_exchanges_69 : decode cX9_exchanges 69 = .ok (.getfield 13, 3) := by decide +kernel
theorem dX9_exchanges_72 : decode cX9_exchanges 72 = .ok (.bipush 6, 2) := by decide +kernel
theorem dX9_exchanges_74 : decode cX9_exchanges 74 = .ok (.iload_n 3, 1) := by decide +kernel
theorem dX9_exchanges_75 : decode cX9_exchanges 75 = .ok (.imul, 1) := by decide +kernel
theorem dX9_exchanges_76 : decode cX9_exchanges 76 = .ok (.iload_n 1, 1) := by decide +kernel
theorem dX9_exchanges_77 : decode cX9_exchanges 77 = .ok (.iadd, 1) := by decide +kernel
theorem dX9_exchanges_78 : decode cX9_exchanges 78 = .ok (.laload, 1) := by decide +kernel
theorem dX9_exchanges_79 : decode cX9_exchanges 79 = .ok (.lstore 5, 2) := by decide +kernel
theorem dX9_exchanges_81 : decode cX9_exchanges 81 = .ok (.aload_n 0, 1) := by decide +kernel
theorem dX9_exchanges_82 : decode cX9_exchanges 82 = .ok (.getfield 13, 3) := by decide +kernel
theorem dX9_exchanges_85 : decode cX9_exchanges 85 = .ok (.bipush 6, 2) := by decide +kernel
theorem dX9_exchanges_87 : decode cX9_exchanges 87 = .ok (.iload_n 3, 1) := by decide +kernel
theorem dX9_exchanges_88 : decode cX9_exchanges 88 = .ok (.imul, 1) := by decide +kernel
theorem dX9_exchanges_89 : decode cX9_exchanges 89 = .ok (.iload_n 1, 1) := by decide +kernel
theorem dX9_exchanges_90 : decode cX9_exchanges 90 = .ok (.iadd, 1) := by decide +kernel
theorem dX9_exchanges_91 : decode cX9_exchanges 91 = .ok (.aload_n 0, 1) := by decide +kernel
theorem dX9_exchanges_92 : decode cX9_exchanges 92 = .ok (.getfield 13, 3) := by decide +kernel
theorem dX9_exchanges_95 : decode cX9_exchanges 95 = .ok (.bipush 6, 2) := by decide +kernel
theorem dX9_exchanges_97 : decode cX9_exchanges 97 = .ok (.iload_n 3, 1) := by decide +kernel
theorem dX9_exchanges_98 : decode cX9_exchanges 98 = .ok (.imul, 1) := by decide +kernel
theorem dX9_exchanges_99 : decode cX9_exchanges 99 = .ok (.iload_n 2, 1) := by decide +kernel
theorem dX9_exchanges_100 : decode cX9_exchanges 100 = .ok (.iadd, 1) := by decide +kernel
theorem dX9_exchanges_101 : decode cX9_exchanges 101 = .ok (.laload, 1) := by decide +kernel
theorem dX9_exchanges_102 : decode cX9_exchanges 102 = .ok (.lastore, 1) := by decide +kernel
theorem dX9_exchanges_103 : decode cX9_exchanges 103 = .ok (.aload_n 0, 1) := by decide +kernel
theorem dX9_exchanges_104 : decode cX9_exchanges 104 = .ok (.getfield 13, 3) := by decide +kernel
theorem dX9_exchanges_107 : decode cX9_exchanges 107 = .ok (.bipush 6, 2) := by decide +kernel
theorem dX9_exchanges_109 : decode cX9_exchanges 109 = .ok (.iload_n 3, 1) := by decide +kernel
theorem dX9_exchanges_110 : decode cX9_exchanges 110 = .ok (.imul, 1) := by decide +kernel
theorem dX9_exchanges_111 : decode cX9_exchanges 111 = .ok (.iload_n 2, 1) := by decide +kernel
theorem dX9_exchanges_112 : decode cX9_exchanges 112 = .ok (.iadd, 1) := by decide +kernel
theorem dX9_exchanges_113 : decode cX9_exchanges 113 = .ok (.lload 5, 2) := by decide +kernel
theorem dX9_exchanges_115 : decode cX9_exchanges 115 = .ok (.lastore, 1) := by decide +kernel
theorem dX9_exchanges_116 : decode cX9_exchanges 116 = .ok (.iinc 3 1, 3) := by decide +kernel
theorem dX9_exchanges_119 : decode cX9_exchanges 119 = .ok (.goto (-117), 3) := by decide +kernel
theorem dX9_exchanges_122 : decode cX9_exchanges 122 = .ok (.return_, 1) := by decide +kernel
theorem c_X9_exchanges {a0 : Nat} {a1 : Int32} {a2 : Int32} : CWp S N d MX9_exchanges [.ref a0, .int a1, .int a2] I J P Q ↔ Wp S N d MX9_exchanges 0 [some (.ref a0), some (.int a1), some (.int a2), none, none, none, none] [] I J P Q := by
  rw [cwp_iff]
  exact ⟨fun h => h.2, fun h => ⟨Nat.le_of_ble_eq_true rfl, h⟩⟩
theorem e_X9_exchanges_0  {x0 x1 x2 x3 x4 x5 x6 : Option Value} : Wp S N d MX9_exchanges 0 [x0, x1, x2, x3, x4, x5, x6] [] I J P Q ↔ Wp S N d MX9_exchanges 1 [x0, x1, x2, x3, x4, x5, x6] [.int 0] I J P Q := wp_iconst (by decide) dX9_exchanges_0
theorem e_X9_exchanges_1 {v0 : Int32} {x0 x1 x2 x3 x4 x5 x6 : Option Value} : Wp S N d MX9_exchanges 1 [x0, x1, x2, x3, x4, x5, x6] [.int v0] I J P Q ↔ Wp S N d MX9_exchanges 2 [x0, x1, kl x2, some (.int v0), x4, x5, x6] [] I J P Q := wp_sto (len := 1) rfl rfl rfl rfl (Nat.le_of_ble_eq_true rfl) rfl dX9_exchanges_1
theorem e_X9_exchanges_2 {w : Int32} {x0 x1 x2 x4 x5 x6 : Option Value} : Wp S N d MX9_exchanges 2 [x0, x1, x2, some (.int w), x4, x5, x6] [] I J P Q ↔ Wp S N d MX9_exchanges 3 [x0, x1, x2, some (.int w), x4, x5, x6] [.int w] I J P Q := wp_lod (len := 1) rfl rfl rfl rfl dX9_exchanges_2
theorem e_X9_exchanges_3 {v0 : Int32} {x0 x1 x2 x3 x4 x5 x6 : Option Value} : Wp S N d MX9_exchanges 3 [x0, x1, x2, x3, x4, x5, x6] [.int v0] I J P Q ↔ Wp S N d MX9_exchanges 5 [x0, x1, x2, x3, x4, x5, x6] [.int 6, .int v0] I J P Q := wp_bipush (by decide) dX9_exchanges_3
theorem e_X9_exchanges_5 {v0 : Int32} {v1 : Int32} {x0 x1 x2 x3 x4 x5 x6 : Option Value} : Wp S N d MX9_exchanges 5 [x0, x1, x2, x3, x4, x5, x6] [.int v0, .int v1] I J P Q ↔ (v0 ≤ v1 → Wp S N d MX9_exchanges 122 [x0, x1, x2, x3, x4, x5, x6] [] I J P Q) ∧ (¬ v0 ≤ v1 → Wp S N d MX9_exchanges 8 [x0, x1, x2, x3, x4, x5, x6] [] I J P Q) := wp_br rfl rfl (by decide) dX9_exchanges_5
theorem e_X9_exchanges_8 {w : Nat} {x1 x2 x3 x4 x5 x6 : Option Value} : Wp S N d MX9_exchanges 8 [some (.ref w), x1, x2, x3, x4, x5, x6] [] I J P Q ↔ Wp S N d MX9_exchanges 9 [some (.ref w), x1, x2, x3, x4, x5, x6] [.ref w] I J P Q := wp_lod (len := 1) rfl rfl rfl rfl dX9_exchanges_8
theorem e_X9_exchanges_9 {v0 : Nat} {x0 x1 x2 x3 x4 x5 x6 : Option Value} : Wp S N d MX9_exchanges 9 [x0, x1, x2, x3, x4, x5, x6] [.ref v0] I J P Q ↔ S v0 = 9 ∧ Wp S N d MX9_exchanges 12 [x0, x1, x2, x3, x4, x5, x6] [va_rf (P v0 0)] I J P Q := wp_getf rfl rfl rfl rfl dX9_exchanges_9
theorem e_X9_exchanges_12 {v0 : Nat} {x0 x1 x2 x3 x4 x5 x6 : Option Value} : Wp S N d MX9_exchanges 12 [x0, x1, x2, x3, x4, x5, x6] [.ref v0] I J P Q ↔ Wp S N d MX9_exchanges 14 [x0, x1, x2, x3, x4, x5, x6] [.int 28, .ref v0] I J P Q := wp_bipush (by decide) dX9_exchanges_12
theorem e_X9_exchanges_14 {v0 : Int32} {v1 : Nat} {x0 x1 x2 x3 x4 x5 x6 : Option Value} : Wp S N d MX9_exchanges 14 [x0, x1, x2, x3, x4, x5, x6] [.int v0, .ref v1] I J P Q ↔ Wp S N d MX9_exchanges 16 [x0, x1, x2, x3, x4, x5, x6] [.int 6, .int v0, .ref v1] I J P Q := wp_bipush (by decide) dX9_exchanges_14
theorem e_X9_exchanges_16 {v0 : Int32} {v1 : Int32} {v2 : Nat} {w : Int32} {x0 x2 x3 x4 x5 x6 : Option Value} : Wp S N d MX9_exchanges 16 [x0, some (.int w), x2, x3, x4, x5, x6] [.int v0, .int v1, .ref v2] I J P Q ↔ Wp S N d MX9_exchanges 17 [x0, some (.int w), x2, x3, x4, x5, x6] [.int w, .int v0, .int v1, .ref v2] I J P Q := wp_lod (len := 1) rfl rfl rfl rfl dX9_exchanges_16
theorem e_X9_exchanges_17 {v0 : Int32} {v1 : Int32} {v2 : Int32} {v3 : Nat} {x0 x1 x2 x3 x4 x5 x6 : Option Value} : Wp S N d MX9_exchanges 17 [x0, x1, x2, x3, x4, x5, x6] [.int v0, .int v1, .int v2, .ref v3] I J P Q ↔ Wp S N d MX9_exchanges 18 [x0, x1, x2, x3, x4, x5, x6] [.int (v1 * v0), .int v2, .ref v3] I J P Q := wp_alu (len := 1) rfl rfl rfl dX9_exchanges_17
theorem e_X9_exchanges_18 {v0 : Int32} {v1 : Int32} {v2 : Nat} {x0 x1 x2 x3 x4 x5 x6 : Option Value} : Wp S N d MX9_exchanges 18 [x0, x1, x2, x3, x4, x5, x6] [.int v0, .int v1, .ref v2] I J P Q ↔ Wp S N d MX9_exchanges 19 [x0, x1, x2, x3, x4, x5, x6] [.int (v1 + v0), .ref v2] I J P Q := wp_alu (len := 1) rfl rfl rfl dX9_exchanges_18
theorem e_X9_exchanges_19 {v0 : Int32} {v1 : Nat} {w : Int32} {x0 x1 x2 x4 x5 x6 : Option Value} : Wp S N d MX9_exchanges 19 [x0, x1, x2, some (.int w), x4, x5, x6] [.int v0, .ref v1] I J P Q ↔ Wp S N d MX9_exchanges 20 [x0, x1, x2, some (.int w), x4, x5, x6] [.int w, .int v0, .ref v1] I J P Q := wp_lod (len := 1) rfl rfl rfl rfl dX9_exchanges_19
theorem e_X9_exchanges_20 {v0 : Int32} {v1 : Int32} {v2 : Nat} {x0 x1 x2 x3 x4 x5 x6 : Option Value} : Wp S N d MX9_exchanges 20 [x0, x1, x2, x3, x4, x5, x6] [.int v0, .int v1, .ref v2] I J P Q ↔ Wp S N d MX9_exchanges 21 [x0, x1, x2, x3, x4, x5, x6] [.int (v1 + v0), .ref v2] I J P Q := wp_alu (len := 1) rfl rfl rfl dX9_exchanges_20
theorem e_X9_exchanges_21 {v0 : Int32} {v1 : Nat} {x0 x1 x2 x3 x4 x5 x6 : Option Value} : Wp S N d MX9_exchanges 21 [x0, x1, x2, x3, x4, x5, x6] [.int v0, .ref v1] I J P Q ↔ (S v1 = 10 ∧ vp_in v0 (N v1)) ∧ Wp S N d MX9_exchanges 22 [x0, x1, x2, x3, x4, x5, x6] [.int (I v1 v0.toNatClampNeg)] I J P Q := wp_ald rfl rfl dX9_exchanges_21
theorem e_X9_exchanges_22 {v0 : Int32} {x0 x1 x2 x3 x4 x5 x6 : Option Value} : Wp S N d MX9_exchanges 22 [x0, x1, x2, x3, x4, x5, x6] [.int v0] I J P Q ↔ Wp S N d MX9_exchanges 24 [x0, x1, x2, kl x3, some (.int v0), x5, x6] [] I J P Q := wp_sto (len := 2) rfl rfl rfl rfl (Nat.le_of_ble_eq_true rfl) rfl dX9_exchanges_22
theorem e_X9_exchanges_24 {w : Nat} {x1 x2 x3 x4 x5 x6 : Option Value} : Wp S N d MX9_exchanges 24 [some (.ref w), x1, x2, x3, x4, x5, x6] [] I J P Q ↔ Wp S N d MX9_exchanges 25 [some (.ref w), x1, x2, x3, x4, x5, x6] [.ref w] I J P Q := wp_lod (len := 1) rfl rfl rfl rfl dX9_exchanges_24
theorem e_X9_exchanges_25 {v0 : Nat} {x0 x1 x2 x3 x4 x5 x6 : Option Value} : Wp S N d MX9_exchanges 25 [x0, x1, x2, x3, x4, x5, x6] [.ref v0] I J P Q ↔ S v0 = 9 ∧ Wp S N d MX9_exchanges 28 [x0, x1, x2, x3, x4, x5, x6] [va_rf (P v0 0)] I J P Q := wp_getf rfl rfl rfl rfl dX9_exchanges_25
theorem e_X9_exchanges_28 {v0 : Nat} {x0 x1 x2 x3 x4 x5 x6 : Option Value} : Wp S N d MX9_exchanges 28 [x0, x1, x2, x3, x4, x5, x6] [.ref v0] I J P Q ↔ Wp S N d MX9_exchanges 30 [x0, x1, x2, x3, x4, x5, x6] [.int 28, .ref v0] I J P Q := wp_bipush (by decide) dX9_exchanges_28
theorem e_X9_exchanges_30 {v0 : Int32} {v1 : Nat} {x0 x1 x2 x3 x4 x5 x6 : Option Value} : Wp S N d MX9_exchanges 30 [x0, x1, x2, x3, x4, x5, x6] [.int v0, .ref v1] I J P Q ↔ Wp S N d MX9_exchanges 32 [x0, x1, x2, x3, x4, x5, x6] [.int 6, .int v0, .ref v1] I J P Q := wp_bipush (by decide) dX9_exchanges_30
theorem e_X9_exchanges_32 {v0 : Int32} {v1 : Int32} {v2 : Nat} {w : Int32} {x0 x2 x3 x4 x5 x6 : Option Value} : Wp S N d MX9_exchanges 32 [x0, some (.int w), x2, x3, x4, x5, x6] [.int v0, .int v1, .ref v2] I J P Q ↔ Wp S N d MX9_exchanges 33 [x0, some (.int w), x2, x3, x4, x5, x6] [.int w, .int v0, .int v1, .ref v2] I J P Q := wp_lod (len := 1) rfl rfl rfl rfl dX9_exchanges_32
theorem e_X9_exchanges_33 {v0 : Int32} {v1 : Int32} {v2 : Int32} {v3 : Nat} {x0 x1 x2 x3 x4 x5 x6 : Option Value} : Wp S N d MX9_exchanges 33 [x0, x1, x2, x3, x4, x5, x6] [.int v0, .int v1, .int v2, .ref v3] I J P Q ↔ Wp S N d MX9_exchanges 34 [x0, x1, x2, x3, x4, x5, x6] [.int (v1 * v0), .int v2, .ref v3] I J P Q := wp_alu (len := 1) rfl rfl rfl dX9_exchanges_33
theorem e_X9_exchanges_34 {v0 : Int32} {v1 : Int32} {v2 : Nat} {x0 x1 x2 x3 x4 x5 x6 : Option Value} : Wp S N d MX9_exchanges 34 [x0, x1, x2, x3, x4, x5, x6] [.int v0, .int v1, .ref v2] I J P Q ↔ Wp S N d MX9_exchanges 35 [x0, x1, x2, x3, x4, x5, x6] [.int (v1 + v0), .ref v2] I J P Q := wp_alu (len := 1) rfl rfl rfl dX9_exchanges_34
theorem e_X9_exchanges_35 {v0 : Int32} {v1 : Nat} {w : Int32} {x0 x1 x2 x4 x5 x6 : Option Value} : Wp S N d MX9_exchanges 35 [x0, x1, x2, some (.int w), x4, x5, x6] [.int v0, .ref v1] I J P Q ↔ Wp S N d MX9_exchanges 36 [x0, x1, x2, some (.int w), x4, x5, x6] [.int w, .int v0, .ref v1] I J P Q := wp_lod (len := 1) rfl rfl rfl rfl dX9_exchanges_35
theorem e_X9_exchanges_36 {v0 : Int32} {v1 : Int32} {v2 : Nat} {x0 x1 x2 x3 x4 x5 x6 : Option Value} : Wp S N d MX9_exchanges 36 [x0, x1, x2, x3, x4, x5, x6] [.int v0, .int v1, .ref v2] I J P Q ↔ Wp S N d MX9_exchanges 37 [x0, x1, x2, x3, x4, x5, x6] [.int (v1 + v0), .ref v2] I J P Q := wp_alu (len := 1) rfl rfl rfl dX9_exchanges_36
theorem e_X9_exchanges_37 {v0 : Int32} {v1 : Nat} {w : Nat} {x1 x2 x3 x4 x5 x6 : Option Value} : Wp S N d MX9_exchanges 37 [some (.ref w), x1, x2, x3, x4, x5, x6] [.int v0, .ref v1] I J P Q ↔ Wp S N d MX9_exchanges 38 [some (.ref w), x1, x2, x3, x4, x5, x6] [.ref w, .int v0, .ref v1] I J P Q := wp_lod (len := 1) rfl rfl rfl rfl dX9_exchanges_37
theorem e_X9_exchanges_38 {v0 : Nat} {v1 : Int32} {v2 : Nat} {x0 x1 x2 x3 x4 x5 x6 : Option Value} : Wp S N d MX9_exchanges 38 [x0, x1, x2, x3, x4, x5, x6] [.ref v0, .int v1, .ref v2] I J P Q ↔ S v0 = 9 ∧ Wp S N d MX9_exchanges 41 [x0, x1, x2, x3, x4, x5, x6] [va_rf (P v0 0), .int v1, .ref v2] I J P Q := wp_getf rfl rfl rfl rfl dX9_exchanges_38
theorem e_X9_exchanges_41 {v0 : Nat} {v1 : Int32} {v2 : Nat} {x0 x1 x2 x3 x4 x5 x6 : Option Value} : Wp S N d MX9_exchanges 41 [x0, x1, x2, x3, x4, x5, x6] [.ref v0, .int v1, .ref v2] I J P Q ↔ Wp S N d MX9_exchanges 43 [x0, x1, x2, x3, x4, x5, x6] [.int 28, .ref v0, .int v1, .ref v2] I J P Q := wp_bipush (by decide) dX9_exchanges_41
theorem e_X9_exchanges_43 {v0 : Int32} {v1 : Nat} {v2 : Int32} {v3 : Nat} {x0 x1 x2 x3 x4 x5 x6 : Option Value} : Wp S N d MX9_exchanges 43 [x0, x1, x2, x3, x4, x5, x6] [.int v0, .ref v1, .int v2, .ref v3] I J P Q ↔ Wp S N d MX9_exchanges 45 [x0, x1, x2, x3, x4, x5, x6] [.int 6, .int v0, .ref v1, .int v2, .ref v3] I J P Q := wp_bipush (by decide) dX9_exchanges_43
theorem e_X9_exchanges_45 {v0 : Int32} {v1 : Int32} {v2 : Nat} {v3 : Int32} {v4 : Nat} {w : Int32} {x0 x1 x3 x4 x5 x6 : Option Value} : Wp S N d MX9_exchanges 45 [x0, x1, some (.int w), x3, x4, x5, x6] [.int v0, .int v1, .ref v2, .int v3, .ref v4] I J P Q ↔ Wp S N d MX9_exchanges 46 [x0, x1, some (.int w), x3, x4, x5, x6] [.int w, .int v0, .int v1, .ref v2, .int v3, .ref v4] I J P Q := wp_lod (len := 1) rfl rfl rfl rfl dX9_exchanges_45
theorem e_X9_exchanges_46 {v0 : Int32} {v1 : Int32} {v2 : Int32} {v3 : Nat} {v4 : Int32} {v5 : Nat} {x0 x1 x2 x3 x4 x5 x6 : Option Value} : Wp S N d MX9_exchanges 46 [x0, x1, x2, x3, x4, x5, x6] [.int v0, .int v1, .int v2, .ref v3, .int v4, .ref v5] I J P Q ↔ Wp S N d MX9_exchanges 47 [x0, x1, x2, x3, x4, x5, x6] [.int (v1 * v0), .int v2, .ref v3, .int v4, .ref v5] I J P Q := wp_alu (len := 1) rfl rfl rfl dX9_exchanges_46
theorem e_X9_exchanges_47 {v0 : Int32} {v1 : Int32} {v2 : Nat} {v3 : Int32} {v4 : Nat} {x0 x1 x2 x3 x4 x5 x6 : Option Value} : Wp S N d MX9_exchanges 47 [x0, x1, x2, x3, x4, x5, x6] [.int v0, .int v1, .ref v2, .int v3, .ref v4] I J P Q ↔ Wp S N d MX9_exchanges 48 [x0, x1, x2, x3, x4, x5, x6] [.int (v1 + v0), .ref v2, .int v3, .ref v4] I J P Q := wp_alu (len := 1) rfl rfl rfl dX9_exchanges_47
theorem e_X9_exchanges_48 {v0 : Int32} {v1 : Nat} {v2 : Int32} {v3 : Nat} {w : Int32} {x0 x1 x2 x4 x5 x6 : Option Value} : Wp S N d MX9_exchanges 48 [x0, x1, x2, some (.int w), x4, x5, x6] [.int v0, .ref v1, .int v2, .ref v3] I J P Q ↔ Wp S N d MX9_exchanges 49 [x0, x1, x2, some (.int w), x4, x5, x6] [.int w, .int v0, .ref v1, .int v2, .ref v3] I J P Q := wp_lod (len := 1) rfl rfl rfl rfl dX9_exchanges_48
theorem e_X9_exchanges_49 {v0 : Int32} {v1 : Int32} {v2 : Nat} {v3 : Int32} {v4 : Nat} {x0 x1 x2 x3 x4 x5 x6 : Option Value} : Wp S N d MX9_exchanges 49 [x0, x1, x2, x3, x4, x5, x6] [.int v0, .int v1, .ref v2, .int v3, .ref v4] I J P Q ↔ Wp S N d MX9_exchanges 50 [x0, x1, x2, x3, x4, x5, x6] [.int (v1 + v0), .ref v2, .int v3, .ref v4] I J P Q := wp_alu (len := 1) rfl rfl rfl dX9_exchanges_49
theorem e_X9_exchanges_50 {v0 : Int32} {v1 : Nat} {v2 : Int32} {v3 : Nat} {x0 x1 x2 x3 x4 x5 x6 : Option Value} : Wp S N d MX9_exchanges 50 [x0, x1, x2, x3, x4, x5, x6] [.int v0, .ref v1, .int v2, .ref v3] I J P Q ↔ (S v1 = 10 ∧ vp_in v0 (N v1)) ∧ Wp S N d MX9_exchanges 51 [x0, x1, x2, x3, x4, x5, x6] [.int (I v1 v0.toNatClampNeg), .int v2, .ref v3] I J P Q := wp_ald rfl rfl dX9_exchanges_50
theorem e_X9_exchanges_51 {v0 : Int32} {v1 : Int32} {v2 : Nat} {x0 x1 x2 x3 x4 x5 x6 : Option Value} : Wp S N d MX9_exchanges 51 [x0, x1, x2, x3, x4, x5, x6] [.int v0, .int v1, .ref v2] I J P Q ↔ (S v2 = 10 ∧ vp_in v1 (N v2)) ∧ Wp S N d MX9_exchanges 52 [x0, x1, x2, x3, x4, x5, x6] [] (u2 I v2 v1.toNatClampNeg v0) J P Q := wp_ast rfl rfl dX9_exchanges_51
theorem e_X9_exchanges_52 {w : Nat} {x1 x2 x3 x4 x5 x6 : Option Value} : Wp S N d MX9_exchanges 52 [some (.ref w), x1, x2, x3, x4, x5, x6] [] I J P Q ↔ Wp S N d MX9_exchanges 53 [some (.ref w), x1, x2, x3, x4, x5, x6] [.ref w] I J P Q := wp_lod (len := 1) rfl rfl rfl rfl dX9_exchanges_52
theorem e_X9_exchanges_53 {v0 : Nat} {x0 x1 x2 x3 x4 x5 x6 : Option Value} : Wp S N d MX9_exchanges 53 [x0, x1, x2, x3, x4, x5, x6] [.ref v0] I J P Q ↔ S v0 = 9 ∧ Wp S N d MX9_exchanges 56 [x0, x1, x2, x3, x4, x5, x6] [va_rf (P v0 0)] I J P Q := wp_getf rfl rfl rfl rfl dX9_exchanges_53
theorem e_X9_exchanges_56 {v0 : Nat} {x0 x1 x2 x3 x4 x5 x6 : Option Value} : Wp S N d MX9_exchanges 56 [x0, x1, x2, x3, x4, x5, x6] [.ref v0] I J P Q ↔ Wp S N d MX9_exchanges 58 [x0, x1, x2, x3, x4, x5, x6] [.int 28, .ref v0] I J P Q := wp_bipush (by decide) dX9_exchanges_56
theorem e_X9_exchanges_58 {v0 : Int32} {v1 : Nat} {x0 x1 x2 x3 x4 x5 x6 : Option Value} : Wp S N d MX9_exchanges 58 [x0, x1, x2, x3, x4, x5, x6] [.int v0, .ref v1] I J P Q ↔ Wp S N d MX9_exchanges 60 [x0, x1, x2, x3, x4, x5, x6] [.int 6, .int v0, .ref v1] I J P Q := wp_bipush (by decide) dX9_exchanges_58
theorem e_X9_exchanges_60 {v0 : Int32} {v1 : Int32} {v2 : Nat} {w : Int32} {x0 x1 x3 x4 x5 x6 : Option Value} : Wp S N d MX9_exchanges 60 [x0, x1, some (.int w), x3, x4, x5, x6] [.int v0, .int v1, .ref v2] I J P Q ↔ Wp S N d MX9_exchanges 61 [x0, x1, some (.int w), x3, x4, x5, x6] [.int w, .int v0, .int v1, .ref v2] I J P Q := wp_lod (len := 1) rfl rfl rfl rfl dX9_exchanges_60
theorem e_X9_exchanges_61 {v0 : Int32} {v1 : Int32} {v2 : Int32} {v3 : Nat} {x0 x1 x2 x3 x4 x5 x6 : Option Value} : Wp S N d MX9_exchanges 61 [x0, x1, x2, x3, x4, x5, x6] [.int v0, .int v1, .int v2, .ref v3] I J P Q ↔ Wp S N d MX9_exchanges 62 [x0, x1, x2, x3, x4, x5, x6] [.int (v1 * v0), .int v2, .ref v3] I J P Q := wp_alu (len := 1) rfl rfl rfl dX9_exchanges_61
theorem e_X9_exchanges_62 {v0 : Int32} {v1 : Int32} {v2 : Nat} {x0 x1 x2 x3 x4 x5 x6 : Option Value} : Wp S N d MX9_exchanges 62 [x0, x1, x2, x3, x4, x5, x6] [.int v0, .int v1, .ref v2] I J P Q ↔ Wp S N d MX9_exchanges 63 [x0, x1, x2, x3, x4, x5, x6] [.int (v1 + v0), .ref v2] I J P Q := wp_alu (len := 1) rfl rfl rfl dX9_exchanges_62
theorem e_X9_exchanges_63 {v0 : Int32} {v1 : Nat} {w : Int32} {x0 x1 x2 x4 x5 x6 : Option Value} : Wp S N d MX9_exchanges 63 [x0, x1, x2, some (.int w), x4, x5, x6] [.int v0, .ref v1] I J P Q ↔ Wp S N d MX9_exchanges 64 [x0, x1, x2, some (.int w), x4, x5, x6] [.int w, .int v0, .ref v1] I J P Q := wp_lod (len := 1) rfl rfl rfl rfl dX9_exchanges_63
theorem e_X9_exchanges_64 {v0 : Int32} {v1 : Int32} {v2 : Nat} {x0 x1 x2 x3 x4 x5 x6 : Option Value} : Wp S N d MX9_exchanges 64 [x0, x1, x2, x3, x4, x5, x6] [.int v0, .int v1, .ref v2] I J P Q ↔ Wp S N d MX9_exchanges 65 [x0, x1, x2, x3, x4, x5, x6] [.int (v1 + v0), .ref v2] I J P Q := wp_alu (len := 1) rfl rfl rfl dX9_exchanges_64
theorem e_X9_exchanges_65 {v0 : Int32} {v1 : Nat} {w : Int32} {x0 x1 x2 x3 x5 x6 : Option Value} : Wp S N d MX9_exchanges 65 [x0, x1, x2, x3, some (.int w), x5, x6] [.int v0, .ref v1] I J P Q ↔ Wp S N d MX9_exchanges 67 [x0, x1, x2, x3, some (.int w), x5, x6] [.int w, .int v0, .ref v1] I J P Q := wp_lod (len := 2) rfl rfl rfl rfl dX9_exchanges_65
theorem e_X9_exchanges_67 {v0 : Int32} {v1 : Int32} {v2 : Nat} {x0 x1 x2 x3 x4 x5 x6 : Option Value} : Wp S N d MX9_exchanges 67 [x0, x1, x2, x3, x4, x5, x6] [.int v0, .int v1, .ref v2] I J P Q ↔ (S v2 = 10 ∧ vp_in v1 (N v2)) ∧ Wp S N d MX9_exchanges 68 [x0, x1, x2, x3, x4, x5, x6] [] (u2 I v2 v1.toNatClampNeg v0) J P Q := wp_ast rfl rfl dX9_exchanges_67
theorem e_X9_exchanges_68 {w : Nat} {x1 x2 x3 x4 x5 x6 : Option Value} : Wp S N d MX9_exchanges 68 [some (.ref w), x1, x2, x3, x4, x5, x6] [] I J P Q ↔ Wp S N d MX9_exchanges 69 [some (.ref w), x1, x2, x3, x4, x5, x6] [.ref w] I J P Q := wp_lod (len := 1) rfl rfl rfl rfl dX9_exchanges_68
theorem e_X9_exchanges_69 {v0 : Nat} {x0 x1 x2 x3 x4 x5 x6 : Option Value} : Wp S N d MX9_exchanges 69 [x0, x1, x2, x3, x4, x5, x6] [.ref v0] I J P Q ↔ S v0 = 9 ∧ Wp S N d MX9_exchanges 72 [x0, x1, x2, x3, x4, x5, x6] [va_rf (P v0 1)] I J P Q := wp_getf rfl rfl rfl rfl dX9_exchanges_69
theorem e_X9_exchanges_72 {v0 : Nat} {x0 x1 x2 x3 x4 x5 x6 : Option Value} : Wp S N d MX9_exchanges 72 [x0, x1, x2, x3, x4, x5, x6] [.ref v0] I J P Q ↔ Wp S N d MX9_exchanges 74 [x0, x1, x2, x3, x4, x5, x6] [.int 6, .ref v0] I J P Q := wp_bipush (by decide) dX9_exchanges_72
theorem e_X9_exchanges_74 {v0 : Int32} {v1 : Nat} {w : Int32} {x0 x1 x2 x4 x5 x6 : Option Value} : Wp S N d MX9_exchanges 74 [x0, x1, x2, some (.int w), x4, x5, x6] [.int v0, .ref v1] I J P Q ↔ Wp S N d MX9_exchanges 75 [x0, x1, x2, some (.int w), x4, x5, x6] [.int w, .int v0, .ref v1] I J P Q := wp_lod (len := 1) rfl rfl rfl rfl dX9_exchanges_74
theorem e_X9_exchanges_75 {v0 : Int32} {v1 : Int32} {v2 : Nat} {x0 x1 x2 x3 x4 x5 x6 : Option Value} : Wp S N d MX9_exchanges 75 [x0, x1, x2, x3, x4, x5, x6] [.int v0, .int v1, .ref v2] I J P Q ↔ Wp S N d MX9_exchanges 76 [x0, x1, x2, x3, x4, x5, x6] [.int (v1 * v0), .ref v2] I J P Q := wp_alu (len := 1) rfl rfl rfl dX9_exchanges_75
theorem e_X9_exchanges_76 {v0 : Int32} {v1 : Nat} {w : Int32} {x0 x2 x3 x4 x5 x6 : Option Value} : Wp S N d MX9_exchanges 76 [x0, some (.int w), x2, x3, x4, x5, x6] [.int v0, .ref v1] I J P Q ↔ Wp S N d MX9_exchanges 77 [x0, some (.int w), x2, x3, x4, x5, x6] [.int w, .int v0, .ref v1] I J P Q := wp_lod (len := 1) rfl rfl rfl rfl dX9_exchanges_76
theorem e_X9_exchanges_77 {v0 : Int32} {v1 : Int32} {v2 : Nat} {x0 x1 x2 x3 x4 x5 x6 : Option Value} : Wp S N d MX9_exchanges 77 [x0, x1, x2, x3, x4, x5, x6] [.int v0, .int v1, .ref v2] I J P Q ↔ Wp S N d MX9_exchanges 78 [x0, x1, x2, x3, x4, x5, x6] [.int (v1 + v0), .ref v2] I J P Q := wp_alu (len := 1) rfl rfl rfl dX9_exchanges_77
theorem e_X9_exchanges_78 {v0 : Int32} {v1 : Nat} {x0 x1 x2 x3 x4 x5 x6 : Option Value} : Wp S N d MX9_exchanges 78 [x0, x1, x2, x3, x4, x5, x6] [.int v0, .ref v1] I J P Q ↔ (S v1 = 11 ∧ vp_in v0 (N v1)) ∧ Wp S N d MX9_exchanges 79 [x0, x1, x2, x3, x4, x5, x6] [.long (J v1 v0.toNatClampNeg)] I J P Q := wp_ald rfl rfl dX9_exchanges_78
theorem e_X9_exchanges_79 {v0 : Int64} {x0 x1 x2 x3 x4 x5 x6 : Option Value} : Wp S N d MX9_exchanges 79 [x0, x1, x2, x3, x4, x5, x6] [.long v0] I J P Q ↔ Wp S N d MX9_exchanges 81 [x0, x1, x2, x3, kl x4, some (.long v0), none] [] I J P Q := wp_sto (len := 2) rfl rfl rfl rfl (Nat.le_of_ble_eq_true rfl) rfl dX9_exchanges_79
theorem e_X9_exchanges_81 {w : Nat} {x1 x2 x3 x4 x5 x6 : Option Value} : Wp S N d MX9_exchanges 81 [some (.ref w), x1, x2, x3, x4, x5, x6] [] I J P Q ↔ Wp S N d MX9_exchanges 82 [some (.ref w), x1, x2, x3, x4, x5, x6] [.ref w] I J P Q := wp_lod (len := 1) rfl rfl rfl rfl dX9_exchanges_81
theorem e_X9_exchanges_82 {v0 : Nat} {x0 x1 x2 x3 x4 x5 x6 : Option Value} : Wp S N d MX9_exchanges 82 [x0, x1, x2, x3, x4, x5, x6] [.ref v0] I J P Q ↔ S v0 = 9 ∧ Wp S N d MX9_exchanges 85 [x0, x1, x2, x3, x4, x5, x6] [va_rf (P v0 1)] I J P Q := wp_getf rfl rfl rfl rfl dX9_exchanges_82
theorem e_X9_exchanges_85 {v0 : Nat} {x0 x1 x2 x3 x4 x5 x6 : Option Value} : Wp S N d MX9_exchanges 85 [x0, x1, x2, x3, x4, x5, x6] [.ref v0] I J P Q ↔ Wp S N d MX9_exchanges 87 [x0, x1, x2, x3, x4, x5, x6] [.int 6, .ref v0] I J P Q := wp_bipush (by decide) dX9_exchanges_85
theorem e_X9_exchanges_87 {v0 : Int32} {v1 : Nat} {w : Int32} {x0 x1 x2 x4 x5 x6 : Option Value} : Wp S N d MX9_exchanges 87 [x0, x1, x2, some (.int w), x4, x5, x6] [.int v0, .ref v1] I J P Q ↔ Wp S N d MX9_exchanges 88 [x0, x1, x2, some (.int w), x4, x5, x6] [.int w, .int v0, .ref v1] I J P Q := wp_lod (len := 1) rfl rfl rfl rfl dX9_exchanges_87
theorem e_X9_exchanges_88 {v0 : Int32} {v1 : Int32} {v2 : Nat} {x0 x1 x2 x3 x4 x5 x6 : Option Value} : Wp S N d MX9_exchanges 88 [x0, x1, x2, x3, x4, x5, x6] [.int v0, .int v1, .ref v2] I J P Q ↔ Wp S N d MX9_exchanges 89 [x0, x1, x2, x3, x4, x5, x6] [.int (v1 * v0), .ref v2] I J P Q := wp_alu (len := 1) rfl rfl rfl dX9_exchanges_88
theorem e_X9_exchanges_89 {v0 : Int32} {v1 : Nat} {w : Int32} {x0 x2 x3 x4 x5 x6 : Option Value} : Wp S N d MX9_exchanges 89 [x0, some (.int w), x2, x3, x4, x5, x6] [.int v0, .ref v1] I J P Q ↔ Wp S N d MX9_exchanges 90 [x0, some (.int w), x2, x3, x4, x5, x6] [.int w, .int v0, .ref v1] I J P Q := wp_lod (len := 1) rfl rfl rfl rfl dX9_exchanges_89
theorem e_X9_exchanges_90 {v0 : Int32} {v1 : Int32} {v2 : Nat} {x0 x1 x2 x3 x4 x5 x6 : Option Value} : Wp S N d MX9_exchanges 90 [x0, x1, x2, x3, x4, x5, x6] [.int v0, .int v1, .ref v2] I J P Q ↔ Wp S N d MX9_exchanges 91 [x0, x1, x2, x3, x4, x5, x6] [.int (v1 + v0), .ref v2] I J P Q := wp_alu (len := 1) rfl rfl rfl dX9_exchanges_90
theorem e_X9_exchanges_91 {v0 : Int32} {v1 : Nat} {w : Nat} {x1 x2 x3 x4 x5 x6 : Option Value} : Wp S N d MX9_exchanges 91 [some (.ref w), x1, x2, x3, x4, x5, x6] [.int v0, .ref v1] I J P Q ↔ Wp S N d MX9_exchanges 92 [some (.ref w), x1, x2, x3, x4, x5, x6] [.ref w, .int v0, .ref v1] I J P Q := wp_lod (len := 1) rfl rfl rfl rfl dX9_exchanges_91
theorem e_X9_exchanges_92 {v0 : Nat} {v1 : Int32} {v2 : Nat} {x0 x1 x2 x3 x4 x5 x6 : Option Value} : Wp S N d MX9_exchanges 92 [x0, x1, x2, x3, x4, x5, x6] [.ref v0, .int v1, .ref v2] I J P Q ↔ S v0 = 9 ∧ Wp S N d MX9_exchanges 95 [x0, x1, x2, x3, x4, x5, x6] [va_rf (P v0 1), .int v1, .ref v2] I J P Q := wp_getf rfl rfl rfl rfl dX9_exchanges_92
theorem e_X9_exchanges_95 {v0 : Nat} {v1 : Int32} {v2 : Nat} {x0 x1 x2 x3 x4 x5 x6 : Option Value} : Wp S N d MX9_exchanges 95 [x0, x1, x2, x3, x4, x5, x6] [.ref v0, .int v1, .ref v2] I J P Q ↔ Wp S N d MX9_exchanges 97 [x0, x1, x2, x3, x4, x5, x6] [.int 6, .ref v0, .int v1, .ref v2] I J P Q := wp_bipush (by decide) dX9_exchanges_95
theorem e_X9_exchanges_97 {v0 : Int32} {v1 : Nat} {v2 : Int32} {v3 : Nat} {w : Int32} {x0 x1 x2 x4 x5 x6 : Option Value} : Wp S N d MX9_exchanges 97 [x0, x1, x2, some (.int w), x4, x5, x6] [.int v0, .ref v1, .int v2, .ref v3] I J P Q ↔ Wp S N d MX9_exchanges 98 [x0, x1, x2, some (.int w), x4, x5, x6] [.int w, .int v0, .ref v1, .int v2, .ref v3] I J P Q := wp_lod (len := 1) rfl rfl rfl rfl dX9_exchanges_97
theorem e_X9_exchanges_98 {v0 : Int32} {v1 : Int32} {v2 : Nat} {v3 : Int32} {v4 : Nat} {x0 x1 x2 x3 x4 x5 x6 : Option Value} : Wp S N d MX9_exchanges 98 [x0, x1, x2, x3, x4, x5, x6] [.int v0, .int v1, .ref v2, .int v3, .ref v4] I J P Q ↔ Wp S N d MX9_exchanges 99 [x0, x1, x2, x3, x4, x5, x6] [.int (v1 * v0), .ref v2, .int v3, .ref v4] I J P Q := wp_alu (len := 1) rfl rfl rfl dX9_exchanges_98
theorem e_X9_exchanges_99 {v0 : Int32} {v1 : Nat} {v2 : Int32} {v3 : Nat} {w : Int32} {x0 x1 x3 x4 x5 x6 : Option Value} : Wp S N d MX9_exchanges 99 [x0, x1, some (.int w), x3, x4, x5, x6] [.int v0, .ref v1, .int v2, .ref v3] I J P Q ↔ Wp S N d MX9_exchanges 100 [x0, x1, some (.int w), x3, x4, x5, x6] [.int w, .int v0, .ref v1, .int v2, .ref v3] I J P Q := wp_lod (len := 1) rfl rfl rfl rfl dX9_exchanges_99
theorem e_X9_exchanges_100 {v0 : Int32} {v1 : Int32} {v2 : Nat} {v3 : Int32} {v4 : Nat} {x0 x1 x2 x3 x4 x5 x6 : Option Value} : Wp S N d MX9_exchanges 100 [x0, x1, x2, x3, x4, x5, x6] [.int v0, .int v1, .ref v2, .int v3, .ref v4] I J P Q ↔ Wp S N d MX9_exchanges 101 [x0, x1, x2, x3, x4, x5, x6] [.int (v1 + v0), .ref v2, .int v3, .ref v4] I J P Q := wp_alu (len := 1) rfl rfl rfl dX9_exchanges_100
theorem e_X9_exchanges_101 {v0 : Int32} {v1 : Nat} {v2 : Int32} {v3 : Nat} {x0 x1 x2 x3 x4 x5 x6 : Option Value} : Wp S N d MX9_exchanges 101 [x0, x1, x2, x3, x4, x5, x6] [.int v0, .ref v1, .int v2, .ref v3] I J P Q ↔ (S v1 = 11 ∧ vp_in v0 (N v1)) ∧ Wp S N d MX9_exchanges 102 [x0, x1, x2, x3, x4, x5, x6] [.long (J v1 v0.toNatClampNeg), .int v2, .ref v3] I J P Q := wp_ald rfl rfl dX9_exchanges_101
theorem e_X9_exchanges_102 {v0 : Int64} {v1 : Int32} {v2 : Nat} {x0 x1 x2 x3 x4 x5 x6 : Option Value} : Wp S N d MX9_exchanges 102 [x0, x1, x2, x3, x4, x5, x6] [.long v0, .int v1, .ref v2] I J P Q ↔ (S v2 = 11 ∧ vp_in v1 (N v2)) ∧ Wp S N d MX9_exchanges 103 [x0, x1, x2, x3, x4, x5, x6] [] I (u2 J v2 v1.toNatClampNeg v0) P Q := wp_ast rfl rfl dX9_exchanges_102
theorem e_X9_exchanges_103 {w : Nat} {x1 x2 x3 x4 x5 x6 : Option Value} : Wp S N d MX9_exchanges 103 [some (.ref w), x1, x2, x3, x4, x5, x6] [] I J P Q ↔ Wp S N d MX9_exchanges 104 [some (.ref w), x1, x2, x3, x4, x5, x6] [.ref w] I J P Q := wp_lod (len := 1) rfl rfl rfl rfl dX9_exchanges_103
theorem e_X9_exchanges_104 {v0 : Nat} {x0 x1 x2 x3 x4 x5 x6 : Option Value} : Wp S N d MX9_exchanges 104 [x0, x1, x2, x3, x4, x5, x6] [.ref v0] I J P Q ↔ S v0 = 9 ∧ Wp S N d MX9_exchanges 107 [x0, x1, x2, x3, x4, x5, x6] [va_rf (P v0 1)] I J P Q := wp_getf rfl rfl rfl rfl dX9_exchanges_104
theorem e_X9_exchanges_107 {v0 : Nat} {x0 x1 x2 x3 x4 x5 x6 : Option Value} : Wp S N d MX9_exchanges 107 [x0, x1, x2, x3, x4, x5, x6] [.ref v0] I J P Q ↔ Wp S N d MX9_exchanges 109 [x0, x1, x2, x3, x4, x5, x6] [.int 6, .ref v0] I J P Q := wp_bipush (by decide) dX9_exchanges_107
theorem e_X9_exchanges_109 {v0 : Int32} {v1 : Nat} {w : Int32} {x0 x1 x2 x4 x5 x6 : Option Value} : Wp S N d MX9_exchanges 109 [x0, x1, x2, some (.int w), x4, x5, x6] [.int v0, .ref v1] I J P Q ↔ Wp S N d MX9_exchanges 110 [x0, x1, x2, some (.int w), x4, x5, x6] [.int w, .int v0, .ref v1] I J P Q := wp_lod (len := 1) rfl rfl rfl rfl dX9_exchanges_109
theorem e_X9_exchanges_110 {v0 : Int32} {v1 : Int32} {v2 : Nat} {x0 x1 x2 x3 x4 x5 x6 : Option Value} : Wp S N d MX9_exchanges 110 [x0, x1, x2, x3, x4, x5, x6] [.int v0, .int v1, .ref v2] I J P Q ↔ Wp S N d MX9_exchanges 111 [x0, x1, x2, x3, x4, x5, x6] [.int (v1 * v0), .ref v2] I J P Q := wp_alu (len := 1) rfl rfl rfl dX9_exchanges_110
theorem e_X9_exchanges_111 {v0 : Int32} {v1 : Nat} {w : Int32} {x0 x1 x3 x4 x5 x6 : Option Value} : Wp S N d MX9_exchanges 111 [x0, x1, some (.int w), x3, x4, x5, x6] [.int v0, .ref v1] I J P Q ↔ Wp S N d MX9_exchanges 112 [x0, x1, some (.int w), x3, x4, x5, x6] [.int w, .int v0, .ref v1] I J P Q := wp_lod (len := 1) rfl rfl rfl rfl dX9_exchanges_111
theorem e_X9_exchanges_112 {v0 : Int32} {v1 : Int32} {v2 : Nat} {x0 x1 x2 x3 x4 x5 x6 : Option Value} : Wp S N d MX9_exchanges 112 [x0, x1, x2, x3, x4, x5, x6] [.int v0, .int v1, .ref v2] I J P Q ↔ Wp S N d MX9_exchanges 113 [x0, x1, x2, x3, x4, x5, x6] [.int (v1 + v0), .ref v2] I J P Q := wp_alu (len := 1) rfl rfl rfl dX9_exchanges_112
theorem e_X9_exchanges_113 {v0 : Int32} {v1 : Nat} {w : Int64} {x0 x1 x2 x3 x4 x6 : Option Value} : Wp S N d MX9_exchanges 113 [x0, x1, x2, x3, x4, some (.long w), x6] [.int v0, .ref v1] I J P Q ↔ Wp S N d MX9_exchanges 115 [x0, x1, x2, x3, x4, some (.long w), x6] [.long w, .int v0, .ref v1] I J P Q := wp_lod (len := 2) rfl rfl rfl rfl dX9_exchanges_113
theorem e_X9_exchanges_115 {v0 : Int64} {v1 : Int32} {v2 : Nat} {x0 x1 x2 x3 x4 x5 x6 : Option Value} : Wp S N d MX9_exchanges 115 [x0, x1, x2, x3, x4, x5, x6] [.long v0, .int v1, .ref v2] I J P Q ↔ (S v2 = 11 ∧ vp_in v1 (N v2)) ∧ Wp S N d MX9_exchanges 116 [x0, x1, x2, x3, x4, x5, x6] [] I (u2 J v2 v1.toNatClampNeg v0) P Q := wp_ast rfl rfl dX9_exchanges_115
theorem e_X9_exchanges_116 {w : Int32} {x0 x1 x2 x4 x5 x6 : Option Value} : Wp S N d MX9_exchanges 116 [x0, x1, x2, some (.int w), x4, x5, x6] [] I J P Q ↔ Wp S N d MX9_exchanges 119 [x0, x1, kl x2, some (.int (w + 1)), x4, x5, x6] [] I J P Q := wp_inc rfl rfl dX9_exchanges_116
theorem e_X9_exchanges_119  {x0 x1 x2 x3 x4 x5 x6 : Option Value} : Wp S N d MX9_exchanges 119 [x0, x1, x2, x3, x4, x5, x6] [] I J P Q ↔ Wp S N d MX9_exchanges 2 [x0, x1, x2, x3, x4, x5, x6] [] I J P Q := wp_go (len := 3) rfl (fun _ _ => rfl) rfl (by decide) dX9_exchanges_119
theorem e_X9_exchanges_122  {x0 x1 x2 x3 x4 x5 x6 : Option Value} : Wp S N d MX9_exchanges 122 [x0, x1, x2, x3, x4, x5, x6] [] I J P Q ↔ Q none I J P := wp_vret rfl dX9_exchanges_122
theorem dX9_moves_0 : decode cX9_moves 0 = .ok (.iload_n 1, 1) := by decide +kernel
theorem dX9_moves_1 : decode cX9_moves 1 = .ok (.istore_n 3, 1) := by decide +kernel
theorem dX9_moves_2 : decode cX9_moves 2 = .ok (.iload_n 3, 1) := by decide +kernel
theorem dX9_moves_3 : decode cX9_moves 3 = .ok (.iload_n 2, 1) := by decide +kernel
theorem dX9_moves_4 : decode cX9_moves 4 = .ok (.if_icmp .ge 17, 3) := by decide +kernel
theorem dX9_moves_7 : decode cX9_moves 7 = .ok (.aload_n 0, 1) := by decide +kernel
theorem dX9_moves_8 : decode cX9_moves 8 = .ok (.iload_n 3, 1) := by decide +kernel
theorem dX9_moves_9 : decode cX9_moves 9 = .ok (.iload_n 3, 1) := by decide +kernel
theorem dX9_moves_10 : decode cX9_moves 10 = .ok (.iconst 1, 1) := by decide +kernel
theorem dX9_moves_11 : decode cX9_moves 11 = .ok (.iadd, 1) := by decide +kernel
theorem dX9_moves_12 : decode cX9_moves 12 = .ok (.invokevirtual 133, 3) := by decide +kernel
theorem dX9_moves_15 : decode cX9_moves 15 = .ok (.iinc 3 1, 3) := by decide +kernel
theorem dX9_moves_18 : decode cX9_moves 18 = .ok (.goto (-16), 3) := by decide +kernel
theorem dX9_moves_21 : decode cX9_moves 21 = .ok (.iload_n 1, 1) := by decide +kernel
theorem dX9_moves_22 : decode cX9_moves 22 = .ok (.istore_n 3, 1) := by decide +kernel
theorem dX9_moves_23 : decode cX9_moves 23 = .ok (.iload_n 3, 1) := by decide +kernel
theorem dX9_moves_24 : decode cX9_moves 24 = .ok (.iload_n 2, 1) := by decide +kernel
theorem dX9_moves_25 : decode cX9_moves 25 = .ok (.if_icmp .le 17, 3) := by decide +kernel
theorem dX9_moves_28 : decode cX9_moves 28 = .ok (.aload_n 0, 1) := by decide +kernel
theorem dX9_moves_29 : decode cX9_moves 29 = .ok (.iload_n 3, 1) := by decide +kernel
theorem dX9_moves_30 : decode cX9_moves 30 = .ok (.iload_n 3, 1) := by decide +kernel
theorem dX9_moves_31 : decode cX9_moves 31 = .ok (.iconst 1, 1) := by decide +kernel
theorem dX9_moves_32 : decode cX9_moves 32 = .ok (.isub, 1) := by decide +kernel
theorem dX9_moves_33 : decode cX9_moves 33 = .ok (.invokevirtual 133, 3) := by decide +kernel
theorem dX9_moves_36 : decode cX9_moves 36 = .ok (.iinc 3 (-1), 3) := by decide +kernel
theorem dX9_moves_39 : decode cX9_moves 39 = .ok (.goto (-16), 3) := by decide +kernel
theorem dX9_moves_42 : decode cX9_moves 42 = .ok (.return_, 1) := by decide +kernel
theorem c_X9_moves {a0 : Nat} {a1 : Int32} {a2 : Int32} : CWp S N d MX9_moves [.ref a0, .int a1, .int a2] I J P Q ↔ Wp S N d MX9_moves 0 [some (.ref a0), some (.int a1), some (.int a2), none] [] I J P Q := by
  rw [cwp_iff]
  exact ⟨fun h => h.2, fun h => ⟨Nat.le_of_ble_eq_true rfl, h⟩⟩
theorem e_X9_moves_0 {w : Int32} {x0 x2 x3 : Option Value} : Wp S N d MX9_moves 0 [x0, some (.int w), x2, x3] [] I J P Q ↔ Wp S N d MX9_moves 1 [x0, some (.int w), x2, x3] [.int w] I J P Q := wp_lod (len := 1) rfl rfl rfl rfl dX9_moves_0
theorem e_X9_moves_1 {v0 : Int32} {x0 x1 x2 x3 : Option Value} : Wp S N d MX9_moves 1 [x0, x1, x2, x3] [.int v0] I J P Q ↔ Wp S N d MX9_moves 2 [x0, x1, kl x2, some (.int v0)] [] I J P Q := wp_sto (len := 1) rfl rfl rfl rfl (Nat.le_of_ble_eq_true rfl) rfl dX9_moves_1
theorem e_X9_moves_2 {w : Int32} {x0 x1 x2 : Option Value} : Wp S N d MX9_moves 2 [x0, x1, x2, some (.int w)] [] I J P Q ↔ Wp S N d MX9_moves 3 [x0, x1, x2, some (.int w)] [.int w] I J P Q := wp_lod (len := 1) rfl rfl rfl rfl dX9_moves_2
theorem e_X9_moves_3 {v0 : Int32} {w : Int32} {x0 x1 x3 : Option Value} : Wp S N d MX9_moves 3 [x0, x1, some (.int w), x3] [.int v0] I J P Q ↔ Wp S N d MX9_moves 4 [x0, x1, some (.int w), x3] [.int w, .int v0] I J P Q := wp_lod (len := 1) rfl rfl rfl rfl dX9_moves_3
theorem e_X9_moves_4 {v0 : Int32} {v1 : Int32} {x0 x1 x2 x3 : Option Value} : Wp S N d MX9_moves 4 [x0, x1, x2, x3] [.int v0, .int v1] I J P Q ↔ (v0 ≤ v1 → Wp S N d MX9_moves 21 [x0, x1, x2, x3] [] I J P Q) ∧ (¬ v0 ≤ v1 → Wp S N d MX9_moves 7 [x0, x1, x2, x3] [] I J P Q) := wp_br rfl rfl (by decide) dX9_moves_4
theorem e_X9_moves_7 {w : Nat} {x1 x2 x3 : Option Value} : Wp S N d MX9_moves 7 [some (.ref w), x1, x2, x3] [] I J P Q ↔ Wp S N d MX9_moves 8 [some (.ref w), x1, x2, x3] [.ref w] I J P Q := wp_lod (len := 1) rfl rfl rfl rfl dX9_moves_7
theorem e_X9_moves_8 {v0 : Nat} {w : Int32} {x0 x1 x2 : Option Value} : Wp S N d MX9_moves 8 [x0, x1, x2, some (.int w)] [.ref v0] I J P Q ↔ Wp S N d MX9_moves 9 [x0, x1, x2, some (.int w)] [.int w, .ref v0] I J P Q := wp_lod (len := 1) rfl rfl rfl rfl dX9_moves_8
theorem e_X9_moves_9 {v0 : Int32} {v1 : Nat} {w : Int32} {x0 x1 x2 : Option Value} : Wp S N d MX9_moves 9 [x0, x1, x2, some (.int w)] [.int v0, .ref v1] I J P Q ↔ Wp S N d MX9_moves 10 [x0, x1, x2, some (.int w)] [.int w, .int v0, .ref v1] I J P Q := wp_lod (len := 1) rfl rfl rfl rfl dX9_moves_9
theorem e_X9_moves_10 {v0 : Int32} {v1 : Int32} {v2 : Nat} {x0 x1 x2 x3 : Option Value} : Wp S N d MX9_moves 10 [x0, x1, x2, x3] [.int v0, .int v1, .ref v2] I J P Q ↔ Wp S N d MX9_moves 11 [x0, x1, x2, x3] [.int 1, .int v0, .int v1, .ref v2] I J P Q := wp_iconst (by decide) dX9_moves_10
theorem e_X9_moves_11 {v0 : Int32} {v1 : Int32} {v2 : Int32} {v3 : Nat} {x0 x1 x2 x3 : Option Value} : Wp S N d MX9_moves 11 [x0, x1, x2, x3] [.int v0, .int v1, .int v2, .ref v3] I J P Q ↔ Wp S N d MX9_moves 12 [x0, x1, x2, x3] [.int (v1 + v0), .int v2, .ref v3] I J P Q := wp_alu (len := 1) rfl rfl rfl dX9_moves_11
theorem e_X9_moves_12 {v0 : Int32} {v1 : Int32} {v2 : Nat} {x0 x1 x2 x3 : Option Value} : Wp S N (d + 1) MX9_moves 12 [x0, x1, x2, x3] [.int v0, .int v1, .ref v2] I J P Q ↔ S v2 = 9 ∧ CWp S N d MX9_exchanges [.ref v2, .int v1, .int v0] I J P (fun r I1 J1 P1 => Wp S N (d + 1) MX9_moves 15 [x0, x1, x2, x3] (r.toList ++ []) I1 J1 P1 Q) := wp_callV (M' := MX9_exchanges) (As := [.int v1, .int v0]) rfl rfl rfl rfl (by decide) (Nat.le_of_ble_eq_true rfl) dX9_moves_12
theorem e_X9_moves_15 {w : Int32} {x0 x1 x2 : Option Value} : Wp S N d MX9_moves 15 [x0, x1, x2, some (.int w)] [] I J P Q ↔ Wp S N d MX9_moves 18 [x0, x1, kl x2, some (.int (w + 1))] [] I J P Q := wp_inc rfl rfl dX9_moves_15
theorem e_X9_moves_18  {x0 x1 x2 x3 : Option Value} : Wp S N d MX9_moves 18 [x0, x1, x2, x3] [] I J P Q ↔ Wp S N d MX9_moves 2 [x0, x1, x2, x3] [] I J P Q := wp_go (len := 3) rfl (fun _ _ => rfl) rfl (by decide) dX9_moves_18
theorem e_X9_moves_21 {w : Int32} {x0 x2 x3 : Option Value} : Wp S N d MX9_moves 21 [x0, some (.int w), x2, x3] [] I J P Q ↔ Wp S N d MX9_moves 22 [x0, some (.int w), x2, x3] [.int w] I J P Q := wp_lod (len := 1) rfl rfl rfl rfl dX9_moves_21
theorem e_X9_moves_22 {v0 : Int32} {x0 x1 x2 x3 : Option Value} : Wp S N d MX9_moves 22 [x0, x1, x2, x3] [.int v0] I J P Q ↔ Wp S N d MX9_moves 23 [x0, x1, kl x2, some (.int v0)] [] I J P Q := wp_sto (len := 1) rfl rfl rfl rfl (Nat.le_of_ble_eq_true rfl) rfl dX9_moves_22
theorem e_X9_moves_23 {w : Int32} {x0 x1 x2 : Option Value} : Wp S N d MX9_moves 23 [x0, x1, x2, some (.int w)] [] I J P Q ↔ Wp S N d MX9_moves 24 [x0, x1, x2, some (.int w)] [.int w] I J P Q := wp_lod (len := 1) rfl rfl rfl rfl dX9_moves_23
theorem e_X9_moves_24 {v0 : Int32} {w : Int32} {x0 x1 x3 : Option Value} : Wp S N d MX9_moves 24 [x0, x1, some (.int w), x3] [.int v0] I J P Q ↔ Wp S N d MX9_moves 25 [x0, x1, some (.int w), x3] [.int w, .int v0] I J P Q := wp_lod (len := 1) rfl rfl rfl rfl dX9_moves_24
theorem e_X9_moves_25 {v0 : Int32} {v1 : Int32} {x0 x1 x2 x3 : Option Value} : Wp S N d MX9_moves 25 [x0, x1, x2, x3] [.int v0, .int v1] I J P Q ↔ (v1 ≤ v0 → Wp S N d MX9_moves 42 [x0, x1, x2, x3] [] I J P Q) ∧ (¬ v1 ≤ v0 → Wp S N d MX9_moves 28 [x0, x1, x2, x3] [] I J P Q) := wp_br rfl rfl (by decide) dX9_moves_25
theorem e_X9_moves_28 {w : Nat} {x1 x2 x3 : Option Value} : Wp S N d MX9_moves 28 [some (.ref w), x1, x2, x3] [] I J P Q ↔ Wp S N d MX9_moves 29 [some (.ref w), x1, x2, x3] [.ref w] I J P Q := wp_lod (len := 1) rfl rfl rfl rfl dX9_moves_28
theorem e_X9_moves_29 {v0 : Nat} {w : Int32} {x0 x1 x2 : Option Value} : Wp S N d MX9_moves 29 [x0, x1, x2, some (.int w)] [.ref v0] I J P Q ↔ Wp S N d MX9_moves 30 [x0, x1, x2, some (.int w)] [.int w, .ref v0] I J P Q := wp_lod (len := 1) rfl rfl rfl rfl dX9_moves_29
theorem e_X9_moves_30 {v0 : Int32} {v1 : Nat} {w : Int32} {x0 x1 x2 : Option Value} : Wp S N d MX9_moves 30 [x0, x1, x2, some (.int w)] [.int v0, .ref v1] I J P Q ↔ Wp S N d MX9_moves 31 [x0, x1, x2, some (.int w)] [.int w, .int v0, .ref v1] I J P Q := wp_lod (len := 1) rfl rfl rfl rfl dX9_moves_30
theorem e_X9_moves_31 {v0 : Int32} {v1 : Int32} {v2 : Nat} {x0 x1 x2 x3 : Option Value} : Wp S N d MX9_moves 31 [x0, x1, x2, x3] [.int v0, .int v1, .ref v2] I J P Q ↔ Wp S N d MX9_moves 32 [x0, x1, x2, x3] [.int 1, .int v0, .int v1, .ref v2] I J P Q := wp_iconst (by decide) dX9_moves_31
theorem e_X9_moves_32 {v0 : Int32} {v1 : Int32} {v2 : Int32} {v3 : Nat} {x0 x1 x2 x3 : Option Value} : Wp S N d MX9_moves 32 [x0, x1, x2, x3] [.int v0, .int v1, .int v2, .ref v3] I J P Q ↔ Wp S N d MX9_moves 33 [x0, x1, x2, x3] [.int (v1 - v0), .int v2, .ref v3] I J P Q := wp_alu (len := 1) rfl rfl rfl dX9_moves_32
theorem e_X9_moves_33 {v0 : Int32} {v1 : Int32} {v2 : Nat} {x0 x1 x2 x3 : Option Value} : Wp S N (d + 1) MX9_moves 33 [x0, x1, x2, x3] [.int v0, .int v1, .ref v2] I J P Q ↔ S v2 = 9 ∧ CWp S N d MX9_exchanges [.ref v2, .int v1, .int v0] I J P (fun r I1 J1 P1 => Wp S N (d + 1) MX9_moves 36 [x0, x1, x2, x3] (r.toList ++ []) I1 J1 P1 Q) := wp_callV (M' := MX9_exchanges) (As := [.int v1, .int v0]) rfl rfl rfl rfl (by decide) (Nat.le_of_ble_eq_true rfl) dX9_moves_33
theorem e_X9_moves_36 {w : Int32} {x0 x1 x2 : Option Value} : Wp S N d MX9_moves 36 [x0, x1, x2, some (.int w)] [] I J P Q ↔ Wp S N d MX9_moves 39 [x0, x1, kl x2, some (.int (w + (-1)))] [] I J P Q := wp_inc rfl rfl dX9_moves_36
theorem e_X9_moves_39  {x0 x1 x2 x3 : Option Value} : Wp S N d MX9_moves 39 [x0, x1, x2, x3] [] I J P Q ↔ Wp S N d MX9_moves 23 [x0, x1, x2, x3] [] I J P Q := wp_go (len := 3) rfl (fun _ _ => rfl) rfl (by decide) dX9_moves_39
theorem e_X9_moves_42  {x0 x1 x2 x3 : Option Value} : Wp S N d MX9_moves 42 [x0, x1, x2, x3] [] I J P Q ↔ Q none I J P := wp_vret rfl dX9_moves_42
theorem dX9_removeCredit_0 : decode cX9_removeCredit 0 = .ok (.aload_n 0, 1) := by decide +kernel
theorem dX9_removeCredit_1 : decode cX9_removeCredit 1 = .ok (.iconst 0, 1) := by decide +kernel
theorem dX9_removeCredit_2 : decode cX9_removeCredit 2 = .ok (.putfield 57, 3) := by decide +kernel
theorem dX9_removeCredit_5 : decode cX9_removeCredit 5 = .ok (.aload_n 0, 1) := by decide +kernel
theorem dX9_removeCredit_6 : decode cX9_removeCredit 6 = .ok (.iload_n 1, 1) := by decide +kernel
theorem dX9_removeCredit_7 : decode cX9_removeCredit 7 = .ok (.invokevirtual 126, 3) := by decide +kernel
theorem dX9_removeCredit_10 : decode cX9_removeCredit 10 = .ok (.ifCond .ne 9, 3) := by decide +kernel
theorem dX9_removeCredit_13 : decode cX9_removeCredit 13 = .ok (.aload_n 0, 1) := by decide +kernel
theorem dX9_removeCredit_14 : decode cX9_removeCredit 14 = .ok (.iconst 1, 1) := by decide +kernel
theorem dX9_removeCredit_15 : decode cX9_removeCredit 15 = .ok (.invokevirtual 67, 3) := by decide +kernel
theorem dX9_removeCredit_18 : decode cX9_removeCredit 18 = .ok (.ireturn, 1) := by decide +kernel
theorem dX9_removeCredit_19 : decode cX9_removeCredit 19 = .ok (.aload_n 0, 1) := by decide +kernel
theorem dX9_removeCredit_20 : decode cX9_removeCredit 20 = .ok (.invokevirtual 75, 3) := by decide +kernel
theorem dX9_removeCredit_23 : decode cX9_removeCredit 23 = .ok (.aload_n 0, 1) := by decide +kernel
theorem dX9_removeCredit_24 : decode cX9_removeCredit 24 = .ok (.iload_n 1, 1) := by decide +kernel
theorem dX9_removeCredit_25 : decode cX9_removeCredit 25 = .ok (.aload_n 0, 1) := by decide +kernel
theorem dX9_removeCredit_26 : decode cX9_removeCredit 26 = .ok (.getfield 7, 3) := by decide +kernel
theorem dX9_removeCredit_29 : decode cX9_removeCredit 29 = .ok (.bipush 27, 2) := by decide +kernel
theorem dX9_removeCredit_31 : decode cX9_removeCredit 31 = .ok (.iaload, 1) := by decide +kernel
theorem dX9_removeCredit_32 : decode cX9_removeCredit 32 = .ok (.iconst 1, 1) := by decide +kernel
theorem dX9_removeCredit_33 : decode cX9_removeCredit 33 = .ok (.isub, 1) := by decide +kernel
theorem dX9_removeCredit_34 : decode cX9_removeCredit 34 = .ok (.invokevirtual 137, 3) := by decide +kernel
theorem dX9_removeCredit_37 : decode cX9_removeCredit 37 = .ok (.aload_n 0, 1) := by decide +kernel
theorem dX9_removeCredit_38 : decode cX9_removeCredit 38 = .ok (.getfield 7, 3) := by decide +kernel
theorem dX9_removeCredit_41 : decode cX9_removeCredit 41 = .ok (.bipush 27, 2) := by decide +kernel
theorem dX9_removeCredit_43 : decode cX9_removeCredit 43 = .ok (.dup2, 1) := by decide +kernel
theorem dX9_removeCredit_44 : decode cX9_removeCredit 44 = .ok (.iaload, 1) := by decide +kernel
theorem dX9_removeCredit_45 : decode cX9_removeCredit 45 = .ok (.iconst 1, 1) := by decide +kernel
theorem dX9_removeCredit_46 : decode cX9_removeCredit 46 = .ok (.isub, 1) := by decide +kernel
theorem dX9_removeCredit_47 : decode cX9_removeCredit 47 = .ok (.iastore, 1) := by decide +kernel
theorem dX9_removeCredit_48 : decode cX9_removeCredit 48 = .ok (.aload_n 0, 1) := by decide +kernel
theorem dX9_removeCredit_49 : decode cX9_removeCredit 49 = .ok (.aload_n 0, 1) := by decide +kernel
theorem dX9_removeCredit_50 : decode cX9_removeCredit 50 = .ok (.getfield 7, 3) := by decide +kernel
theorem dX9_removeCredit_53 : decode cX9_removeCredit 53 = .ok (.bipush 27, 2) := by decide +kernel
theorem dX9_removeCredit_55 : decode cX9_removeCredit 55 = .ok (.iaload, 1) := by decide +kernel
theorem dX9_removeCredit_56 : decode cX9_removeCredit 56 = .ok (.invokevirtual 122, 3) := by decide +kernel
theorem dX9_removeCredit_59 : decode cX9_removeCredit 59 = .ok (.aload_n 0, 1) := by decide +kernel
theorem dX9_removeCredit_60 : decode cX9_removeCredit 60 = .ok (.getfield 7, 3) := by decide +kernel
theorem dX9_removeCredit_63 : decode cX9_removeCredit 63 = .ok (.bipush 27, 2) := by decide +kernel
theorem dX9_removeCredit_65 : decode cX9_removeCredit 65 = .ok (.iaload, 1) := by decide +kernel
theorem dX9_removeCredit_66 : decode cX9_removeCredit 66 = .ok (.ireturn, 1) := by decide +kernel
theorem c_X9_removeCredit {a0 : Nat} {a1 : Int32} : CWp S N d MX9_removeCredit [.ref a0, .int a1] I J P Q ↔ Wp S N d MX9_removeCredit 0 [some (.ref a0), some (.int a1)] [] I J P Q := by
  rw [cwp_iff]
  exact ⟨fun h => h.2, fun h => ⟨Nat.le_of_ble_eq_true rfl, h⟩⟩
theorem e_X9_removeCredit_0 {w : Nat} {x1 : Option Value} : Wp S N d MX9_removeCredit 0 [some (.ref w), x1] [] I J P Q ↔ Wp S N d MX9_removeCredit 1 [some (.ref w), x1] [.ref w] I J P Q := wp_lod (len := 1) rfl rfl rfl rfl dX9_removeCredit_0
theorem e_X9_removeCredit_1 {v0 : Nat} {x0 x1 : Option Value} : Wp S N d MX9_removeCredit 1 [x0, x1] [.ref v0] I J P Q ↔ Wp S N d MX9_removeCredit 2 [x0, x1] [.int 0, .ref v0] I J P Q := wp_iconst (by decide) dX9_removeCredit_1
theorem e_X9_removeCredit_2 {v0 : Int32} {v1 : Nat} {x0 x1 : Option Value} : Wp S N d MX9_removeCredit 2 [x0, x1] [.int v0, .ref v1] I J P Q ↔ S v1 = 9 ∧ Wp S N d MX9_removeCredit 5 [x0, x1] [] (u2 I v1 8 v0) J P Q := wp_putI rfl rfl rfl rfl dX9_removeCredit_2
theorem e_X9_removeCredit_5 {w : Nat} {x1 : Option Value} : Wp S N d MX9_removeCredit 5 [some (.ref w), x1] [] I J P Q ↔ Wp S N d MX9_removeCredit 6 [some (.ref w), x1] [.ref w] I J P Q := wp_lod (len := 1) rfl rfl rfl rfl dX9_removeCredit_5
theorem e_X9_removeCredit_6 {v0 : Nat} {w : Int32} {x0 : Option Value} : Wp S N d MX9_removeCredit 6 [x0, some (.int w)] [.ref v0] I J P Q ↔ Wp S N d MX9_removeCredit 7 [x0, some (.int w)] [.int w, .ref v0] I J P Q := wp_lod (len := 1) rfl rfl rfl rfl dX9_removeCredit_6
theorem e_X9_removeCredit_7 {v0 : Int32} {v1 : Nat} {x0 x1 : Option Value} : Wp S N (d + 1) MX9_removeCredit 7 [x0, x1] [.int v0, .ref v1] I J P Q ↔ S v1 = 9 ∧ CWp S N d MX9_isCredit [.ref v1, .int v0] I J P (fun r I1 J1 P1 => Wp S N (d + 1) MX9_removeCredit 10 [x0, x1] (r.toList ++ []) I1 J1 P1 Q) := wp_callV (M' := MX9_isCredit) (As := [.int v0]) rfl rfl rfl rfl (by decide) (Nat.le_of_ble_eq_true rfl) dX9_removeCredit_7
theorem e_X9_removeCredit_10 {v0 : Int32} {x0 x1 : Option Value} : Wp S N d MX9_removeCredit 10 [x0, x1] [.int v0] I J P Q ↔ (¬ v0 = 0 → Wp S N d MX9_removeCredit 19 [x0, x1] [] I J P Q) ∧ (v0 = 0 → Wp S N d MX9_removeCredit 13 [x0, x1] [] I J P Q) := wp_brn rfl rfl (by decide) dX9_removeCredit_10
theorem e_X9_removeCredit_13 {w : Nat} {x1 : Option Value} : Wp S N d MX9_removeCredit 13 [some (.ref w), x1] [] I J P Q ↔ Wp S N d MX9_removeCredit 14 [some (.ref w), x1] [.ref w] I J P Q := wp_lod (len := 1) rfl rfl rfl rfl dX9_removeCredit_13
theorem e_X9_removeCredit_14 {v0 : Nat} {x0 x1 : Option Value} : Wp S N d MX9_removeCredit 14 [x0, x1] [.ref v0] I J P Q ↔ Wp S N d MX9_removeCredit 15 [x0, x1] [.int 1, .ref v0] I J P Q := wp_iconst (by decide) dX9_removeCredit_14
theorem e_X9_removeCredit_15 {v0 : Int32} {v1 : Nat} {x0 x1 : Option Value} : Wp S N (d + 1) MX9_removeCredit 15 [x0, x1] [.int v0, .ref v1] I J P Q ↔ S v1 = 9 ∧ CWp S N d MX9_fails [.ref v1, .int v0] I J P (fun r I1 J1 P1 => Wp S N (d + 1) MX9_removeCredit 18 [x0, x1] (r.toList ++ []) I1 J1 P1 Q) := wp_callV (M' := MX9_fails) (As := [.int v0]) rfl rfl rfl rfl (by decide) (Nat.le_of_ble_eq_true rfl) dX9_removeCredit_15
theorem e_X9_removeCredit_18 {v0 : Int32} {x0 x1 : Option Value} : Wp S N d MX9_removeCredit 18 [x0, x1] [.int v0] I J P Q ↔ Q (some (.int v0)) I J P := wp_iret rfl dX9_removeCredit_18
theorem e_X9_removeCredit_19 {w : Nat} {x1 : Option Value} : Wp S N d MX9_removeCredit 19 [some (.ref w), x1] [] I J P Q ↔ Wp S N d MX9_removeCredit 20 [some (.ref w), x1] [.ref w] I J P Q := wp_lod (len := 1) rfl rfl rfl rfl dX9_removeCredit_19
theorem e_X9_removeCredit_20 {v0 : Nat} {x0 x1 : Option Value} : Wp S N (d + 1) MX9_removeCredit 20 [x0, x1] [.ref v0] I J P Q ↔ S v0 = 9 ∧ CWp S N d MX9_changes [.ref v0] I J P (fun r I1 J1 P1 => Wp S N (d + 1) MX9_removeCredit 23 [x0, x1] (r.toList ++ []) I1 J1 P1 Q) := wp_callV (M' := MX9_changes) (As := []) rfl rfl rfl rfl (by decide) (Nat.le_of_ble_eq_true rfl) dX9_removeCredit_20
theorem e_X9_removeCredit_23 {w : Nat} {x1 : Option Value} : Wp S N d MX9_removeCredit 23 [some (.ref w), x1] [] I J P Q ↔ Wp S N d MX9_removeCredit 24 [some (.ref w), x1] [.ref w] I J P Q := wp_lod (len := 1) rfl rfl rfl rfl dX9_removeCredit_23
theorem e_X9_removeCredit_24 {v0 : Nat} {w : Int32} {x0 : Option Value} : Wp S N d MX9_removeCredit 24 [x0, some (.int w)] [.ref v0] I J P Q ↔ Wp S N d MX9_removeCredit 25 [x0, some (.int w)] [.int w, .ref v0] I J P Q := wp_lod (len := 1) rfl rfl rfl rfl dX9_removeCredit_24
theorem e_X9_removeCredit_25 {v0 : Int32} {v1 : Nat} {w : Nat} {x1 : Option Value} : Wp S N d MX9_removeCredit 25 [some (.ref w), x1] [.int v0, .ref v1] I J P Q ↔ Wp S N d MX9_removeCredit 26 [some (.ref w), x1] [.ref w, .int v0, .ref v1] I J P Q := wp_lod (len := 1) rfl rfl rfl rfl dX9_removeCredit_25
theorem e_X9_removeCredit_26 {v0 : Nat} {v1 : Int32} {v2 : Nat} {x0 x1 : Option Value} : Wp S N d MX9_removeCredit 26 [x0, x1] [.ref v0, .int v1, .ref v2] I J P Q ↔ S v0 = 9 ∧ Wp S N d MX9_removeCredit 29 [x0, x1] [va_rf (P v0 0), .int v1, .ref v2] I J P Q := wp_getf rfl rfl rfl rfl dX9_removeCredit_26
theorem e_X9_removeCredit_29 {v0 : Nat} {v1 : Int32} {v2 : Nat} {x0 x1 : Option Value} : Wp S N d MX9_removeCredit 29 [x0, x1] [.ref v0, .int v1, .ref v2] I J P Q ↔ Wp S N d MX9_removeCredit 31 [x0, x1] [.int 27, .ref v0, .int v1, .ref v2] I J P Q := wp_bipush (by decide) dX9_removeCredit_29
theorem e_X9_removeCredit_31 {v0 : Int32} {v1 : Nat} {v2 : Int32} {v3 : Nat} {x0 x1 : Option Value} : Wp S N d MX9_removeCredit 31 [x0, x1] [.int v0, .ref v1, .int v2, .ref v3] I J P Q ↔ (S v1 = 10 ∧ vp_in v0 (N v1)) ∧ Wp S N d MX9_removeCredit 32 [x0, x1] [.int (I v1 v0.toNatClampNeg), .int v2, .ref v3] I J P Q := wp_ald rfl rfl dX9_removeCredit_31
theorem e_X9_removeCredit_32 {v0 : Int32} {v1 : Int32} {v2 : Nat} {x0 x1 : Option Value} : Wp S N d MX9_removeCredit 32 [x0, x1] [.int v0, .int v1, .ref v2] I J P Q ↔ Wp S N d MX9_removeCredit 33 [x0, x1] [.int 1, .int v0, .int v1, .ref v2] I J P Q := wp_iconst (by decide) dX9_removeCredit_32
theorem e_X9_removeCredit_33 {v0 : Int32} {v1 : Int32} {v2 : Int32} {v3 : Nat} {x0 x1 : Option Value} : Wp S N d MX9_removeCredit 33 [x0, x1] [.int v0, .int v1, .int v2, .ref v3] I J P Q ↔ Wp S N d MX9_removeCredit 34 [x0, x1] [.int (v1 - v0), .int v2, .ref v3] I J P Q := wp_alu (len := 1) rfl rfl rfl dX9_removeCredit_33
theorem e_X9_removeCredit_34 {v0 : Int32} {v1 : Int32} {v2 : Nat} {x0 x1 : Option Value} : Wp S N (d + 1) MX9_removeCredit 34 [x0, x1] [.int v0, .int v1, .ref v2] I J P Q ↔ S v2 = 9 ∧ CWp S N d MX9_moves [.ref v2, .int v1, .int v0] I J P (fun r I1 J1 P1 => Wp S N (d + 1) MX9_removeCredit 37 [x0, x1] (r.toList ++ []) I1 J1 P1 Q) := wp_callV (M' := MX9_moves) (As := [.int v1, .int v0]) rfl rfl rfl rfl (by decide) (Nat.le_of_ble_eq_true rfl) dX9_removeCredit_34
theorem e_X9_removeCredit_37 {w : Nat} {x1 : Option Value} : Wp S N d MX9_removeCredit 37 [some (.ref w), x1] [] I J P Q ↔ Wp S N d MX9_removeCredit 38 [some (.ref w), x1] [.ref w] I J P Q := wp_lod (len := 1) rfl rfl rfl rfl dX9_removeCredit_37
theorem e_X9_removeCredit_38 {v0 : Nat} {x0 x1 : Option Value} : Wp S N d MX9_removeCredit 38 [x0, x1] [.ref v0] I J P Q ↔ S v0 = 9 ∧ Wp S N d MX9_removeCredit 41 [x0, x1] [va_rf (P v0 0)] I J P Q := wp_getf rfl rfl rfl rfl dX9_removeCredit_38
theorem e_X9_removeCredit_41 {v0 : Nat} {x0 x1 : Option Value} : Wp S N d MX9_removeCredit 41 [x0, x1] [.ref v0] I J P Q ↔ Wp S N d MX9_removeCredit 43 [x0, x1] [.int 27, .ref v0] I J P Q := wp_bipush (by decide) dX9_removeCredit_41
theorem e_X9_removeCredit_43 {v0 : Int32} {v1 : Nat} {x0 x1 : Option Value} : Wp S N d MX9_removeCredit 43 [x0, x1] [.int v0, .ref v1] I J P Q ↔ Wp S N d MX9_removeCredit 44 [x0, x1] [.int v0, .ref v1, .int v0, .ref v1] I J P Q := wp_alu (len := 1) rfl rfl rfl dX9_removeCredit_43
theorem e_X9_removeCredit_44 {v0 : Int32} {v1 : Nat} {v2 : Int32} {v3 : Nat} {x0 x1 : Option Value} : Wp S N d MX9_removeCredit 44 [x0, x1] [.int v0, .ref v1, .int v2, .ref v3] I J P Q ↔ (S v1 = 10 ∧ vp_in v0 (N v1)) ∧ Wp S N d MX9_removeCredit 45 [x0, x1] [.int (I v1 v0.toNatClampNeg), .int v2, .ref v3] I J P Q := wp_ald rfl rfl dX9_removeCredit_44
theorem e_X9_removeCredit_45 {v0 : Int32} {v1 : Int32} {v2 : Nat} {x0 x1 : Option Value} : Wp S N d MX9_removeCredit 45 [x0, x1] [.int v0, .int v1, .ref v2] I J P Q ↔ Wp S N d MX9_removeCredit 46 [x0, x1] [.int 1, .int v0, .int v1, .ref v2] I J P Q := wp_iconst (by decide) dX9_removeCredit_45
theorem e_X9_removeCredit_46 {v0 : Int32} {v1 : Int32} {v2 : Int32} {v3 : Nat} {x0 x1 : Option Value} : Wp S N d MX9_removeCredit 46 [x0, x1] [.int v0, .int v1, .int v2, .ref v3] I J P Q ↔ Wp S N d MX9_removeCredit 47 [x0, x1] [.int (v1 - v0), .int v2, .ref v3] I J P Q := wp_alu (len := 1) rfl rfl rfl dX9_removeCredit_46
theorem e_X9_removeCredit_47 {v0 : Int32} {v1 : Int32} {v2 : Nat} {x0 x1 : Option Value} : Wp S N d MX9_removeCredit 47 [x0, x1] [.int v0, .int v1, .ref v2] I J P Q ↔ (S v2 = 10 ∧ vp_in v1 (N v2)) ∧ Wp S N d MX9_removeCredit 48 [x0, x1] [] (u2 I v2 v1.toNatClampNeg v0) J P Q := wp_ast rfl rfl dX9_removeCredit_47
theorem e_X9_removeCredit_48 {w : Nat} {x1 : Option Value} : Wp S N d MX9_removeCredit 48 [some (.ref w), x1] [] I J P Q ↔ Wp S N d MX9_removeCredit 49 [some (.ref w), x1] [.ref w] I J P Q := wp_lod (len := 1) rfl rfl rfl rfl dX9_removeCredit_48
theorem e_X9_removeCredit_49 {v0 : Nat} {w : Nat} {x1 : Option Value} : Wp S N d MX9_removeCredit 49 [some (.ref w), x1] [.ref v0] I J P Q ↔ Wp S N d MX9_removeCredit 50 [some (.ref w), x1] [.ref w, .ref v0] I J P Q := wp_lod (len := 1) rfl rfl rfl rfl dX9_removeCredit_49
theorem e_X9_removeCredit_50 {v0 : Nat} {v1 : Nat} {x0 x1 : Option Value} : Wp S N d MX9_removeCredit 50 [x0, x1] [.ref v0, .ref v1] I J P Q ↔ S v0 = 9 ∧ Wp S N d MX9_removeCredit 53 [x0, x1] [va_rf (P v0 0), .ref v1] I J P Q := wp_getf rfl rfl rfl rfl dX9_removeCredit_50
theorem e_X9_removeCredit_53 {v0 : Nat} {v1 : Nat} {x0 x1 : Option Value} : Wp S N d MX9_removeCredit 53 [x0, x1] [.ref v0, .ref v1] I J P Q ↔ Wp S N d MX9_removeCredit 55 [x0, x1] [.int 27, .ref v0, .ref v1] I J P Q := wp_bipush (by decide) dX9_removeCredit_53
theorem e_X9_removeCredit_55 {v0 : Int32} {v1 : Nat} {v2 : Nat} {x0 x1 : Option Value} : Wp S N d MX9_removeCredit 55 [x0, x1] [.int v0, .ref v1, .ref v2] I J P Q ↔ (S v1 = 10 ∧ vp_in v0 (N v1)) ∧ Wp S N d MX9_removeCredit 56 [x0, x1] [.int (I v1 v0.toNatClampNeg), .ref v2] I J P Q := wp_ald rfl rfl dX9_removeCredit_55
theorem e_X9_removeCredit_56 {v0 : Int32} {v1 : Nat} {x0 x1 : Option Value} : Wp S N (d + 1) MX9_removeCredit 56 [x0, x1] [.int v0, .ref v1] I J P Q ↔ S v1 = 9 ∧ CWp S N d MX9_forgets [.ref v1, .int v0] I J P (fun r I1 J1 P1 => Wp S N (d + 1) MX9_removeCredit 59 [x0, x1] (r.toList ++ []) I1 J1 P1 Q) := wp_callV (M' := MX9_forgets) (As := [.int v0]) rfl rfl rfl rfl (by decide) (Nat.le_of_ble_eq_true rfl) dX9_removeCredit_56
theorem e_X9_removeCredit_59 {w : Nat} {x1 : Option Value} : Wp S N d MX9_removeCredit 59 [some (.ref w), x1] [] I J P Q ↔ Wp S N d MX9_removeCredit 60 [some (.ref w), x1] [.ref w] I J P Q := wp_lod (len := 1) rfl rfl rfl rfl dX9_removeCredit_59
theorem e_X9_removeCredit_60 {v0 : Nat} {x0 x1 : Option Value} : Wp S N d MX9_removeCredit 60 [x0, x1] [.ref v0] I J P Q ↔ S v0 = 9 ∧ Wp S N d MX9_removeCredit 63 [x0, x1] [va_rf (P v0 0)] I J P Q := wp_getf rfl rfl rfl rfl dX9_removeCredit_60
theorem e_X9_removeCredit_63 {v0 : Nat} {x0 x1 : Option Value} : Wp S N d MX9_removeCredit 63 [x0, x1] [.ref v0] I J P Q ↔ Wp S N d MX9_removeCredit 65 [x0, x1] [.int 27, .ref v0] I J P Q := wp_bipush (by decide) dX9_removeCredit_63
theorem e_X9_removeCredit_65 {v0 : Int32} {v1 : Nat} {x0 x1 : Option Value} : Wp S N d MX9_removeCredit 65 [x0, x1] [.int v0, .ref v1] I J P Q ↔ (S v1 = 10 ∧ vp_in v0 (N v1)) ∧ Wp S N d MX9_removeCredit 66 [x0, x1] [.int (I v1 v0.toNatClampNeg)] I J P Q := wp_ald rfl rfl dX9_removeCredit_65
theorem e_X9_removeCredit_66 {v0 : Int32} {x0 x1 : Option Value} : Wp S N d MX9_removeCredit 66 [x0, x1] [.int v0] I J P Q ↔ Q (some (.int v0)) I J P := wp_iret rfl dX9_removeCredit_66
theorem dX9_moveCredit_0 : decode cX9_moveCredit 0 = .ok (.aload_n 0, 1) := by decide +kernel
theorem dX9_moveCredit_1 : decode cX9_moveCredit 1 = .ok (.aload_n 0, 1) := by decide +kernel
theorem dX9_moveCredit_2 : decode cX9_moveCredit 2 = .ok (.iload_n 1, 1) := by decide +kernel
theorem dX9_moveCredit_3 : decode cX9_moveCredit 3 = .ok (.invokevirtual 126, 3) := by decide +kernel
theorem dX9_moveCredit_6 : decode cX9_moveCredit 6 = .ok (.ifCond .eq 15, 3) := by decide +kernel
theorem dX9_moveCredit_9 : decode cX9_moveCredit 9 = .ok (.aload_n 0, 1) := by decide +kernel
theorem dX9_moveCredit_10 : decode cX9_moveCredit 10 = .ok (.iload_n 2, 1) := by decide +kernel
theorem dX9_moveCredit_11 : decode cX9_moveCredit 11 = .ok (.invokevirtual 126, 3) := by decide +kernel
theorem dX9_moveCredit_14 : decode cX9_moveCredit 14 = .ok (.ifCond .eq 7, 3) := by decide +kernel
theorem dX9_moveCredit_17 : decode cX9_moveCredit 17 = .ok (.iconst 0, 1) := by decide +kernel
theorem dX9_moveCredit_18 : decode cX9_moveCredit 18 = .ok (.goto 4, 3) := by decide +kernel
theorem dX9_moveCredit_21 : decode cX9_moveCredit 21 = .ok (.iconst 1, 1) := by decide +kernel
theorem dX9_moveCredit_22 : decode cX9_moveCredit 22 = .ok (.putfield 57, 3) := by decide +kernel
theorem dX9_moveCredit_25 : decode cX9_moveCredit 25 = .ok (.aload_n 0, 1) := by decide +kernel
theorem dX9_moveCredit_26 : decode cX9_moveCredit 26 = .ok (.getfield 57, 3) := by decide +kernel
theorem dX9_moveCredit_29 : decode cX9_moveCredit 29 = .ok (.ifCond .ne 13, 3) := by decide +kernel
theorem dX9_moveCredit_32 : decode cX9_moveCredit 32 = .ok (.aload_n 0, 1) := by decide +kernel
theorem dX9_moveCredit_33 : decode cX9_moveCredit 33 = .ok (.invokevirtual 75, 3) := by decide +kernel
theorem dX9_moveCredit_36 : decode cX9_moveCredit 36 = .ok (.aload_n 0, 1) := by decide +kernel
theorem dX9_moveCredit_37 : decode cX9_moveCredit 37 = .ok (.iload_n 1, 1) := by decide +kernel
theorem dX9_moveCredit_38 : decode cX9_moveCredit 38 = .ok (.iload_n 2, 1) := by decide +kernel
theorem dX9_moveCredit_39 : decode cX9_moveCredit 39 = .ok (.invokevirtual 137, 3) := by decide +kernel
theorem dX9_moveCredit_42 : decode cX9_moveCredit 42 = .ok (.return_, 1) := by decide +kernel
theorem c_X9_moveCredit {a0 : Nat} {a1 : Int32} {a2 : Int32} : CWp S N d MX9_moveCredit [.ref a0, .int a1, .int a2] I J P Q ↔ Wp S N d MX9_moveCredit 0 [some (.ref a0), some (.int a1), some (.int a2)] [] I J P Q := by
  rw [cwp_iff]
  exact ⟨fun h => h.2, fun h => ⟨Nat.le_of_ble_eq_true rfl, h⟩⟩
theorem e_X9_moveCredit_0 {w : Nat} {x1 x2 : Option Value} : Wp S N d MX9_moveCredit 0 [some (.ref w), x1, x2] [] I J P Q ↔ Wp S N d MX9_moveCredit 1 [some (.ref w), x1, x2] [.ref w] I J P Q := wp_lod (len := 1) rfl rfl rfl rfl dX9_moveCredit_0
theorem e_X9_moveCredit_1 {v0 : Nat} {w : Nat} {x1 x2 : Option Value} : Wp S N d MX9_moveCredit 1 [some (.ref w), x1, x2] [.ref v0] I J P Q ↔ Wp S N d MX9_moveCredit 2 [some (.ref w), x1, x2] [.ref w, .ref v0] I J P Q := wp_lod (len := 1) rfl rfl rfl rfl dX9_moveCredit_1
theorem e_X9_moveCredit_2 {v0 : Nat} {v1 : Nat} {w : Int32} {x0 x2 : Option Value} : Wp S N d MX9_moveCredit 2 [x0, some (.int w), x2] [.ref v0, .ref v1] I J P Q ↔ Wp S N d MX9_moveCredit 3 [x0, some (.int w), x2] [.int w, .ref v0, .ref v1] I J P Q := wp_lod (len := 1) rfl rfl rfl rfl dX9_moveCredit_2
theorem e_X9_moveCredit_3 {v0 : Int32} {v1 : Nat} {v2 : Nat} {x0 x1 x2 : Option Value} : Wp S N (d + 1) MX9_moveCredit 3 [x0, x1, x2] [.int v0, .ref v1, .ref v2] I J P Q ↔ S v1 = 9 ∧ CWp S N d MX9_isCredit [.ref v1, .int v0] I J P (fun r I1 J1 P1 => Wp S N (d + 1) MX9_moveCredit 6 [x0, x1, x2] (r.toList ++ [.ref v2]) I1 J1 P1 Q) := wp_callV (M' := MX9_isCredit) (As := [.int v0]) rfl rfl rfl rfl (by decide) (Nat.le_of_ble_eq_true rfl) dX9_moveCredit_3
theorem e_X9_moveCredit_6 {v0 : Int32} {v1 : Nat} {x0 x1 x2 : Option Value} : Wp S N d MX9_moveCredit 6 [x0, x1, x2] [.int v0, .ref v1] I J P Q ↔ (v0 = 0 → Wp S N d MX9_moveCredit 21 [x0, x1, x2] [.ref v1] I J P Q) ∧ (¬ v0 = 0 → Wp S N d MX9_moveCredit 9 [x0, x1, x2] [.ref v1] I J P Q) := wp_br rfl rfl (by decide) dX9_moveCredit_6
theorem e_X9_moveCredit_9 {v0 : Nat} {w : Nat} {x1 x2 : Option Value} : Wp S N d MX9_moveCredit 9 [some (.ref w), x1, x2] [.ref v0] I J P Q ↔ Wp S N d MX9_moveCredit 10 [some (.ref w), x1, x2] [.ref w, .ref v0] I J P Q := wp_lod (len := 1) rfl rfl rfl rfl dX9_moveCredit_9
theorem e_X9_moveCredit_10 {v0 : Nat} {v1 : Nat} {w : Int32} {x0 x1 : Option Value} : Wp S N d MX9_moveCredit 10 [x0, x1, some (.int w)] [.ref v0, .ref v1] I J P Q ↔ Wp S N d MX9_moveCredit 11 [x0, x1, some (.int w)] [.int w, .ref v0, .ref v1] I J P Q := wp_lod (len := 1) rfl rfl rfl rfl dX9_moveCredit_10
theorem e_X9_moveCredit_11 {v0 : Int32} {v1 : Nat} {v2 : Nat} {x0 x1 x2 : Option Value} : Wp S N (d + 1) MX9_moveCredit 11 [x0, x1, x2] [.int v0, .ref v1, .ref v2] I J P Q ↔ S v1 = 9 ∧ CWp S N d MX9_isCredit [.ref v1, .int v0] I J P (fun r I1 J1 P1 => Wp S N (d + 1) MX9_moveCredit 14 [x0, x1, x2] (r.toList ++ [.ref v2]) I1 J1 P1 Q) := wp_callV (M' := MX9_isCredit) (As := [.int v0]) rfl rfl rfl rfl (by decide) (Nat.le_of_ble_eq_true rfl) dX9_moveCredit_11
theorem e_X9_moveCredit_14 {v0 : Int32} {v1 : Nat} {x0 x1 x2 : Option Value} : Wp S N d MX9_moveCredit 14 [x0, x1, x2] [.int v0, .ref v1] I J P Q ↔ (v0 = 0 → Wp S N d MX9_moveCredit 21 [x0, x1, x2] [.ref v1] I J P Q) ∧ (¬ v0 = 0 → Wp S N d MX9_moveCredit 17 [x0, x1, x2] [.ref v1] I J P Q) := wp_br rfl rfl (by decide) dX9_moveCredit_14
theorem e_X9_moveCredit_17 {v0 : Nat} {x0 x1 x2 : Option Value} : Wp S N d MX9_moveCredit 17 [x0, x1, x2] [.ref v0] I J P Q ↔ Wp S N d MX9_moveCredit 18 [x0, x1, x2] [.int 0, .ref v0] I J P Q := wp_iconst (by decide) dX9_moveCredit_17
theorem e_X9_moveCredit_18 {v0 : Int32} {v1 : Nat} {x0 x1 x2 : Option Value} : Wp S N d MX9_moveCredit 18 [x0, x1, x2] [.int v0, .ref v1] I J P Q ↔ Wp S N d MX9_moveCredit 22 [x0, x1, x2] [.int v0, .ref v1] I J P Q := wp_go (len := 3) rfl (fun _ _ => rfl) rfl (by decide) dX9_moveCredit_18
theorem e_X9_moveCredit_21 {v0 : Nat} {x0 x1 x2 : Option Value} : Wp S N d MX9_moveCredit 21 [x0, x1, x2] [.ref v0] I J P Q ↔ Wp S N d MX9_moveCredit 22 [x0, x1, x2] [.int 1, .ref v0] I J P Q := wp_iconst (by decide) dX9_moveCredit_21
theorem e_X9_moveCredit_22 {v0 : Int32} {v1 : Nat} {x0 x1 x2 : Option Value} : Wp S N d MX9_moveCredit 22 [x0, x1, x2] [.int v0, .ref v1] I J P Q ↔ S v1 = 9 ∧ Wp S N d MX9_moveCredit 25 [x0, x1, x2] [] (u2 I v1 8 v0) J P Q := wp_putI rfl rfl rfl rfl dX9_moveCredit_22
theorem e_X9_moveCredit_25 {w : Nat} {x1 x2 : Option Value} : Wp S N d MX9_moveCredit 25 [some (.ref w), x1, x2] [] I J P Q ↔ Wp S N d MX9_moveCredit 26 [some (.ref w), x1, x2] [.ref w] I J P Q := wp_lod (len := 1) rfl rfl rfl rfl dX9_moveCredit_25
theorem e_X9_moveCredit_26 {v0 : Nat} {x0 x1 x2 : Option Value} : Wp S N d MX9_moveCredit 26 [x0, x1, x2] [.ref v0] I J P Q ↔ S v0 = 9 ∧ Wp S N d MX9_moveCredit 29 [x0, x1, x2] [.int (I v0 8)] I J P Q := wp_getf rfl rfl rfl rfl dX9_moveCredit_26
theorem e_X9_moveCredit_29 {v0 : Int32} {x0 x1 x2 : Option Value} : Wp S N d MX9_moveCredit 29 [x0, x1, x2] [.int v0] I J P Q ↔ (¬ v0 = 0 → Wp S N d MX9_moveCredit 42 [x0, x1, x2] [] I J P Q) ∧ (v0 = 0 → Wp S N d MX9_moveCredit 32 [x0, x1, x2] [] I J P Q) := wp_brn rfl rfl (by decide) dX9_moveCredit_29
theorem e_X9_moveCredit_32 {w : Nat} {x1 x2 : Option Value} : Wp S N d MX9_moveCredit 32 [some (.ref w), x1, x2] [] I J P Q ↔ Wp S N d MX9_moveCredit 33 [some (.ref w), x1, x2] [.ref w] I J P Q := wp_lod (len := 1) rfl rfl rfl rfl dX9_moveCredit_32
theorem e_X9_moveCredit_33 {v0 : Nat} {x0 x1 x2 : Option Value} : Wp S N (d + 1) MX9_moveCredit 33 [x0, x1, x2] [.ref v0] I J P Q ↔ S v0 = 9 ∧ CWp S N d MX9_changes [.ref v0] I J P (fun r I1 J1 P1 => Wp S N (d + 1) MX9_moveCredit 36 [x0, x1, x2] (r.toList ++ []) I1 J1 P1 Q) := wp_callV (M' := MX9_changes) (As := []) rfl rfl rfl rfl (by decide) (Nat.le_of_ble_eq_true rfl) dX9_moveCredit_33
theorem e_X9_moveCredit_36 {w : Nat} {x1 x2 : Option Value} : Wp S N d MX9_moveCredit 36 [some (.ref w), x1, x2] [] I J P Q ↔ Wp S N d MX9_moveCredit 37 [some (.ref w), x1, x2] [.ref w] I J P Q := wp_lod (len := 1) rfl rfl rfl rfl dX9_moveCredit_36
theorem e_X9_moveCredit_37 {v0 : Nat} {w : Int32} {x0 x2 : Option Value} : Wp S N d MX9_moveCredit 37 [x0, some (.int w), x2] [.ref v0] I J P Q ↔ Wp S N d MX9_moveCredit 38 [x0, some (.int w), x2] [.int w, .ref v0] I J P Q := wp_lod (len := 1) rfl rfl rfl rfl dX9_moveCredit_37
theorem e_X9_moveCredit_38 {v0 : Int32} {v1 : Nat} {w : Int32} {x0 x1 : Option Value} : Wp S N d MX9_moveCredit 38 [x0, x1, some (.int w)] [.int v0, .ref v1] I J P Q ↔ Wp S N d MX9_moveCredit 39 [x0, x1, some (.int w)] [.int w, .int v0, .ref v1] I J P Q := wp_lod (len := 1) rfl rfl rfl rfl dX9_moveCredit_38
theorem e_X9_moveCredit_39 {v0 : Int32} {v1 : Int32} {v2 : Nat} {x0 x1 x2 : Option Value} : Wp S N (d + 1) MX9_moveCredit 39 [x0, x1, x2] [.int v0, .int v1, .ref v2] I J P Q ↔ S v2 = 9 ∧ CWp S N d MX9_moves [.ref v2, .int v1, .int v0] I J P (fun r I1 J1 P1 => Wp S N (d + 1) MX9_moveCredit 42 [x0, x1, x2] (r.toList ++ []) I1 J1 P1 Q) := wp_callV (M' := MX9_moves) (As := [.int v1, .int v0]) rfl rfl rfl rfl (by decide) (Nat.le_of_ble_eq_true rfl) dX9_moveCredit_39
theorem e_X9_moveCredit_42  {x0 x1 x2 : Option Value} : Wp S N d MX9_moveCredit 42 [x0, x1, x2] [] I J P Q ↔ Q none I J P := wp_vret rfl dX9_moveCredit_42
theorem dX9_setPerson_0 : decode cX9_setPerson 0 = .ok (.aload_n 0, 1) := by decide +kernel
theorem dX9_setPerson_1 : decode cX9_setPerson 1 = .ok (.iload_n 1, 1) := by decide +kernel
theorem dX9_setPerson_2 : decode cX9_setPerson 2 = .ok (.invokestatic 140, 3) := by decide +kernel
theorem dX9_setPerson_5 : decode cX9_setPerson 5 = .ok (.ifCond .eq 44, 3) := by decide +kernel
theorem dX9_setPerson_8 : decode cX9_setPerson 8 = .ok (.iload_n 2, 1) := by decide +kernel
theorem dX9_setPerson_9 : decode cX9_setPerson 9 = .ok (.iconst 0, 1) := by decide +kernel
theorem dX9_setPerson_10 : decode cX9_setPerson 10 = .ok (.sipush 9999, 3) := by decide +kernel
theorem dX9_setPerson_13 : decode cX9_setPerson 13 = .ok (.invokestatic 60, 3) := by decide +kernel
theorem dX9_setPerson_16 : decode cX9_setPerson 16 = .ok (.ifCond .eq 29, 3) := by decide +kernel
theorem dX9_setPerson_19 : decode cX9_setPerson 19 = .ok (.iload_n 3, 1) := by decide +kernel
theorem dX9_setPerson_20 : decode cX9_setPerson 20 = .ok (.iconst 0, 1) := by decide +kernel
theorem dX9_setPerson_21 : decode cX9_setPerson 21 = .ok (.sipush 9999, 3) := by decide +kernel
theorem dX9_setPerson_24 : decode cX9_setPerson 24 = .ok (.invokestatic 60, 3) := by decide +kernel
theorem dX9_setPerson_27 : decode cX9_setPerson 27 = .ok (.ifCond .eq 18, 3) := by decide +kernel
theorem dX9_setPerson_30 : decode cX9_setPerson 30 = .ok (.iload 4, 2) := by decide +kernel
theorem dX9_setPerson_32 : decode cX9_setPerson 32 = .ok (.iconst 0, 1) := by decide +kernel
theorem dX9_setPerson_33 : decode cX9_setPerson 33 = .ok (.bipush 9, 2) := by decide +kernel
theorem dX9_setPerson_35 : decode cX9_setPerson 35 = .ok (.invokestatic 60, 3) := by decide +kernel
theorem dX9_setPerson_38 : decode cX9_setPerson 38 = .ok (.ifCond .eq 7, 3) := by decide +kernel
theorem dX9_setPerson_41 : decode cX9_setPerson 41 = .ok (.iconst 0, 1) := by decide +kernel
theorem dX9_setPerson_42 : decode cX9_setPerson 42 = .ok (.goto 8, 3) := by decide +kernel
theorem dX9_setPerson_45 : decode cX9_setPerson 45 = .ok (.iconst 2, 1) := by decide +kernel
theorem dX9_setPerson_46 : decode cX9_setPerson 46 = .ok (.goto 4, 3) := by decide +kernel
theorem dX9_setPerson_49 : decode cX9_setPerson 49 = .ok (.iconst 1, 1) := by decide +kernel
theorem dX9_setPerson_50 : decode cX9_setPerson 50 = .ok (.putfield 57, 3) := by decide +kernel
theorem dX9_setPerson_53 : decode cX9_setPerson 53 = .ok (.aload_n 0, 1) := by decide +kernel
theorem dX9_setPerson_54 : decode cX9_setPerson 54 = .ok (.getfield 57, 3) := by decide +kernel
theorem dX9_setPerson_57 : decode cX9_setPerson 57 = .ok (.ifCond .le 4, 3) := by decide +kernel
theorem dX9_setPerson_60 : decode cX9_setPerson 60 = .ok (.return_, 1) := by decide +kernel
theorem dX9_setPerson_61 : decode cX9_setPerson 61 = .ok (.aload_n 0, 1) := by decide +kernel
theorem dX9_setPerson_62 : decode cX9_setPerson 62 = .ok (.invokevirtual 75, 3) := by decide +kernel
theorem dX9_setPerson_65 : decode cX9_setPerson 65 = .ok (.aload_n 0, 1) := by decide +kernel
theorem dX9_setPerson_66 : decode cX9_setPerson 66 = .ok (.getfield 7, 3) := by decide +kernel
theorem dX9_setPerson_69 : decode cX9_setPerson 69 = .ok (.bipush 64, 2) := by decide +kernel
theorem dX9_setPerson_71 : decode cX9_setPerson 71 = .ok (.iconst 3, 1) := by decide +kernel
theorem dX9_setPerson_72 : decode cX9_setPerson 72 = .ok (.iload_n 1, 1) := by decide +kernel
theorem dX9_setPerson_73 : decode cX9_setPerson 73 = .ok (.imul, 1) := by decide +kernel
theorem dX9_setPerson_74 : decode cX9_setPerson 74 = .ok (.iadd, 1) := by decide +kernel
theorem dX9_setPerson_75 : decode cX9_setPerson 75 = .ok (.iload_n 2, 1) := by decide +kernel
theorem dX9_setPerson_76 : decode cX9_setPerson 76 = .ok (.iastore, 1) := by decide +kernel
theorem dX9_setPerson_77 : decode cX9_setPerson 77 = .ok (.aload_n 0, 1) := by decide +kernel
theorem dX9_setPerson_78 : decode cX9_setPerson 78 = .ok (.getfield 7, 3) := by decide +kernel
theorem dX9_setPerson_81 : decode cX9_setPerson 81 = .ok (.bipush 64, 2) := by decide +kernel
theorem dX9_setPerson_83 : decode cX9_setPerson 83 = .ok (.iconst 3, 1) := by decide +kernel
theorem dX9_setPerson_84 : decode cX9_setPerson 84 = .ok (.iload_n 1, 1) := by decide +kernel
theorem dX9_setPerson_85 : decode cX9_setPerson 85 = .ok (.imul, 1) := by decide +kernel
theorem dX9_setPerson_86 : decode cX9_setPerson 86 = .ok (.iadd, 1) := by decide +kernel
theorem dX9_setPerson_87 : decode cX9_setPerson 87 = .ok (.iconst 1, 1) := by decide +kernel
theorem dX9_setPerson_88 : decode cX9_setPerson 88 = .ok (.iadd, 1) := by decide +kernel
theorem dX9_setPerson_89 : decode cX9_setPerson 89 = .ok (.iload_n 3, 1) := by decide +kernel
theorem dX9_setPerson_90 : decode cX9_setPerson 90 = .ok (.iastore, 1) := by decide +kernel
theorem dX9_setPerson_91 : decode cX9_setPerson 91 = .ok (.aload_n 0, 1) := by decide +kernel
theorem dX9_setPerson_92 : decode cX9_setPerson 92 = .ok (.getfield 7, 3) := by decide +kernel
theorem dX9_setPerson_95 : decode cX9_setPerson 95 = .ok (.bipush 64, 2) := by decide +kernel
theorem dX9_setPerson_97 : decode cX9_setPerson 97 = .ok (.iconst 3, 1) := by decide +kernel
theorem dX9_setPerson_98 : decode cX9_setPerson 98 = .ok (.iload_n 1, 1) := by decide +kernel
theorem dX9_setPerson_99 : decode cX9_setPerson 99 = .ok (.imul, 1) := by decide +kernel
theorem dX9_setPerson_100 : decode cX9_setPerson 100 = .ok (.iadd, 1) := by decide +kernel
theorem dX9_setPerson_101 : decode cX9_setPerson 101 = .ok (.iconst 2, 1) := by decide +kernel
theorem dX9_setPerson_102 : decode cX9_setPerson 102 = .ok (.iadd, 1) := by decide +kernel
theorem dX9_setPerson_103 : decode cX9_setPerson 103 = .ok (.iload 4, 2) := by decide +kernel
theorem dX9_setPerson_105 : decode cX9_setPerson 105 = .ok (.iastore, 1) := by decide +kernel
theorem dX9_setPerson_106 : decode cX9_setPerson 106 = .ok (.return_, 1) := by decide +kernel
theorem c_X9_setPerson {a0 : Nat} {a1 : Int32} {a2 : Int32} {a3 : Int32} {a4 : Int32} : CWp S N d MX9_setPerson [.ref a0, .int a1, .int a2, .int a3, .int a4] I J P Q ↔ Wp S N d MX9_setPerson 0 [some (.ref a0), some (.int a1), some (.int a2), some (.int a3), some (.int a4)] [] I J P Q := by
  rw [cwp_iff]
  exact ⟨fun h => h.2, fun h => ⟨Nat.le_of_ble_eq_true rfl, h⟩⟩
theorem e_X9_setPerson_0 {w : Nat} {x1 x2 x3 x4 : Option Value} : Wp S N d MX9_setPerson 0 [some (.ref w), x1, x2, x3, x4] [] I J P Q ↔ Wp S N d MX9_setPerson 1 [some (.ref w), x1, x2, x3, x4] [.ref w] I J P Q := wp_lod (len := 1) rfl rfl rfl rfl dX9_setPerson_0
theorem e_X9_setPerson_1 {v0 : Nat} {w : Int32} {x0 x2 x3 x4 : Option Value} : Wp S N d MX9_setPerson 1 [x0, some (.int w), x2, x3, x4] [.ref v0] I J P Q ↔ Wp S N d MX9_setPerson 2 [x0, some (.int w), x2, x3, x4] [.int w, .ref v0] I J P Q := wp_lod (len := 1) rfl rfl rfl rfl dX9_setPerson_1
theorem e_X9_setPerson_2 {v0 : Int32} {v1 : Nat} {x0 x1 x2 x3 x4 : Option Value} : Wp S N (d + 1) MX9_setPerson 2 [x0, x1, x2, x3, x4] [.int v0, .ref v1] I J P Q ↔ CWp S N d MX9_isPerson [.int v0] I J P (fun r I1 J1 P1 => Wp S N (d + 1) MX9_setPerson 5 [x0, x1, x2, x3, x4] (r.toList ++ [.ref v1]) I1 J1 P1 Q) := wp_callS (M' := MX9_isPerson) (As := [.int v0]) rfl rfl rfl rfl (Nat.le_of_ble_eq_true rfl) dX9_setPerson_2
theorem e_X9_setPerson_5 {v0 : Int32} {v1 : Nat} {x0 x1 x2 x3 x4 : Option Value} : Wp S N d MX9_setPerson 5 [x0, x1, x2, x3, x4] [.int v0, .ref v1] I J P Q ↔ (v0 = 0 → Wp S N d MX9_setPerson 49 [x0, x1, x2, x3, x4] [.ref v1] I J P Q) ∧ (¬ v0 = 0 → Wp S N d MX9_setPerson 8 [x0, x1, x2, x3, x4] [.ref v1] I J P Q) := wp_br rfl rfl (by decide) dX9_setPerson_5
theorem e_X9_setPerson_8 {v0 : Nat} {w : Int32} {x0 x1 x3 x4 : Option Value} : Wp S N d MX9_setPerson 8 [x0, x1, some (.int w), x3, x4] [.ref v0] I J P Q ↔ Wp S N d MX9_setPerson 9 [x0, x1, some (.int w), x3, x4] [.int w, .ref v0] I J P Q := wp_lod (len := 1) rfl rfl rfl rfl dX9_setPerson_8
theorem e_X9_setPerson_9 {v0 : Int32} {v1 : Nat} {x0 x1 x2 x3 x4 : Option Value} : Wp S N d MX9_setPerson 9 [x0, x1, x2, x3, x4] [.int v0, .ref v1] I J P Q ↔ Wp S N d MX9_setPerson 10 [x0, x1, x2, x3, x4] [.int 0, .int v0, .ref v1] I J P Q := wp_iconst (by decide) dX9_setPerson_9
theorem e_X9_setPerson_10 {v0 : Int32} {v1 : Int32} {v2 : Nat} {x0 x1 x2 x3 x4 : Option Value} : Wp S N d MX9_setPerson 10 [x0, x1, x2, x3, x4] [.int v0, .int v1, .ref v2] I J P Q ↔ Wp S N d MX9_setPerson 13 [x0, x1, x2, x3, x4] [.int 9999, .int v0, .int v1, .ref v2] I J P Q := wp_sipush (by decide) dX9_setPerson_10
theorem e_X9_setPerson_13 {v0 : Int32} {v1 : Int32} {v2 : Int32} {v3 : Nat} {x0 x1 x2 x3 x4 : Option Value} : Wp S N (d + 1) MX9_setPerson 13 [x0, x1, x2, x3, x4] [.int v0, .int v1, .int v2, .ref v3] I J P Q ↔ CWp S N d MX9_in [.int v2, .int v1, .int v0] I J P (fun r I1 J1 P1 => Wp S N (d + 1) MX9_setPerson 16 [x0, x1, x2, x3, x4] (r.toList ++ [.ref v3]) I1 J1 P1 Q) := wp_callS (M' := MX9_in) (As := [.int v2, .int v1, .int v0]) rfl rfl rfl rfl (Nat.le_of_ble_eq_true rfl) dX9_setPerson_13
theorem e_X9_setPerson_16 {v0 : Int32} {v1 : Nat} {x0 x1 x2 x3 x4 : Option Value} : Wp S N d MX9_setPerson 16 [x0, x1, x2, x3, x4] [.int v0, .ref v1] I J P Q ↔ (v0 = 0 → Wp S N d MX9_setPerson 45 [x0, x1, x2, x3, x4] [.ref v1] I J P Q) ∧ (¬ v0 = 0 → Wp S N d MX9_setPerson 19 [x0, x1, x2, x3, x4] [.ref v1] I J P Q) := wp_br rfl rfl (by decide) dX9_setPerson_16
theorem e_X9_setPerson_19 {v0 : Nat} {w : Int32} {x0 x1 x2 x4 : Option Value} : Wp S N d MX9_setPerson 19 [x0, x1, x2, some (.int w), x4] [.ref v0] I J P Q ↔ Wp S N d MX9_setPerson 20 [x0, x1, x2, some (.int w), x4] [.int w, .ref v0] I J P Q := wp_lod (len := 1) rfl rfl rfl rfl dX9_setPerson_19
theorem e_X9_setPerson_20 {v0 : Int32} {v1 : Nat} {x0 x1 x2 x3 x4 : Option Value} : Wp S N d MX9_setPerson 20 [x0, x1, x2, x3, x4] [.int v0, .ref v1] I J P Q ↔ Wp S N d MX9_setPerson 21 [x0, x1, x2, x3, x4] [.int 0, .int v0, .ref v1] I J P Q := wp_iconst (by decide) dX9_setPerson_20
theorem e_X9_setPerson_21 {v0 : Int32} {v1 : Int32} {v2 : Nat} {x0 x1 x2 x3 x4 : Option Value} : Wp S N d MX9_setPerson 21 [x0, x1, x2, x3, x4] [.int v0, .int v1, .ref v2] I J P Q ↔ Wp S N d MX9_setPerson 24 [x0, x1, x2, x3, x4] [.int 9999, .int v0, .int v1, .ref v2] I J P Q := wp_sipush (by decide) dX9_setPerson_21
theorem e_X9_setPerson_24 {v0 : Int32} {v1 : Int32} {v2 : Int32} {v3 : Nat} {x0 x1 x2 x3 x4 : Option Value} : Wp S N (d + 1) MX9_setPerson 24 [x0, x1, x2, x3, x4] [.int v0, .int v1, .int v2, .ref v3] I J P Q ↔ CWp S N d MX9_in [.int v2, .int v1, .int v0] I J P (fun r I1 J1 P1 => Wp S N (d + 1) MX9_setPerson 27 [x0, x1, x2, x3, x4] (r.toList ++ [.ref v3]) I1 J1 P1 Q) := wp_callS (M' := MX9_in) (As := [.int v2, .int v1, .int v0]) rfl rfl rfl rfl (Nat.le_of_ble_eq_true rfl) dX9_setPerson_24
theorem e_X9_setPerson_27 {v0 : Int32} {v1 : Nat} {x0 x1 x2 x3 x4 : Option Value} : Wp S N d MX9_setPerson 27 [x0, x1, x2, x3, x4] [.int v0, .ref v1] I J P Q ↔ (v0 = 0 → Wp S N d MX9_setPerson 45 [x0, x1, x2, x3, x4] [.ref v1] I J P Q) ∧ (¬ v0 = 0 → Wp S N d MX9_setPerson 30 [x0, x1, x2, x3, x4] [.ref v1] I J P Q) := wp_br rfl rfl (by decide) dX9_setPerson_27
theorem e_X9_setPerson_30 {v0 : Nat} {w : Int32} {x0 x1 x2 x3 : Option Value} : Wp S N d MX9_setPerson 30 [x0, x1, x2, x3, some (.int w)] [.ref v0] I J P Q ↔ Wp S N d MX9_setPerson 32 [x0, x1, x2, x3, some (.int w)] [.int w, .ref v0] I J P Q := wp_lod (len := 2) rfl rfl rfl rfl dX9_setPerson_30
theorem e_X9_setPerson_32 {v0 : Int32} {v1 : Nat} {x0 x1 x2 x3 x4 : Option Value} : Wp S N d MX9_setPerson 32 [x0, x1, x2, x3, x4] [.int v0, .ref v1] I J P Q ↔ Wp S N d MX9_setPerson 33 [x0, x1, x2, x3, x4] [.int 0, .int v0, .ref v1] I J P Q := wp_iconst (by decide) dX9_setPerson_32
theorem e_X9_setPerson_33 {v0 : Int32} {v1 : Int32} {v2 : Nat} {x0 x1 x2 x3 x4 : Option Value} : Wp S N d MX9_setPerson 33 [x0, x1, x2, x3, x4] [.int v0, .int v1, .ref v2] I J P Q ↔ Wp S N d MX9_setPerson 35 [x0, x1, x2, x3, x4] [.int 9, .int v0, .int v1, .ref v2] I J P Q := wp_bipush (by decide) dX9_setPerson_33
theorem e_X9_setPerson_35 {v0 : Int32} {v1 : Int32} {v2 : Int32} {v3 : Nat} {x0 x1 x2 x3 x4 : Option Value} : Wp S N (d + 1) MX9_setPerson 35 [x0, x1, x2, x3, x4] [.int v0, .int v1, .int v2, .ref v3] I J P Q ↔ CWp S N d MX9_in [.int v2, .int v1, .int v0] I J P (fun r I1 J1 P1 => Wp S N (d + 1) MX9_setPerson 38 [x0, x1, x2, x3, x4] (r.toList ++ [.ref v3]) I1 J1 P1 Q) := wp_callS (M' := MX9_in) (As := [.int v2, .int v1, .int v0]) rfl rfl rfl rfl (Nat.le_of_ble_eq_true rfl) dX9_setPerson_35
theorem e_X9_setPerson_38 {v0 : Int32} {v1 : Nat} {x0 x1 x2 x3 x4 : Option Value} : Wp S N d MX9_setPerson 38 [x0, x1, x2, x3, x4] [.int v0, .ref v1] I J P Q ↔ (v0 = 0 → Wp S N d MX9_setPerson 45 [x0, x1, x2, x3, x4] [.ref v1] I J P Q) ∧ (¬ v0 = 0 → Wp S N d MX9_setPerson 41 [x0, x1, x2, x3, x4] [.ref v1] I J P Q) := wp_br rfl rfl (by decide) dX9_setPerson_38
theorem e_X9_setPerson_41 {v0 : Nat} {x0 x1 x2 x3 x4 : Option Value} : Wp S N d MX9_setPerson 41 [x0, x1, x2, x3, x4] [.ref v0] I J P Q ↔ Wp S N d MX9_setPerson 42 [x0, x1, x2, x3, x4] [.int 0, .ref v0] I J P Q := wp_iconst (by decide) dX9_setPerson_41
theorem e_X9_setPerson_42 {v0 : Int32} {v1 : Nat} {x0 x1 x2 x3 x4 : Option Value} : Wp S N d MX9_setPerson 42 [x0, x1, x2, x3, x4] [.int v0, .ref v1] I J P Q ↔ Wp S N d MX9_setPerson 50 [x0, x1, x2, x3, x4] [.int v0, .ref v1] I J P Q := wp_go (len := 3) rfl (fun _ _ => rfl) rfl (by decide) dX9_setPerson_42
theorem e_X9_setPerson_45 {v0 : Nat} {x0 x1 x2 x3 x4 : Option Value} : Wp S N d MX9_setPerson 45 [x0, x1, x2, x3, x4] [.ref v0] I J P Q ↔ Wp S N d MX9_setPerson 46 [x0, x1, x2, x3, x4] [.int 2, .ref v0] I J P Q := wp_iconst (by decide) dX9_setPerson_45
theorem e_X9_setPerson_46 {v0 : Int32} {v1 : Nat} {x0 x1 x2 x3 x4 : Option Value} : Wp S N d MX9_setPerson 46 [x0, x1, x2, x3, x4] [.int v0, .ref v1] I J P Q ↔ Wp S N d MX9_setPerson 50 [x0, x1, x2, x3, x4] [.int v0, .ref v1] I J P Q := wp_go (len := 3) rfl (fun _ _ => rfl) rfl (by decide) dX9_setPerson_46
theorem e_X9_setPerson_49 {v0 : Nat} {x0 x1 x2 x3 x4 : Option Value} : Wp S N d MX9_setPerson 49 [x0, x1, x2, x3, x4] [.ref v0] I J P Q ↔ Wp S N d MX9_setPerson 50 [x0, x1, x2, x3, x4] [.int 1, .ref v0] I J P Q := wp_iconst (by decide) dX9_setPerson_49
theorem e_X9_setPerson_50 {v0 : Int32} {v1 : Nat} {x0 x1 x2 x3 x4 : Option Value} : Wp S N d MX9_setPerson 50 [x0, x1, x2, x3, x4] [.int v0, .ref v1] I J P Q ↔ S v1 = 9 ∧ Wp S N d MX9_setPerson 53 [x0, x1, x2, x3, x4] [] (u2 I v1 8 v0) J P Q := wp_putI rfl rfl rfl rfl dX9_setPerson_50
theorem e_X9_setPerson_53 {w : Nat} {x1 x2 x3 x4 : Option Value} : Wp S N d MX9_setPerson 53 [some (.ref w), x1, x2, x3, x4] [] I J P Q ↔ Wp S N d MX9_setPerson 54 [some (.ref w), x1, x2, x3, x4] [.ref w] I J P Q := wp_lod (len := 1) rfl rfl rfl rfl dX9_setPerson_53
theorem e_X9_setPerson_54 {v0 : Nat} {x0 x1 x2 x3 x4 : Option Value} : Wp S N d MX9_setPerson 54 [x0, x1, x2, x3, x4] [.ref v0] I J P Q ↔ S v0 = 9 ∧ Wp S N d MX9_setPerson 57 [x0, x1, x2, x3, x4] [.int (I v0 8)] I J P Q := wp_getf rfl rfl rfl rfl dX9_setPerson_54
theorem e_X9_setPerson_57 {v0 : Int32} {x0 x1 x2 x3 x4 : Option Value} : Wp S N d MX9_setPerson 57 [x0, x1, x2, x3, x4] [.int v0] I J P Q ↔ (v0 ≤ 0 → Wp S N d MX9_setPerson 61 [x0, x1, x2, x3, x4] [] I J P Q) ∧ (¬ v0 ≤ 0 → Wp S N d MX9_setPerson 60 [x0, x1, x2, x3, x4] [] I J P Q) := wp_br rfl rfl (by decide) dX9_setPerson_57
theorem e_X9_setPerson_60  {x0 x1 x2 x3 x4 : Option Value} : Wp S N d MX9_setPerson 60 [x0, x1, x2, x3, x4] [] I J P Q ↔ Q none I J P := wp_vret rfl dX9_setPerson_60
theorem e_X9_setPerson_61 {w : Nat} {x1 x2 x3 x4 : Option Value} : Wp S N d MX9_setPerson 61 [some (.ref w), x1, x2, x3, x4] [] I J P Q ↔ Wp S N d MX9_setPerson 62 [some (.ref w), x1, x2, x3, x4] [.ref w] I J P Q := wp_lod (len := 1) rfl rfl rfl rfl dX9_setPerson_61
theorem e_X9_setPerson_62 {v0 : Nat} {x0 x1 x2 x3 x4 : Option Value} : Wp S N (d + 1) MX9_setPerson 62 [x0, x1, x2, x3, x4] [.ref v0] I J P Q ↔ S v0 = 9 ∧ CWp S N d MX9_changes [.ref v0] I J P (fun r I1 J1 P1 => Wp S N (d + 1) MX9_setPerson 65 [x0, x1, x2, x3, x4] (r.toList ++ []) I1 J1 P1 Q) := wp_callV (M' := MX9_changes) (As := []) rfl rfl rfl rfl (by decide) (Nat.le_of_ble_eq_true rfl) dX9_setPerson_62
theorem e_X9_setPerson_65 {w : Nat} {x1 x2 x3 x4 : Option Value} : Wp S N d MX9_setPerson 65 [some (.ref w), x1, x2, x3, x4] [] I J P Q ↔ Wp S N d MX9_setPerson 66 [some (.ref w), x1, x2, x3, x4] [.ref w] I J P Q := wp_lod (len := 1) rfl rfl rfl rfl dX9_setPerson_65
theorem e_X9_setPerson_66 {v0 : Nat} {x0 x1 x2 x3 x4 : Option Value} : Wp S N d MX9_setPerson 66 [x0, x1, x2, x3, x4] [.ref v0] I J P Q ↔ S v0 = 9 ∧ Wp S N d MX9_setPerson 69 [x0, x1, x2, x3, x4] [va_rf (P v0 0)] I J P Q := wp_getf rfl rfl rfl rfl dX9_setPerson_66
theorem e_X9_setPerson_69 {v0 : Nat} {x0 x1 x2 x3 x4 : Option Value} : Wp S N d MX9_setPerson 69 [x0, x1, x2, x3, x4] [.ref v0] I J P Q ↔ Wp S N d MX9_setPerson 71 [x0, x1, x2, x3, x4] [.int 64, .ref v0] I J P Q := wp_bipush (by decide) dX9_setPerson_69
theorem e_X9_setPerson_71 {v0 : Int32} {v1 : Nat} {x0 x1 x2 x3 x4 : Option Value} : Wp S N d MX9_setPerson 71 [x0, x1, x2, x3, x4] [.int v0, .ref v1] I J P Q ↔ Wp S N d MX9_setPerson 72 [x0, x1, x2, x3, x4] [.int 3, .int v0, .ref v1] I J P Q := wp_iconst (by decide) dX9_setPerson_71
theorem e_X9_setPerson_72 {v0 : Int32} {v1 : Int32} {v2 : Nat} {w : Int32} {x0 x2 x3 x4 : Option Value} : Wp S N d MX9_setPerson 72 [x0, some (.int w), x2, x3, x4] [.int v0, .int v1, .ref v2] I J P Q ↔ Wp S N d MX9_setPerson 73 [x0, some (.int w), x2, x3, x4] [.int w, .int v0, .int v1, .ref v2] I J P Q := wp_lod (len := 1) rfl rfl rfl rfl dX9_setPerson_72
theorem e_X9_setPerson_73 {v0 : Int32} {v1 : Int32} {v2 : Int32} {v3 : Nat} {x0 x1 x2 x3 x4 : Option Value} : Wp S N d MX9_setPerson 73 [x0, x1, x2, x3, x4] [.int v0, .int v1, .int v2, .ref v3] I J P Q ↔ Wp S N d MX9_setPerson 74 [x0, x1, x2, x3, x4] [.int (v1 * v0), .int v2, .ref v3] I J P Q := wp_alu (len := 1) rfl rfl rfl dX9_setPerson_73
theorem e_X9_setPerson_74 {v0 : Int32} {v1 : Int32} {v2 : Nat} {x0 x1 x2 x3 x4 : Option Value} : Wp S N d MX9_setPerson 74 [x0, x1, x2, x3, x4] [.int v0, .int v1, .ref v2] I J P Q ↔ Wp S N d MX9_setPerson 75 [x0, x1, x2, x3, x4] [.int (v1 + v0), .ref v2] I J P Q := wp_alu (len := 1) rfl rfl rfl dX9_setPerson_74
theorem e_X9_setPerson_75 {v0 : Int32} {v1 : Nat} {w : Int32} {x0 x1 x3 x4 : Option Value} : Wp S N d MX9_setPerson 75 [x0, x1, some (.int w), x3, x4] [.int v0, .ref v1] I J P Q ↔ Wp S N d MX9_setPerson 76 [x0, x1, some (.int w), x3, x4] [.int w, .int v0, .ref v1] I J P Q := wp_lod (len := 1) rfl rfl rfl rfl dX9_setPerson_75
theorem e_X9_setPerson_76 {v0 : Int32} {v1 : Int32} {v2 : Nat} {x0 x1 x2 x3 x4 : Option Value} : Wp S N d MX9_setPerson 76 [x0, x1, x2, x3, x4] [.int v0, .int v1, .ref v2] I J P Q ↔ (S v2 = 10 ∧ vp_in v1 (N v2)) ∧ Wp S N d MX9_setPerson 77 [x0, x1, x2, x3, x4] [] (u2 I v2 v1.toNatClampNeg v0) J P Q := wp_ast rfl rfl dX9_setPerson_76
theorem e_X9_setPerson_77 {w : Nat} {x1 x2 x3 x4 : Option Value} : Wp S N d MX9_setPerson 77 [some (.ref w), x1, x2, x3, x4] [] I J P Q ↔ Wp S N d MX9_setPerson 78 [some (.ref w), x1, x2, x3, x4] [.ref w] I J P Q := wp_lod (len := 1) rfl rfl rfl rfl dX9_setPerson_77
theorem e_X9_setPerson_78 {v0 : Nat} {x0 x1 x2 x3 x4 : Option Value} : Wp S N d MX9_setPerson 78 [x0, x1, x2, x3, x4] [.ref v0] I J P Q ↔ S v0 = 9 ∧ Wp S N d MX9_setPerson 81 [x0, x1, x2, x3, x4] [va_rf (P v0 0)] I J P Q := wp_getf rfl rfl rfl rfl dX9_setPerson_78
theorem e_X9_setPerson_81 {v0 : Nat} {x0 x1 x2 x3 x4 : Option Value} : Wp S N d MX9_setPerson 81 [x0, x1, x2, x3, x4] [.ref v0] I J P Q ↔ Wp S N d MX9_setPerson 83 [x0, x1, x2, x3, x4] [.int 64, .ref v0] I J P Q := wp_bipush (by decide) dX9_setPerson_81
theorem e_X9_setPerson_83 {v0 : Int32} {v1 : Nat} {x0 x1 x2 x3 x4 : Option Value} : Wp S N d MX9_setPerson 83 [x0, x1, x2, x3, x4] [.int v0, .ref v1] I J P Q ↔ Wp S N d MX9_setPerson 84 [x0, x1, x2, x3, x4] [.int 3, .int v0, .ref v1] I J P Q := wp_iconst (by decide) dX9_setPerson_83
theorem e_X9_setPerson_84 {v0 : Int32} {v1 : Int32} {v2 : Nat} {w : Int32} {x0 x2 x3 x4 : Option Value} : Wp S N d MX9_setPerson 84 [x0, some (.int w), x2, x3, x4] [.int v0, .int v1, .ref v2] I J P Q ↔ Wp S N d MX9_setPerson 85 [x0, some (.int w), x2, x3, x4] [.int w, .int v0, .int v1, .ref v2] I J P Q := wp_lod (len := 1) rfl rfl rfl rfl dX9_setPerson_84
theorem e_X9_setPerson_85 {v0 : Int32} {v1 : Int32} {v2 : Int32} {v3 : Nat} {x0 x1 x2 x3 x4 : Option Value} : Wp S N d MX9_setPerson 85 [x0, x1, x2, x3, x4] [.int v0, .int v1, .int v2, .ref v3] I J P Q ↔ Wp S N d MX9_setPerson 86 [x0, x1, x2, x3, x4] [.int (v1 * v0), .int v2, .ref v3] I J P Q := wp_alu (len := 1) rfl rfl rfl dX9_setPerson_85
theorem e_X9_setPerson_86 {v0 : Int32} {v1 : Int32} {v2 : Nat} {x0 x1 x2 x3 x4 : Option Value} : Wp S N d MX9_setPerson 86 [x0, x1, x2, x3, x4] [.int v0, .int v1, .ref v2] I J P Q ↔ Wp S N d MX9_setPerson 87 [x0, x1, x2, x3, x4] [.int (v1 + v0), .ref v2] I J P Q := wp_alu (len := 1) rfl rfl rfl dX9_setPerson_86
theorem e_X9_setPerson_87 {v0 : Int32} {v1 : Nat} {x0 x1 x2 x3 x4 : Option Value} : Wp S N d MX9_setPerson 87 [x0, x1, x2, x3, x4] [.int v0, .ref v1] I J P Q ↔ Wp S N d MX9_setPerson 88 [x0, x1, x2, x3, x4] [.int 1, .int v0, .ref v1] I J P Q := wp_iconst (by decide) dX9_setPerson_87
theorem e_X9_setPerson_88 {v0 : Int32} {v1 : Int32} {v2 : Nat} {x0 x1 x2 x3 x4 : Option Value} : Wp S N d MX9_setPerson 88 [x0, x1, x2, x3, x4] [.int v0, .int v1, .ref v2] I J P Q ↔ Wp S N d MX9_setPerson 89 [x0, x1, x2, x3, x4] [.int (v1 + v0), .ref v2] I J P Q := wp_alu (len := 1) rfl rfl rfl dX9_setPerson_88
theorem e_X9_setPerson_89 {v0 : Int32} {v1 : Nat} {w : Int32} {x0 x1 x2 x4 : Option Value} : Wp S N d MX9_setPerson 89 [x0, x1, x2, some (.int w), x4] [.int v0, .ref v1] I J P Q ↔ Wp S N d MX9_setPerson 90 [x0, x1, x2, some (.int w), x4] [.int w, .int v0, .ref v1] I J P Q := wp_lod (len := 1) rfl rfl rfl rfl dX9_setPerson_89
theorem e_X9_setPerson_90 {v0 : Int32} {v1 : Int32} {v2 : Nat} {x0 x1 x2 x3 x4 : Option Value} : Wp S N d MX9_setPerson 90 [x0, x1, x2, x3, x4] [.int v0, .int v1, .ref v2] I J P Q ↔ (S v2 = 10 ∧ vp_in v1 (N v2)) ∧ Wp S N d MX9_setPerson 91 [x0, x1, x2, x3, x4] [] (u2 I v2 v1.toNatClampNeg v0) J P Q := wp_ast rfl rfl dX9_setPerson_90
theorem e_X9_setPerson_91 {w : Nat} {x1 x2 x3 x4 : Option Value} : Wp S N d MX9_setPerson 91 [some (.ref w), x1, x2, x3, x4] [] I J P Q ↔ Wp S N d MX9_setPerson 92 [some (.ref w), x1, x2, x3, x4] [.ref w] I J P Q := wp_lod (len := 1) rfl rfl rfl rfl dX9_setPerson_91
theorem e_X9_setPerson_92 {v0 : Nat} {x0 x1 x2 x3 x4 : Option Value} : Wp S N d MX9_setPerson 92 [x0, x1, x2, x3, x4] [.ref v0] I J P Q ↔ S v0 = 9 ∧ Wp S N d MX9_setPerson 95 [x0, x1, x2, x3, x4] [va_rf (P v0 0)] I J P Q := wp_getf rfl rfl rfl rfl dX9_setPerson_92
theorem e_X9_setPerson_95 {v0 : Nat} {x0 x1 x2 x3 x4 : Option Value} : Wp S N d MX9_setPerson 95 [x0, x1, x2, x3, x4] [.ref v0] I J P Q ↔ Wp S N d MX9_setPerson 97 [x0, x1, x2, x3, x4] [.int 64, .ref v0] I J P Q := wp_bipush (by decide) dX9_setPerson_95
theorem e_X9_setPerson_97 {v0 : Int32} {v1 : Nat} {x0 x1 x2 x3 x4 : Option Value} : Wp S N d MX9_setPerson 97 [x0, x1, x2, x3, x4] [.int v0, .ref v1] I J P Q ↔ Wp S N d MX9_setPerson 98 [x0, x1, x2, x3, x4] [.int 3, .int v0, .ref v1] I J P Q := wp_iconst (by decide) dX9_setPerson_97
theorem e_X9_setPerson_98 {v0 : Int32} {v1 : Int32} {v2 : Nat} {w : Int32} {x0 x2 x3 x4 : Option Value} : Wp S N d MX9_setPerson 98 [x0, some (.int w), x2, x3, x4] [.int v0, .int v1, .ref v2] I J P Q ↔ Wp S N d MX9_setPerson 99 [x0, some (.int w), x2, x3, x4] [.int w, .int v0, .int v1, .ref v2] I J P Q := wp_lod (len := 1) rfl rfl rfl rfl dX9_setPerson_98
theorem e_X9_setPerson_99 {v0 : Int32} {v1 : Int32} {v2 : Int32} {v3 : Nat} {x0 x1 x2 x3 x4 : Option Value} : Wp S N d MX9_setPerson 99 [x0, x1, x2, x3, x4] [.int v0, .int v1, .int v2, .ref v3] I J P Q ↔ Wp S N d MX9_setPerson 100 [x0, x1, x2, x3, x4] [.int (v1 * v0), .int v2, .ref v3] I J P Q := wp_alu (len := 1) rfl rfl rfl dX9_setPerson_99
theorem e_X9_setPerson_100 {v0 : Int32} {v1 : Int32} {v2 : Nat} {x0 x1 x2 x3 x4 : Option Value} : Wp S N d MX9_setPerson 100 [x0, x1, x2, x3, x4] [.int v0, .int v1, .ref v2] I J P Q ↔ Wp S N d MX9_setPerson 101 [x0, x1, x2, x3, x4] [.int (v1 + v0), .ref v2] I J P Q := wp_alu (len := 1) rfl rfl rfl dX9_setPerson_100
theorem e_X9_setPerson_101 {v0 : Int32} {v1 : Nat} {x0 x1 x2 x3 x4 : Option Value} : Wp S N d MX9_setPerson 101 [x0, x1, x2, x3, x4] [.int v0, .ref v1] I J P Q ↔ Wp S N d MX9_setPerson 102 [x0, x1, x2, x3, x4] [.int 2, .int v0, .ref v1] I J P Q := wp_iconst (by decide) dX9_setPerson_101
theorem e_X9_setPerson_102 {v0 : Int32} {v1 : Int32} {v2 : Nat} {x0 x1 x2 x3 x4 : Option Value} : Wp S N d MX9_setPerson 102 [x0, x1, x2, x3, x4] [.int v0, .int v1, .ref v2] I J P Q ↔ Wp S N d MX9_setPerson 103 [x0, x1, x2, x3, x4] [.int (v1 + v0), .ref v2] I J P Q := wp_alu (len := 1) rfl rfl rfl dX9_setPerson_102
theorem e_X9_setPerson_103 {v0 : Int32} {v1 : Nat} {w : Int32} {x0 x1 x2 x3 : Option Value} : Wp S N d MX9_setPerson 103 [x0, x1, x2, x3, some (.int w)] [.int v0, .ref v1] I J P Q ↔ Wp S N d MX9_setPerson 105 [x0, x1, x2, x3, some (.int w)] [.int w, .int v0, .ref v1] I J P Q := wp_lod (len := 2) rfl rfl rfl rfl dX9_setPerson_103
theorem e_X9_setPerson_105 {v0 : Int32} {v1 : Int32} {v2 : Nat} {x0 x1 x2 x3 x4 : Option Value} : Wp S N d MX9_setPerson 105 [x0, x1, x2, x3, x4] [.int v0, .int v1, .ref v2] I J P Q ↔ (S v2 = 10 ∧ vp_in v1 (N v2)) ∧ Wp S N d MX9_setPerson 106 [x0, x1, x2, x3, x4] [] (u2 I v2 v1.toNatClampNeg v0) J P Q := wp_ast rfl rfl dX9_setPerson_105
theorem e_X9_setPerson_106  {x0 x1 x2 x3 x4 : Option Value} : Wp S N d MX9_setPerson 106 [x0, x1, x2, x3, x4] [] I J P Q ↔ Q none I J P := wp_vret rfl dX9_setPerson_106
theorem dX9_of_0 : decode cX9_of 0 = .ok (.aload_n 0, 1) := by decide +kernel
theorem dX9_of_1 : decode cX9_of 1 = .ok (.getfield 7, 3) := by decide +kernel
theorem dX9_of_4 : decode cX9_of 4 = .ok (.bipush 64, 2) := by decide +kernel
theorem dX9_of_6 : decode cX9_of 6 = .ok (.iconst 3, 1) := by decide +kernel
theorem dX9_of_7 : decode cX9_of 7 = .ok (.iload_n 1, 1) := by decide +kernel
theorem dX9_of_8 : decode cX9_of 8 = .ok (.imul, 1) := by decide +kernel
theorem dX9_of_9 : decode cX9_of 9 = .ok (.iadd, 1) := by decide +kernel
theorem dX9_of_10 : decode cX9_of 10 = .ok (.iload_n 2, 1) := by decide +kernel
theorem dX9_of_11 : decode cX9_of 11 = .ok (.iadd, 1) := by decide +kernel
theorem dX9_of_12 : decode cX9_of 12 = .ok (.iaload, 1) := by decide +kernel
theorem dX9_of_13 : decode cX9_of 13 = .ok (.ireturn, 1) := by decide +kernel
theorem c_X9_of {a0 : Nat} {a1 : Int32} {a2 : Int32} : CWp S N d MX9_of [.ref a0, .int a1, .int a2] I J P Q ↔ Wp S N d MX9_of 0 [some (.ref a0), some (.int a1), some (.int a2)] [] I J P Q := by
  rw [cwp_iff]
  exact ⟨fun h => h.2, fun h => ⟨Nat.le_of_ble_eq_true rfl, h⟩⟩
theorem e_X9_of_0 {w : Nat} {x1 x2 : Option Value} : Wp S N d MX9_of 0 [some (.ref w), x1, x2] [] I J P Q ↔ Wp S N d MX9_of 1 [some (.ref w), x1, x2] [.ref w] I J P Q := wp_lod (len := 1) rfl rfl rfl rfl dX9_of_0
theorem e_X9_of_1 {v0 : Nat} {x0 x1 x2 : Option Value} : Wp S N d MX9_of 1 [x0, x1, x2] [.ref v0] I J P Q ↔ S v0 = 9 ∧ Wp S N d MX9_of 4 [x0, x1, x2] [va_rf (P v0 0)] I J P Q := wp_getf rfl rfl rfl rfl dX9_of_1
theorem e_X9_of_4 {v0 : Nat} {x0 x1 x2 : Option Value} : Wp S N d MX9_of 4 [x0, x1, x2] [.ref v0] I J P Q ↔ Wp S N d MX9_of 6 [x0, x1, x2] [.int 64, .ref v0] I J P Q := wp_bipush (by decide) dX9_of_4
theorem e_X9_of_6 {v0 : Int32} {v1 : Nat} {x0 x1 x2 : Option Value} : Wp S N d MX9_of 6 [x0, x1, x2] [.int v0, .ref v1] I J P Q ↔ Wp S N d MX9_of 7 [x0, x1, x2] [.int 3, .int v0, .ref v1] I J P Q := wp_iconst (by decide) dX9_of_6
theorem e_X9_of_7 {v0 : Int32} {v1 : Int32} {v2 : Nat} {w : Int32} {x0 x2 : Option Value} : Wp S N d MX9_of 7 [x0, some (.int w), x2] [.int v0, .int v1, .ref v2] I J P Q ↔ Wp S N d MX9_of 8 [x0, some (.int w), x2] [.int w, .int v0, .int v1, .ref v2] I J P Q := wp_lod (len := 1) rfl rfl rfl rfl dX9_of_7
theorem e_X9_of_8 {v0 : Int32} {v1 : Int32} {v2 : Int32} {v3 : Nat} {x0 x1 x2 : Option Value} : Wp S N d MX9_of 8 [x0, x1, x2] [.int v0, .int v1, .int v2, .ref v3] I J P Q ↔ Wp S N d MX9_of 9 [x0, x1, x2] [.int (v1 * v0), .int v2, .ref v3] I J P Q := wp_alu (len := 1) rfl rfl rfl dX9_of_8
theorem e_X9_of_9 {v0 : Int32} {v1 : Int32} {v2 : Nat} {x0 x1 x2 : Option Value} : Wp S N d MX9_of 9 [x0, x1, x2] [.int v0, .int v1, .ref v2] I J P Q ↔ Wp S N d MX9_of 10 [x0, x1, x2] [.int (v1 + v0), .ref v2] I J P Q := wp_alu (len := 1) rfl rfl rfl dX9_of_9
theorem e_X9_of_10 {v0 : Int32} {v1 : Nat} {w : Int32} {x0 x1 : Option Value} : Wp S N d MX9_of 10 [x0, x1, some (.int w)] [.int v0, .ref v1] I J P Q ↔ Wp S N d MX9_of 11 [x0, x1, some (.int w)] [.int w, .int v0, .ref v1] I J P Q := wp_lod (len := 1) rfl rfl rfl rfl dX9_of_10
theorem e_X9_of_11 {v0 : Int32} {v1 : Int32} {v2 : Nat} {x0 x1 x2 : Option Value} : Wp S N d MX9_of 11 [x0, x1, x2] [.int v0, .int v1, .ref v2] I J P Q ↔ Wp S N d MX9_of 12 [x0, x1, x2] [.int (v1 + v0), .ref v2] I J P Q := wp_alu (len := 1) rfl rfl rfl dX9_of_11
theorem e_X9_of_12 {v0 : Int32} {v1 : Nat} {x0 x1 x2 : Option Value} : Wp S N d MX9_of 12 [x0, x1, x2] [.int v0, .ref v1] I J P Q ↔ (S v1 = 10 ∧ vp_in v0 (N v1)) ∧ Wp S N d MX9_of 13 [x0, x1, x2] [.int (I v1 v0.toNatClampNeg)] I J P Q := wp_ald rfl rfl dX9_of_12
theorem e_X9_of_13 {v0 : Int32} {x0 x1 x2 : Option Value} : Wp S N d MX9_of 13 [x0, x1, x2] [.int v0] I J P Q ↔ Q (some (.int v0)) I J P := wp_iret rfl dX9_of_13
theorem dX9_personData_0 : decode cX9_personData 0 = .ok (.aload_n 0, 1) := by decide +kernel
theorem dX9_personData_1 : decode cX9_personData 1 = .ok (.iload_n 1, 1) := by decide +kernel
theorem dX9_personData_2 : decode cX9_personData 2 = .ok (.invokestatic 140, 3) := by decide +kernel
theorem dX9_personData_5 : decode cX9_personData 5 = .ok (.ifCond .eq 20, 3) := by decide +kernel
theorem dX9_personData_8 : decode cX9_personData 8 = .ok (.iload_n 2, 1) := by decide +kernel
theorem dX9_personData_9 : decode cX9_personData 9 = .ok (.iconst 0, 1) := by decide +kernel
theorem dX9_personData_10 : decode cX9_personData 10 = .ok (.iconst 2, 1) := by decide +kernel
theorem dX9_personData_11 : decode cX9_personData 11 = .ok (.invokestatic 60, 3) := by decide +kernel
theorem dX9_personData_14 : decode cX9_personData 14 = .ok (.ifCond .eq 7, 3) := by decide +kernel
theorem dX9_personData_17 : decode cX9_personData 17 = .ok (.iconst 0, 1) := by decide +kernel
theorem dX9_personData_18 : decode cX9_personData 18 = .ok (.goto 8, 3) := by decide +kernel
theorem dX9_personData_21 : decode cX9_personData 21 = .ok (.iconst 2, 1) := by decide +kernel
theorem dX9_personData_22 : decode cX9_personData 22 = .ok (.goto 4, 3) := by decide +kernel
theorem dX9_personData_25 : decode cX9_personData 25 = .ok (.iconst 1, 1) := by decide +kernel
theorem dX9_personData_26 : decode cX9_personData 26 = .ok (.putfield 57, 3) := by decide +kernel
theorem dX9_personData_29 : decode cX9_personData 29 = .ok (.aload_n 0, 1) := by decide +kernel
theorem dX9_personData_30 : decode cX9_personData 30 = .ok (.getfield 57, 3) := by decide +kernel
theorem dX9_personData_33 : decode cX9_personData 33 = .ok (.ifCond .le 7, 3) := by decide +kernel
theorem dX9_personData_36 : decode cX9_personData 36 = .ok (.iconst 0, 1) := by decide +kernel
theorem dX9_personData_37 : decode cX9_personData 37 = .ok (.goto 9, 3) := by decide +kernel
theorem dX9_personData_40 : decode cX9_personData 40 = .ok (.aload_n 0, 1) := by decide +kernel
theorem dX9_personData_41 : decode cX9_personData 41 = .ok (.iload_n 1, 1) := by decide +kernel
theorem dX9_personData_42 : decode cX9_personData 42 = .ok (.iload_n 2, 1) := by decide +kernel
theorem dX9_personData_43 : decode cX9_personData 43 = .ok (.invokevirtual 143, 3) := by decide +kernel
theorem dX9_personData_46 : decode cX9_personData 46 = .ok (.ireturn, 1) := by decide +kernel
theorem c_X9_personData {a0 : Nat} {a1 : Int32} {a2 : Int32} : CWp S N d MX9_personData [.ref a0, .int a1, .int a2] I J P Q ↔ Wp S N d MX9_personData 0 [some (.ref a0), some (.int a1), some (.int a2)] [] I J P Q := by
  rw [cwp_iff]
  exact ⟨fun h => h.2, fun h => ⟨Nat.le_of_ble_eq_true rfl, h⟩⟩
theorem e_X9_personData_0 {w : Nat} {x1 x2 : Option Value} : Wp S N d MX9_personData 0 [some (.ref w), x1, x2] [] I J P Q ↔ Wp S N d MX9_personData 1 [some (.ref w), x1, x2] [.ref w] I J P Q := wp_lod (len := 1) rfl rfl rfl rfl dX9_personData_0
theorem e_X9_personData_1 {v0 : Nat} {w : Int32} {x0 x2 : Option Value} : Wp S N d MX9_personData 1 [x0, some (.int w), x2] [.ref v0] I J P Q ↔ Wp S N d MX9_personData 2 [x0, some (.int w), x2] [.int w, .ref v0] I J P Q := wp_lod (len := 1) rfl rfl rfl rfl dX9_personData_1
theorem e_X9_personData_2 {v0 : Int32} {v1 : Nat} {x0 x1 x2 : Option Value} : Wp S N (d + 1) MX9_personData 2 [x0, x1, x2] [.int v0, .ref v1] I J P Q ↔ CWp S N d MX9_isPerson [.int v0] I J P (fun r I1 J1 P1 => Wp S N (d + 1) MX9_personData 5 [x0, x1, x2] (r.toList ++ [.ref v1]) I1 J1 P1 Q) := wp_callS (M' := MX9_isPerson) (As := [.int v0]) rfl rfl rfl rfl (Nat.le_of_ble_eq_true rfl) dX9_personData_2
theorem e_X9_personData_5 {v0 : Int32} {v1 : Nat} {x0 x1 x2 : Option Value} : Wp S N d MX9_personData 5 [x0, x1, x2] [.int v0, .ref v1] I J P Q ↔ (v0 = 0 → Wp S N d MX9_personData 25 [x0, x1, x2] [.ref v1] I J P Q) ∧ (¬ v0 = 0 → Wp S N d MX9_personData 8 [x0, x1, x2] [.ref v1] I J P Q) := wp_br rfl rfl (by decide) dX9_personData_5
theorem e_X9_personData_8 {v0 : Nat} {w : Int32} {x0 x1 : Option Value} : Wp S N d MX9_personData 8 [x0, x1, some (.int w)] [.ref v0] I J P Q ↔ Wp S N d MX9_personData 9 [x0, x1, some (.int w)] [.int w, .ref v0] I J P Q := wp_lod (len := 1) rfl rfl rfl rfl dX9_personData_8
theorem e_X9_personData_9 {v0 : Int32} {v1 : Nat} {x0 x1 x2 : Option Value} : Wp S N d MX9_personData 9 [x0, x1, x2] [.int v0, .ref v1] I J P Q ↔ Wp S N d MX9_personData 10 [x0, x1, x2] [.int 0, .int v0, .ref v1] I J P Q := wp_iconst (by decide) dX9_personData_9
theorem e_X9_personData_10 {v0 : Int32} {v1 : Int32} {v2 : Nat} {x0 x1 x2 : Option Value} : Wp S N d MX9_personData 10 [x0, x1, x2] [.int v0, .int v1, .ref v2] I J P Q ↔ Wp S N d MX9_personData 11 [x0, x1, x2] [.int 2, .int v0, .int v1, .ref v2] I J P Q := wp_iconst (by decide) dX9_personData_10
theorem e_X9_personData_11 {v0 : Int32} {v1 : Int32} {v2 : Int32} {v3 : Nat} {x0 x1 x2 : Option Value} : Wp S N (d + 1) MX9_personData 11 [x0, x1, x2] [.int v0, .int v1, .int v2, .ref v3] I J P Q ↔ CWp S N d MX9_in [.int v2, .int v1, .int v0] I J P (fun r I1 J1 P1 => Wp S N (d + 1) MX9_personData 14 [x0, x1, x2] (r.toList ++ [.ref v3]) I1 J1 P1 Q) := wp_callS (M' := MX9_in) (As := [.int v2, .int v1, .int v0]) rfl rfl rfl rfl (Nat.le_of_ble_eq_true rfl) dX9_personData_11
theorem e_X9_personData_14 {v0 : Int32} {v1 : Nat} {x0 x1 x2 : Option Value} : Wp S N d MX9_personData 14 [x0, x1, x2] [.int v0, .ref v1] I J P Q ↔ (v0 = 0 → Wp S N d MX9_personData 21 [x0, x1, x2] [.ref v1] I J P Q) ∧ (¬ v0 = 0 → Wp S N d MX9_personData 17 [x0, x1, x2] [.ref v1] I J P Q) := wp_br rfl rfl (by decide) dX9_personData_14
theorem e_X9_personData_17 {v0 : Nat} {x0 x1 x2 : Option Value} : Wp S N d MX9_personData 17 [x0, x1, x2] [.ref v0] I J P Q ↔ Wp S N d MX9_personData 18 [x0, x1, x2] [.int 0, .ref v0] I J P Q := wp_iconst (by decide) dX9_personData_17
theorem e_X9_personData_18 {v0 : Int32} {v1 : Nat} {x0 x1 x2 : Option Value} : Wp S N d MX9_personData 18 [x0, x1, x2] [.int v0, .ref v1] I J P Q ↔ Wp S N d MX9_personData 26 [x0, x1, x2] [.int v0, .ref v1] I J P Q := wp_go (len := 3) rfl (fun _ _ => rfl) rfl (by decide) dX9_personData_18
theorem e_X9_personData_21 {v0 : Nat} {x0 x1 x2 : Option Value} : Wp S N d MX9_personData 21 [x0, x1, x2] [.ref v0] I J P Q ↔ Wp S N d MX9_personData 22 [x0, x1, x2] [.int 2, .ref v0] I J P Q := wp_iconst (by decide) dX9_personData_21
theorem e_X9_personData_22 {v0 : Int32} {v1 : Nat} {x0 x1 x2 : Option Value} : Wp S N d MX9_personData 22 [x0, x1, x2] [.int v0, .ref v1] I J P Q ↔ Wp S N d MX9_personData 26 [x0, x1, x2] [.int v0, .ref v1] I J P Q := wp_go (len := 3) rfl (fun _ _ => rfl) rfl (by decide) dX9_personData_22
theorem e_X9_personData_25 {v0 : Nat} {x0 x1 x2 : Option Value} : Wp S N d MX9_personData 25 [x0, x1, x2] [.ref v0] I J P Q ↔ Wp S N d MX9_personData 26 [x0, x1, x2] [.int 1, .ref v0] I J P Q := wp_iconst (by decide) dX9_personData_25
theorem e_X9_personData_26 {v0 : Int32} {v1 : Nat} {x0 x1 x2 : Option Value} : Wp S N d MX9_personData 26 [x0, x1, x2] [.int v0, .ref v1] I J P Q ↔ S v1 = 9 ∧ Wp S N d MX9_personData 29 [x0, x1, x2] [] (u2 I v1 8 v0) J P Q := wp_putI rfl rfl rfl rfl dX9_personData_26
theorem e_X9_personData_29 {w : Nat} {x1 x2 : Option Value} : Wp S N d MX9_personData 29 [some (.ref w), x1, x2] [] I J P Q ↔ Wp S N d MX9_personData 30 [some (.ref w), x1, x2] [.ref w] I J P Q := wp_lod (len := 1) rfl rfl rfl rfl dX9_personData_29
theorem e_X9_personData_30 {v0 : Nat} {x0 x1 x2 : Option Value} : Wp S N d MX9_personData 30 [x0, x1, x2] [.ref v0] I J P Q ↔ S v0 = 9 ∧ Wp S N d MX9_personData 33 [x0, x1, x2] [.int (I v0 8)] I J P Q := wp_getf rfl rfl rfl rfl dX9_personData_30
theorem e_X9_personData_33 {v0 : Int32} {x0 x1 x2 : Option Value} : Wp S N d MX9_personData 33 [x0, x1, x2] [.int v0] I J P Q ↔ (v0 ≤ 0 → Wp S N d MX9_personData 40 [x0, x1, x2] [] I J P Q) ∧ (¬ v0 ≤ 0 → Wp S N d MX9_personData 36 [x0, x1, x2] [] I J P Q) := wp_br rfl rfl (by decide) dX9_personData_33
theorem e_X9_personData_36  {x0 x1 x2 : Option Value} : Wp S N d MX9_personData 36 [x0, x1, x2] [] I J P Q ↔ Wp S N d MX9_personData 37 [x0, x1, x2] [.int 0] I J P Q := wp_iconst (by decide) dX9_personData_36
theorem e_X9_personData_37 {v0 : Int32} {x0 x1 x2 : Option Value} : Wp S N d MX9_personData 37 [x0, x1, x2] [.int v0] I J P Q ↔ Wp S N d MX9_personData 46 [x0, x1, x2] [.int v0] I J P Q := wp_go (len := 3) rfl (fun _ _ => rfl) rfl (by decide) dX9_personData_37
theorem e_X9_personData_40 {w : Nat} {x1 x2 : Option Value} : Wp S N d MX9_personData 40 [some (.ref w), x1, x2] [] I J P Q ↔ Wp S N d MX9_personData 41 [some (.ref w), x1, x2] [.ref w] I J P Q := wp_lod (len := 1) rfl rfl rfl rfl dX9_personData_40
theorem e_X9_personData_41 {v0 : Nat} {w : Int32} {x0 x2 : Option Value} : Wp S N d MX9_personData 41 [x0, some (.int w), x2] [.ref v0] I J P Q ↔ Wp S N d MX9_personData 42 [x0, some (.int w), x2] [.int w, .ref v0] I J P Q := wp_lod (len := 1) rfl rfl rfl rfl dX9_personData_41
theorem e_X9_personData_42 {v0 : Int32} {v1 : Nat} {w : Int32} {x0 x1 : Option Value} : Wp S N d MX9_personData 42 [x0, x1, some (.int w)] [.int v0, .ref v1] I J P Q ↔ Wp S N d MX9_personData 43 [x0, x1, some (.int w)] [.int w, .int v0, .ref v1] I J P Q := wp_lod (len := 1) rfl rfl rfl rfl dX9_personData_42
theorem e_X9_personData_43 {v0 : Int32} {v1 : Int32} {v2 : Nat} {x0 x1 x2 : Option Value} : Wp S N (d + 1) MX9_personData 43 [x0, x1, x2] [.int v0, .int v1, .ref v2] I J P Q ↔ S v2 = 9 ∧ CWp S N d MX9_of [.ref v2, .int v1, .int v0] I J P (fun r I1 J1 P1 => Wp S N (d + 1) MX9_personData 46 [x0, x1, x2] (r.toList ++ []) I1 J1 P1 Q) := wp_callV (M' := MX9_of) (As := [.int v1, .int v0]) rfl rfl rfl rfl (by decide) (Nat.le_of_ble_eq_true rfl) dX9_personData_43
theorem e_X9_personData_46 {v0 : Int32} {x0 x1 x2 : Option Value} : Wp S N d MX9_personData 46 [x0, x1, x2] [.int v0] I J P Q ↔ Q (some (.int v0)) I J P := wp_iret rfl dX9_personData_46
theorem dX9_marry_0 : decode cX9_marry 0 = .ok (.aload_n 0, 1) := by decide +kernel
theorem dX9_marry_1 : decode cX9_marry 1 = .ok (.iload_n 1, 1) := by decide +kernel
theorem dX9_marry_2 : decode cX9_marry 2 = .ok (.invokestatic 140, 3) := by decide +kernel
theorem dX9_marry_5 : decode cX9_marry 5 = .ok (.ifCond .eq 10, 3) := by decide +kernel
theorem dX9_marry_8 : decode cX9_marry 8 = .ok (.iload_n 2, 1) := by decide +kernel
theorem dX9_marry_9 : decode cX9_marry 9 = .ok (.invokestatic 140, 3) := by decide +kernel
theorem dX9_marry_12 : decode cX9_marry 12 = .ok (.ifCond .ne 7, 3) := by decide +kernel
theorem dX9_marry_15 : decode cX9_marry 15 = .ok (.iconst 1, 1) := by decide +kernel
theorem dX9_marry_16 : decode cX9_marry 16 = .ok (.goto 41, 3) := by decide +kernel
theorem dX9_marry_19 : decode cX9_marry 19 = .ok (.iload_n 1, 1) := by decide +kernel
theorem dX9_marry_20 : decode cX9_marry 20 = .ok (.iload_n 2, 1) := by decide +kernel
theorem dX9_marry_21 : decode cX9_marry 21 = .ok (.if_icmp .ne 7, 3) := by decide +kernel
theorem dX9_marry_24 : decode cX9_marry 24 = .ok (.iconst 2, 1) := by decide +kernel
theorem dX9_marry_25 : decode cX9_marry 25 = .ok (.goto 32, 3) := by decide +kernel
theorem dX9_marry_28 : decode cX9_marry 28 = .ok (.aload_n 0, 1) := by decide +kernel
theorem dX9_marry_29 : decode cX9_marry 29 = .ok (.getfield 7, 3) := by decide +kernel
theorem dX9_marry_32 : decode cX9_marry 32 = .ok (.bipush 82, 2) := by decide +kernel
theorem dX9_marry_34 : decode cX9_marry 34 = .ok (.iload_n 1, 1) := by decide +kernel
theorem dX9_marry_35 : decode cX9_marry 35 = .ok (.iadd, 1) := by decide +kernel
theorem dX9_marry_36 : decode cX9_marry 36 = .ok (.iaload, 1) := by decide +kernel
theorem dX9_marry_37 : decode cX9_marry 37 = .ok (.ifCond .ge 15, 3) := by decide +kernel
theorem dX9_marry_40 : decode cX9_marry 40 = .ok (.aload_n 0, 1) := by decide +kernel
theorem dX9_marry_41 : decode cX9_marry 41 = .ok (.getfield 7, 3) := by decide +kernel
theorem dX9_marry_44 : decode cX9_marry 44 = .ok (.bipush 82, 2) := by decide +kernel
theorem dX9_marry_46 : decode cX9_marry 46 = .ok (.iload_n 2, 1) := by decide +kernel
theorem dX9_marry_47 : decode cX9_marry 47 = .ok (.iadd, 1) := by decide +kernel
theorem dX9_marry_48 : decode cX9_marry 48 = .ok (.iaload, 1) := by decide +kernel
theorem dX9_marry_49 : decode cX9_marry 49 = .ok (.ifCond .lt 7, 3) := by decide +kernel
theorem dX9_marry_52 : decode cX9_marry 52 = .ok (.iconst 3, 1) := by decide +kernel
theorem dX9_marry_53 : decode cX9_marry 53 = .ok (.goto 4, 3) := by decide +kernel
theorem dX9_marry_56 : decode cX9_marry 56 = .ok (.iconst 0, 1) := by decide +kernel
theorem dX9_marry_57 : decode cX9_marry 57 = .ok (.putfield 57, 3) := by decide +kernel
theorem dX9_marry_60 : decode cX9_marry 60 = .ok (.aload_n 0, 1) := by decide +kernel
theorem dX9_marry_61 : decode cX9_marry 61 = .ok (.getfield 57, 3) := by decide +kernel
theorem dX9_marry_64 : decode cX9_marry 64 = .ok (.ifCond .le 4, 3) := by decide +kernel
theorem dX9_marry_67 : decode cX9_marry 67 = .ok (.return_, 1) := by decide +kernel
theorem dX9_marry_68 : decode cX9_marry 68 = .ok (.aload_n 0, 1) := by decide +kernel
theorem dX9_marry_69 : decode cX9_marry 69 = .ok (.invokevirtual 75, 3) := by decide +kernel
theorem dX9_marry_72 : decode cX9_marry 72 = .ok (.aload_n 0, 1) := by decide +kernel
theorem dX9_marry_73 : decode cX9_marry 73 = .ok (.getfield 7, 3) := by decide +kernel
theorem dX9_marry_76 : decode cX9_marry 76 = .ok (.bipush 82, 2) := by decide +kernel
theorem dX9_marry_78 : decode cX9_marry 78 = .ok (.iload_n 1, 1) := by decide +kernel
theorem dX9_marry_79 : decode cX9_marry 79 = .ok (.iadd, 1) := by decide +kernel
theorem dX9_marry_80 : decode cX9_marry 80 = .ok (.iload_n 2, 1) := by decide +kernel
theorem dX9_marry_81 : decode cX9_marry 81 = .ok (.iastore, 1) := by decide +kernel
theorem dX9_marry_82 : decode cX9_marry 82 = .ok (.aload_n 0, 1) := by decide +kernel
theorem dX9_marry_83 : decode cX9_marry 83 = .ok (.getfield 7, 3) := by decide +kernel
theorem dX9_marry_86 : decode cX9_marry 86 = .ok (.bipush 82, 2) := by decide +kernel
theorem dX9_marry_88 : decode cX9_marry 88 = .ok (.iload_n 2, 1) := by decide +kernel
theorem dX9_marry_89 : decode cX9_marry 89 = .ok (.iadd, 1) := by decide +kernel
theorem dX9_marry_90 : decode cX9_marry 90 = .ok (.iload_n 1, 1) := by decide +kernel
theorem dX9_marry_91 : decode cX9_marry 91 = .ok (.iastore, 1) := by decide +kernel
theorem dX9_marry_92 : decode cX9_marry 92 = .ok (.return_, 1) := by decide +kernel
theorem c_X9_marry {a0 : Nat} {a1 : Int32} {a2 : Int32} : CWp S N d MX9_marry [.ref a0, .int a1, .int a2] I J P Q ↔ Wp S N d MX9_marry 0 [some (.ref a0), some (.int a1), some (.int a2)] [] I J P Q := by
  rw [cwp_iff]
  exact ⟨fun h => h.2, fun h => ⟨Nat.le_of_ble_eq_true rfl, h⟩⟩
theorem e_X9_marry_0 {w : Nat} {x1 x2 : Option Value} : Wp S N d MX9_marry 0 [some (.ref w), x1, x2] [] I J P Q ↔ Wp S N d MX9_marry 1 [some (.ref w), x1, x2] [.ref w] I J P Q := wp_lod (len := 1) rfl rfl rfl rfl dX9_marry_0
theorem e_X9_marry_1 {v0 : Nat} {w : Int32} {x0 x2 : Option Value} : Wp S N d MX9_marry 1 [x0, some (.int w), x2] [.ref v0] I J P Q ↔ Wp S N d MX9_marry 2 [x0, some (.int w), x2] [.int w, .ref v0] I J P Q := wp_lod (len := 1) rfl rfl rfl rfl dX9_marry_1
theorem e_X9_marry_2 {v0 : Int32} {v1 : Nat} {x0 x1 x2 : Option Value} : Wp S N (d + 1) MX9_marry 2 [x0, x1, x2] [.int v0, .ref v1] I J P Q ↔ CWp S N d MX9_isPerson [.int v0] I J P (fun r I1 J1 P1 => Wp S N (d + 1) MX9_marry 5 [x0, x1, x2] (r.toList ++ [.ref v1]) I1 J1 P1 Q) := wp_callS (M' := MX9_isPerson) (As := [.int v0]) rfl rfl rfl rfl (Nat.le_of_ble_eq_true rfl) dX9_marry_2
theorem e_X9_marry_5 {v0 : Int32} {v1 : Nat} {x0 x1 x2 : Option Value} : Wp S N d MX9_marry 5 [x0, x1, x2] [.int v0, .ref v1] I J P Q ↔ (v0 = 0 → Wp S N d MX9_marry 15 [x0, x1, x2] [.ref v1] I J P Q) ∧ (¬ v0 = 0 → Wp S N d MX9_marry 8 [x0, x1, x2] [.ref v1] I J P Q) := wp_br rfl rfl (by decide) dX9_marry_5
theorem e_X9_marry_8 {v0 : Nat} {w : Int32} {x0 x1 : Option Value} : Wp S N d MX9_marry 8 [x0, x1, some (.int w)] [.ref v0] I J P Q ↔ Wp S N d MX9_marry 9 [x0, x1, some (.int w)] [.int w, .ref v0] I J P Q := wp_lod (len := 1) rfl rfl rfl rfl dX9_marry_8
theorem e_X9_marry_9 {v0 : Int32} {v1 : Nat} {x0 x1 x2 : Option Value} : Wp S N (d + 1) MX9_marry 9 [x0, x1, x2] [.int v0, .ref v1] I J P Q ↔ CWp S N d MX9_isPerson [.int v0] I J P (fun r I1 J1 P1 => Wp S N (d + 1) MX9_marry 12 [x0, x1, x2] (r.toList ++ [.ref v1]) I1 J1 P1 Q) := wp_callS (M' := MX9_isPerson) (As := [.int v0]) rfl rfl rfl rfl (Nat.le_of_ble_eq_true rfl) dX9_marry_9
theorem e_X9_marry_12 {v0 : Int32} {v1 : Nat} {x0 x1 x2 : Option Value} : Wp S N d MX9_marry 12 [x0, x1, x2] [.int v0, .ref v1] I J P Q ↔ (¬ v0 = 0 → Wp S N d MX9_marry 19 [x0, x1, x2] [.ref v1] I J P Q) ∧ (v0 = 0 → Wp S N d MX9_marry 15 [x0, x1, x2] [.ref v1] I J P Q) := wp_brn rfl rfl (by decide) dX9_marry_12
theorem e_X9_marry_15 {v0 : Nat} {x0 x1 x2 : Option Value} : Wp S N d MX9_marry 15 [x0, x1, x2] [.ref v0] I J P Q ↔ Wp S N d MX9_marry 16 [x0, x1, x2] [.int 1, .ref v0] I J P Q := wp_iconst (by decide) dX9_marry_15
theorem e_X9_marry_16 {v0 : Int32} {v1 : Nat} {x0 x1 x2 : Option Value} : Wp S N d MX9_marry 16 [x0, x1, x2] [.int v0, .ref v1] I J P Q ↔ Wp S N d MX9_marry 57 [x0, x1, x2] [.int v0, .ref v1] I J P Q := wp_go (len := 3) rfl (fun _ _ => rfl) rfl (by decide) dX9_marry_16
theorem e_X9_marry_19 {v0 : Nat} {w : Int32} {x0 x2 : Option Value} : Wp S N d MX9_marry 19 [x0, some (.int w), x2] [.ref v0] I J P Q ↔ Wp S N d MX9_marry 20 [x0, some (.int w), x2] [.int w, .ref v0] I J P Q := wp_lod (len := 1) rfl rfl rfl rfl dX9_marry_19
theorem e_X9_marry_20 {v0 : Int32} {v1 : Nat} {w : Int32} {x0 x1 : Option Value} : Wp S N d MX9_marry 20 [x0, x1, some (.int w)] [.int v0, .ref v1] I J P Q ↔ Wp S N d MX9_marry 21 [x0, x1, some (.int w)] [.int w, .int v0, .ref v1] I J P Q := wp_lod (len := 1) rfl rfl rfl rfl dX9_marry_20
theorem e_X9_marry_21 {v0 : Int32} {v1 : Int32} {v2 : Nat} {x0 x1 x2 : Option Value} : Wp S N d MX9_marry 21 [x0, x1, x2] [.int v0, .int v1, .ref v2] I J P Q ↔ (¬ v1 = v0 → Wp S N d MX9_marry 28 [x0, x1, x2] [.ref v2] I J P Q) ∧ (v1 = v0 → Wp S N d MX9_marry 24 [x0, x1, x2] [.ref v2] I J P Q) := wp_brn rfl rfl (by decide) dX9_marry_21
theorem e_X9_marry_24 {v0 : Nat} {x0 x1 x2 : Option Value} : Wp S N d MX9_marry 24 [x0, x1, x2] [.ref v0] I J P Q ↔ Wp S N d MX9_marry 25 [x0, x1, x2] [.int 2, .ref v0] I J P Q := wp_iconst (by decide) dX9_marry_24
theorem e_X9_marry_25 {v0 : Int32} {v1 : Nat} {x0 x1 x2 : Option Value} : Wp S N d MX9_marry 25 [x0, x1, x2] [.int v0, .ref v1] I J P Q ↔ Wp S N d MX9_marry 57 [x0, x1, x2] [.int v0, .ref v1] I J P Q := wp_go (len := 3) rfl (fun _ _ => rfl) rfl (by decide) dX9_marry_25
theorem e_X9_marry_28 {v0 : Nat} {w : Nat} {x1 x2 : Option Value} : Wp S N d MX9_marry 28 [some (.ref w), x1, x2] [.ref v0] I J P Q ↔ Wp S N d MX9_marry 29 [some (.ref w), x1, x2] [.ref w, .ref v0] I J P Q := wp_lod (len := 1) rfl rfl rfl rfl dX9_marry_28
theorem e_X9_marry_29 {v0 : Nat} {v1 : Nat} {x0 x1 x2 : Option Value} : Wp S N d MX9_marry 29 [x0, x1, x2] [.ref v0, .ref v1] I J P Q ↔ S v0 = 9 ∧ Wp S N d MX9_marry 32 [x0, x1, x2] [va_rf (P v0 0), .ref v1] I J P Q := wp_getf rfl rfl rfl rfl dX9_marry_29
theorem e_X9_marry_32 {v0 : Nat} {v1 : Nat} {x0 x1 x2 : Option Value} : Wp S N d MX9_marry 32 [x0, x1, x2] [.ref v0, .ref v1] I J P Q ↔ Wp S N d MX9_marry 34 [x0, x1, x2] [.int 82, .ref v0, .ref v1] I J P Q := wp_bipush (by decide) dX9_marry_32
theorem e_X9_marry_34 {v0 : Int32} {v1 : Nat} {v2 : Nat} {w : Int32} {x0 x2 : Option Value} : Wp S N d MX9_marry 34 [x0, some (.int w), x2] [.int v0, .ref v1, .ref v2] I J P Q ↔ Wp S N d MX9_marry 35 [x0, some (.int w), x2] [.int w, .int v0, .ref v1, .ref v2] I J P Q := wp_lod (len := 1) rfl rfl rfl rfl dX9_marry_34
theorem e_X9_marry_35 {v0 : Int32} {v1 : Int32} {v2 : Nat} {v3 : Nat} {x0 x1 x2 : Option Value} : Wp S N d MX9_marry 35 [x0, x1, x2] [.int v0, .int v1, .ref v2, .ref v3] I J P Q ↔ Wp S N d MX9_marry 36 [x0, x1, x2] [.int (v1 + v0), .ref v2, .ref v3] I J P Q := wp_alu (len := 1) rfl rfl rfl dX9_marry_35
theorem e_X9_marry_36 {v0 : Int32} {v1 : Nat} {v2 : Nat} {x0 x1 x2 : Option Value} : Wp S N d MX9_marry 36 [x0, x1, x2] [.int v0, .ref v1, .ref v2] I J P Q ↔ (S v1 = 10 ∧ vp_in v0 (N v1)) ∧ Wp S N d MX9_marry 37 [x0, x1, x2] [.int (I v1 v0.toNatClampNeg), .ref v2] I J P Q := wp_ald rfl rfl dX9_marry_36
theorem e_X9_marry_37 {v0 : Int32} {v1 : Nat} {x0 x1 x2 : Option Value} : Wp S N d MX9_marry 37 [x0, x1, x2] [.int v0, .ref v1] I J P Q ↔ (0 ≤ v0 → Wp S N d MX9_marry 52 [x0, x1, x2] [.ref v1] I J P Q) ∧ (¬ 0 ≤ v0 → Wp S N d MX9_marry 40 [x0, x1, x2] [.ref v1] I J P Q) := wp_br rfl rfl (by decide) dX9_marry_37
theorem e_X9_marry_40 {v0 : Nat} {w : Nat} {x1 x2 : Option Value} : Wp S N d MX9_marry 40 [some (.ref w), x1, x2] [.ref v0] I J P Q ↔ Wp S N d MX9_marry 41 [some (.ref w), x1, x2] [.ref w, .ref v0] I J P Q := wp_lod (len := 1) rfl rfl rfl rfl dX9_marry_40
theorem e_X9_marry_41 {v0 : Nat} {v1 : Nat} {x0 x1 x2 : Option Value} : Wp S N d MX9_marry 41 [x0, x1, x2] [.ref v0, .ref v1] I J P Q ↔ S v0 = 9 ∧ Wp S N d MX9_marry 44 [x0, x1, x2] [va_rf (P v0 0), .ref v1] I J P Q := wp_getf rfl rfl rfl rfl dX9_marry_41
theorem e_X9_marry_44 {v0 : Nat} {v1 : Nat} {x0 x1 x2 : Option Value} : Wp S N d MX9_marry 44 [x0, x1, x2] [.ref v0, .ref v1] I J P Q ↔ Wp S N d MX9_marry 46 [x0, x1, x2] [.int 82, .ref v0, .ref v1] I J P Q := wp_bipush (by decide) dX9_marry_44
theorem e_X9_marry_46 {v0 : Int32} {v1 : Nat} {v2 : Nat} {w : Int32} {x0 x1 : Option Value} : Wp S N d MX9_marry 46 [x0, x1, some (.int w)] [.int v0, .ref v1, .ref v2] I J P Q ↔ Wp S N d MX9_marry 47 [x0, x1, some (.int w)] [.int w, .int v0, .ref v1, .ref v2] I J P Q := wp_lod (len := 1) rfl rfl rfl rfl dX9_marry_46
theorem e_X9_marry_47 {v0 : Int32} {v1 : Int32} {v2 : Nat} {v3 : Nat} {x0 x1 x2 : Option Value} : Wp S N d MX9_marry 47 [x0, x1, x2] [.int v0, .int v1, .ref v2, .ref v3] I J P Q ↔ Wp S N d MX9_marry 48 [x0, x1, x2] [.int (v1 + v0), .ref v2, .ref v3] I J P Q := wp_alu (len := 1) rfl rfl rfl dX9_marry_47
theorem e_X9_marry_48 {v0 : Int32} {v1 : Nat} {v2 : Nat} {x0 x1 x2 : Option Value} : Wp S N d MX9_marry 48 [x0, x1, x2] [.int v0, .ref v1, .ref v2] I J P Q ↔ (S v1 = 10 ∧ vp_in v0 (N v1)) ∧ Wp S N d MX9_marry 49 [x0, x1, x2] [.int (I v1 v0.toNatClampNeg), .ref v2] I J P Q := wp_ald rfl rfl dX9_marry_48
theorem e_X9_marry_49 {v0 : Int32} {v1 : Nat} {x0 x1 x2 : Option Value} : Wp S N d MX9_marry 49 [x0, x1, x2] [.int v0, .ref v1] I J P Q ↔ (v0 < 0 → Wp S N d MX9_marry 56 [x0, x1, x2] [.ref v1] I J P Q) ∧ (¬ v0 < 0 → Wp S N d MX9_marry 52 [x0, x1, x2] [.ref v1] I J P Q) := wp_br rfl rfl (by decide) dX9_marry_49
theorem e_X9_marry_52 {v0 : Nat} {x0 x1 x2 : Option Value} : Wp S N d MX9_marry 52 [x0, x1, x2] [.ref v0] I J P Q ↔ Wp S N d MX9_marry 53 [x0, x1, x2] [.int 3, .ref v0] I J P Q := wp_iconst (by decide) dX9_marry_52
theorem e_X9_marry_53 {v0 : Int32} {v1 : Nat} {x0 x1 x2 : Option Value} : Wp S N d MX9_marry 53 [x0, x1, x2] [.int v0, .ref v1] I J P Q ↔ Wp S N d MX9_marry 57 [x0, x1, x2] [.int v0, .ref v1] I J P Q := wp_go (len := 3) rfl (fun _ _ => rfl) rfl (by decide) dX9_marry_53
theorem e_X9_marry_56 {v0 : Nat} {x0 x1 x2 : Option Value} : Wp S N d MX9_marry 56 [x0, x1, x2] [.ref v0] I J P Q ↔ Wp S N d MX9_marry 57 [x0, x1, x2] [.int 0, .ref v0] I J P Q := wp_iconst (by decide) dX9_marry_56
theorem e_X9_marry_57 {v0 : Int32} {v1 : Nat} {x0 x1 x2 : Option Value} : Wp S N d MX9_marry 57 [x0, x1, x2] [.int v0, .ref v1] I J P Q ↔ S v1 = 9 ∧ Wp S N d MX9_marry 60 [x0, x1, x2] [] (u2 I v1 8 v0) J P Q := wp_putI rfl rfl rfl rfl dX9_marry_57
theorem e_X9_marry_60 {w : Nat} {x1 x2 : Option Value} : Wp S N d MX9_marry 60 [some (.ref w), x1, x2] [] I J P Q ↔ Wp S N d MX9_marry 61 [some (.ref w), x1, x2] [.ref w] I J P Q := wp_lod (len := 1) rfl rfl rfl rfl dX9_marry_60
theorem e_X9_marry_61 {v0 : Nat} {x0 x1 x2 : Option Value} : Wp S N d MX9_marry 61 [x0, x1, x2] [.ref v0] I J P Q ↔ S v0 = 9 ∧ Wp S N d MX9_marry 64 [x0, x1, x2] [.int (I v0 8)] I J P Q := wp_getf rfl rfl rfl rfl dX9_marry_61
theorem e_X9_marry_64 {v0 : Int32} {x0 x1 x2 : Option Value} : Wp S N d MX9_marry 64 [x0, x1, x2] [.int v0] I J P Q ↔ (v0 ≤ 0 → Wp S N d MX9_marry 68 [x0, x1, x2] [] I J P Q) ∧ (¬ v0 ≤ 0 → Wp S N d MX9_marry 67 [x0, x1, x2] [] I J P Q) := wp_br rfl rfl (by decide) dX9_marry_64
theorem e_X9_marry_67  {x0 x1 x2 : Option Value} : Wp S N d MX9_marry 67 [x0, x1, x2] [] I J P Q ↔ Q none I J P := wp_vret rfl dX9_marry_67
theorem e_X9_marry_68 {w : Nat} {x1 x2 : Option Value} : Wp S N d MX9_marry 68 [some (.ref w), x1, x2] [] I J P Q ↔ Wp S N d MX9_marry 69 [some (.ref w), x1, x2] [.ref w] I J P Q := wp_lod (len := 1) rfl rfl rfl rfl dX9_marry_68
theorem e_X9_marry_69 {v0 : Nat} {x0 x1 x2 : Option Value} : Wp S N (d + 1) MX9_marry 69 [x0, x1, x2] [.ref v0] I J P Q ↔ S v0 = 9 ∧ CWp S N d MX9_changes [.ref v0] I J P (fun r I1 J1 P1 => Wp S N (d + 1) MX9_marry 72 [x0, x1, x2] (r.toList ++ []) I1 J1 P1 Q) := wp_callV (M' := MX9_changes) (As := []) rfl rfl rfl rfl (by decide) (Nat.le_of_ble_eq_true rfl) dX9_marry_69
theorem e_X9_marry_72 {w : Nat} {x1 x2 : Option Value} : Wp S N d MX9_marry 72 [some (.ref w), x1, x2] [] I J P Q ↔ Wp S N d MX9_marry 73 [some (.ref w), x1, x2] [.ref w] I J P Q := wp_lod (len := 1) rfl rfl rfl rfl dX9_marry_72
theorem e_X9_marry_73 {v0 : Nat} {x0 x1 x2 : Option Value} : Wp S N d MX9_marry 73 [x0, x1, x2] [.ref v0] I J P Q ↔ S v0 = 9 ∧ Wp S N d MX9_marry 76 [x0, x1, x2] [va_rf (P v0 0)] I J P Q := wp_getf rfl rfl rfl rfl dX9_marry_73
theorem e_X9_marry_76 {v0 : Nat} {x0 x1 x2 : Option Value} : Wp S N d MX9_marry 76 [x0, x1, x2] [.ref v0] I J P Q ↔ Wp S N d MX9_marry 78 [x0, x1, x2] [.int 82, .ref v0] I J P Q := wp_bipush (by decide) dX9_marry_76
theorem e_X9_marry_78 {v0 : Int32} {v1 : Nat} {w : Int32} {x0 x2 : Option Value} : Wp S N d MX9_marry 78 [x0, some (.int w), x2] [.int v0, .ref v1] I J P Q ↔ Wp S N d MX9_marry 79 [x0, some (.int w), x2] [.int w, .int v0, .ref v1] I J P Q := wp_lod (len := 1) rfl rfl rfl rfl dX9_marry_78
theorem e_X9_marry_79 {v0 : Int32} {v1 : Int32} {v2 : Nat} {x0 x1 x2 : Option Value} : Wp S N d MX9_marry 79 [x0, x1, x2] [.int v0, .int v1, .ref v2] I J P Q ↔ Wp S N d MX9_marry 80 [x0, x1, x2] [.int (v1 + v0), .ref v2] I J P Q := wp_alu (len := 1) rfl rfl rfl dX9_marry_79
theorem e_X9_marry_80 {v0 : Int32} {v1 : Nat} {w : Int32} {x0 x1 : Option Value} : Wp S N d MX9_marry 80 [x0, x1, some (.int w)] [.int v0, .ref v1] I J P Q ↔ Wp S N d MX9_marry 81 [x0, x1, some (.int w)] [.int w, .int v0, .ref v1] I J P Q := wp_lod (len := 1) rfl rfl rfl rfl dX9_marry_80
theorem e_X9_marry_81 {v0 : Int32} {v1 : Int32} {v2 : Nat} {x0 x1 x2 : Option Value} : Wp S N d MX9_marry 81 [x0, x1, x2] [.int v0, .int v1, .ref v2] I J P Q ↔ (S v2 = 10 ∧ vp_in v1 (N v2)) ∧ Wp S N d MX9_marry 82 [x0, x1, x2] [] (u2 I v2 v1.toNatClampNeg v0) J P Q := wp_ast rfl rfl dX9_marry_81
theorem e_X9_marry_82 {w : Nat} {x1 x2 : Option Value} : Wp S N d MX9_marry 82 [some (.ref w), x1, x2] [] I J P Q ↔ Wp S N d MX9_marry 83 [some (.ref w), x1, x2] [.ref w] I J P Q := wp_lod (len := 1) rfl rfl rfl rfl dX9_marry_82
theorem e_X9_marry_83 {v0 : Nat} {x0 x1 x2 : Option Value} : Wp S N d MX9_marry 83 [x0, x1, x2] [.ref v0] I J P Q ↔ S v0 = 9 ∧ Wp S N d MX9_marry 86 [x0, x1, x2] [va_rf (P v0 0)] I J P Q := wp_getf rfl rfl rfl rfl dX9_marry_83
theorem e_X9_marry_86 {v0 : Nat} {x0 x1 x2 : Option Value} : Wp S N d MX9_marry 86 [x0, x1, x2] [.ref v0] I J P Q ↔ Wp S N d MX9_marry 88 [x0, x1, x2] [.int 82, .ref v0] I J P Q := wp_bipush (by decide) dX9_marry_86
theorem e_X9_marry_88 {v0 : Int32} {v1 : Nat} {w : Int32} {x0 x1 : Option Value} : Wp S N d MX9_marry 88 [x0, x1, some (.int w)] [.int v0, .ref v1] I J P Q ↔ Wp S N d MX9_marry 89 [x0, x1, some (.int w)] [.int w, .int v0, .ref v1] I J P Q := wp_lod (len := 1) rfl rfl rfl rfl dX9_marry_88
theorem e_X9_marry_89 {v0 : Int32} {v1 : Int32} {v2 : Nat} {x0 x1 x2 : Option Value} : Wp S N d MX9_marry 89 [x0, x1, x2] [.int v0, .int v1, .ref v2] I J P Q ↔ Wp S N d MX9_marry 90 [x0, x1, x2] [.int (v1 + v0), .ref v2] I J P Q := wp_alu (len := 1) rfl rfl rfl dX9_marry_89
theorem e_X9_marry_90 {v0 : Int32} {v1 : Nat} {w : Int32} {x0 x2 : Option Value} : Wp S N d MX9_marry 90 [x0, some (.int w), x2] [.int v0, .ref v1] I J P Q ↔ Wp S N d MX9_marry 91 [x0, some (.int w), x2] [.int w, .int v0, .ref v1] I J P Q := wp_lod (len := 1) rfl rfl rfl rfl dX9_marry_90
theorem e_X9_marry_91 {v0 : Int32} {v1 : Int32} {v2 : Nat} {x0 x1 x2 : Option Value} : Wp S N d MX9_marry 91 [x0, x1, x2] [.int v0, .int v1, .ref v2] I J P Q ↔ (S v2 = 10 ∧ vp_in v1 (N v2)) ∧ Wp S N d MX9_marry 92 [x0, x1, x2] [] (u2 I v2 v1.toNatClampNeg v0) J P Q := wp_ast rfl rfl dX9_marry_91
theorem e_X9_marry_92  {x0 x1 x2 : Option Value} : Wp S N d MX9_marry 92 [x0, x1, x2] [] I J P Q ↔ Q none I J P := wp_vret rfl dX9_marry_92
theorem dX9_coupled_0 : decode cX9_coupled 0 = .ok (.iload_n 1, 1) := by decide +kernel
theorem dX9_coupled_1 : decode cX9_coupled 1 = .ok (.invokestatic 140, 3) := by decide +kernel
theorem dX9_coupled_4 : decode cX9_coupled 4 = .ok (.ifCond .ne 7, 3) := by decide +kernel
theorem dX9_coupled_7 : decode cX9_coupled 7 = .ok (.iconst 1, 1) := by decide +kernel
theorem dX9_coupled_8 : decode cX9_coupled 8 = .ok (.goto 20, 3) := by decide +kernel
theorem dX9_coupled_11 : decode cX9_coupled 11 = .ok (.aload_n 0, 1) := by decide +kernel
theorem dX9_coupled_12 : decode cX9_coupled 12 = .ok (.getfield 7, 3) := by decide +kernel
theorem dX9_coupled_15 : decode cX9_coupled 15 = .ok (.bipush 82, 2) := by decide +kernel
theorem dX9_coupled_17 : decode cX9_coupled 17 = .ok (.iload_n 1, 1) := by decide +kernel
theorem dX9_coupled_18 : decode cX9_coupled 18 = .ok (.iadd, 1) := by decide +kernel
theorem dX9_coupled_19 : decode cX9_coupled 19 = .ok (.iaload, 1) := by decide +kernel
theorem dX9_coupled_20 : decode cX9_coupled 20 = .ok (.ifCond .ge 7, 3) := by decide +kernel
theorem dX9_coupled_23 : decode cX9_coupled 23 = .ok (.iconst 2, 1) := by decide +kernel
theorem dX9_coupled_24 : decode cX9_coupled 24 = .ok (.goto 4, 3) := by decide +kernel
theorem dX9_coupled_27 : decode cX9_coupled 27 = .ok (.iconst 0, 1) := by decide +kernel
theorem dX9_coupled_28 : decode cX9_coupled 28 = .ok (.ireturn, 1) := by decide +kernel
theorem c_X9_coupled {a0 : Nat} {a1 : Int32} : CWp S N d MX9_coupled [.ref a0, .int a1] I J P Q ↔ Wp S N d MX9_coupled 0 [some (.ref a0), some (.int a1)] [] I J P Q := by
  rw [cwp_iff]
  exact ⟨fun h => h.2, fun h => ⟨Nat.le_of_ble_eq_true rfl, h⟩⟩
theorem e_X9_coupled_0 {w : Int32} {x0 : Option Value} : Wp S N d MX9_coupled 0 [x0, some (.int w)] [] I J P Q ↔ Wp S N d MX9_coupled 1 [x0, some (.int w)] [.int w] I J P Q := wp_lod (len := 1) rfl rfl rfl rfl dX9_coupled_0
theorem e_X9_coupled_1 {v0 : Int32} {x0 x1 : Option Value} : Wp S N (d + 1) MX9_coupled 1 [x0, x1] [.int v0] I J P Q ↔ CWp S N d MX9_isPerson [.int v0] I J P (fun r I1 J1 P1 => Wp S N (d + 1) MX9_coupled 4 [x0, x1] (r.toList ++ []) I1 J1 P1 Q) := wp_callS (M' := MX9_isPerson) (As := [.int v0]) rfl rfl rfl rfl (Nat.le_of_ble_eq_true rfl) dX9_coupled_1
theorem e_X9_coupled_4 {v0 : Int32} {x0 x1 : Option Value} : Wp S N d MX9_coupled 4 [x0, x1] [.int v0] I J P Q ↔ (¬ v0 = 0 → Wp S N d MX9_coupled 11 [x0, x1] [] I J P Q) ∧ (v0 = 0 → Wp S N d MX9_coupled 7 [x0, x1] [] I J P Q) := wp_brn rfl rfl (by decide) dX9_coupled_4
theorem e_X9_coupled_7  {x0 x1 : Option Value} : Wp S N d MX9_coupled 7 [x0, x1] [] I J P Q ↔ Wp S N d MX9_coupled 8 [x0, x1] [.int 1] I J P Q := wp_iconst (by decide) dX9_coupled_7
theorem e_X9_coupled_8 {v0 : Int32} {x0 x1 : Option Value} : Wp S N d MX9_coupled 8 [x0, x1] [.int v0] I J P Q ↔ Wp S N d MX9_coupled 28 [x0, x1] [.int v0] I J P Q := wp_go (len := 3) rfl (fun _ _ => rfl) rfl (by decide) dX9_coupled_8
theorem e_X9_coupled_11 {w : Nat} {x1 : Option Value} : Wp S N d MX9_coupled 11 [some (.ref w), x1] [] I J P Q ↔ Wp S N d MX9_coupled 12 [some (.ref w), x1] [.ref w] I J P Q := wp_lod (len := 1) rfl rfl rfl rfl dX9_coupled_11
theorem e_X9_coupled_12 {v0 : Nat} {x0 x1 : Option Value} : Wp S N d MX9_coupled 12 [x0, x1] [.ref v0] I J P Q ↔ S v0 = 9 ∧ Wp S N d MX9_coupled 15 [x0, x1] [va_rf (P v0 0)] I J P Q := wp_getf rfl rfl rfl rfl dX9_coupled_12
theorem e_X9_coupled_15 {v0 : Nat} {x0 x1 : Option Value} : Wp S N d MX9_coupled 15 [x0, x1] [.ref v0] I J P Q ↔ Wp S N d MX9_coupled 17 [x0, x1] [.int 82, .ref v0] I J P Q := wp_bipush (by decide) dX9_coupled_15
theorem e_X9_coupled_17 {v0 : Int32} {v1 : Nat} {w : Int32} {x0 : Option Value} : Wp S N d MX9_coupled 17 [x0, some (.int w)] [.int v0, .ref v1] I J P Q ↔ Wp S N d MX9_coupled 18 [x0, some (.int w)] [.int w, .int v0, .ref v1] I J P Q := wp_lod (len := 1) rfl rfl rfl rfl dX9_coupled_17
theorem e_X9_coupled_18 {v0 : Int32} {v1 : Int32} {v2 : Nat} {x0 x1 : Option Value} : Wp S N d MX9_coupled 18 [x0, x1] [.int v0, .int v1, .ref v2] I J P Q ↔ Wp S N d MX9_coupled 19 [x0, x1] [.int (v1 + v0), .ref v2] I J P Q := wp_alu (len := 1) rfl rfl rfl dX9_coupled_18
theorem e_X9_coupled_19 {v0 : Int32} {v1 : Nat} {x0 x1 : Option Value} : Wp S N d MX9_coupled 19 [x0, x1] [.int v0, .ref v1] I J P Q ↔ (S v1 = 10 ∧ vp_in v0 (N v1)) ∧ Wp S N d MX9_coupled 20 [x0, x1] [.int (I v1 v0.toNatClampNeg)] I J P Q := wp_ald rfl rfl dX9_coupled_19
theorem e_X9_coupled_20 {v0 : Int32} {x0 x1 : Option Value} : Wp S N d MX9_coupled 20 [x0, x1] [.int v0] I J P Q ↔ (0 ≤ v0 → Wp S N d MX9_coupled 27 [x0, x1] [] I J P Q) ∧ (¬ 0 ≤ v0 → Wp S N d MX9_coupled 23 [x0, x1] [] I J P Q) := wp_br rfl rfl (by decide) dX9_coupled_20
theorem e_X9_coupled_23  {x0 x1 : Option Value} : Wp S N d MX9_coupled 23 [x0, x1] [] I J P Q ↔ Wp S N d MX9_coupled 24 [x0, x1] [.int 2] I J P Q := wp_iconst (by decide) dX9_coupled_23
theorem e_X9_coupled_24 {v0 : Int32} {x0 x1 : Option Value} : Wp S N d MX9_coupled 24 [x0, x1] [.int v0] I J P Q ↔ Wp S N d MX9_coupled 28 [x0, x1] [.int v0] I J P Q := wp_go (len := 3) rfl (fun _ _ => rfl) rfl (by decide) dX9_coupled_24
theorem e_X9_coupled_27  {x0 x1 : Option Value} : Wp S N d MX9_coupled 27 [x0, x1] [] I J P Q ↔ Wp S N d MX9_coupled 28 [x0, x1] [.int 0] I J P Q := wp_iconst (by decide) dX9_coupled_27
theorem e_X9_coupled_28 {v0 : Int32} {x0 x1 : Option Value} : Wp S N d MX9_coupled 28 [x0, x1] [.int v0] I J P Q ↔ Q (some (.int v0)) I J P := wp_iret rfl dX9_coupled_28
theorem dX9_part_0 : decode cX9_part 0 = .ok (.aload_n 0, 1) := by decide +kernel
theorem dX9_part_1 : decode cX9_part 1 = .ok (.aload_n 0, 1) := by decide +kernel
theorem dX9_part_2 : decode cX9_part 2 = .ok (.iload_n 1, 1) := by decide +kernel
theorem dX9_part_3 : decode cX9_part 3 = .ok (.invokevirtual 146, 3) := by decide +kernel
theorem dX9_part_6 : decode cX9_part 6 = .ok (.putfield 57, 3) := by decide +kernel
theorem dX9_part_9 : decode cX9_part 9 = .ok (.aload_n 0, 1) := by decide +kernel
theorem dX9_part_10 : decode cX9_part 10 = .ok (.getfield 57, 3) := by decide +kernel
theorem dX9_part_13 : decode cX9_part 13 = .ok (.ifCond .le 5, 3) := by decide +kernel
theorem dX9_part_16 : decode cX9_part 16 = .ok (.iconst 0, 1) := by decide +kernel
theorem dX9_part_17 : decode cX9_part 17 = .ok (.ireturn, 1) := by decide +kernel
theorem dX9_part_18 : decode cX9_part 18 = .ok (.aload_n 0, 1) := by decide +kernel
theorem dX9_part_19 : decode cX9_part 19 = .ok (.invokevirtual 75, 3) := by decide +kernel
theorem dX9_part_22 : decode cX9_part 22 = .ok (.aload_n 0, 1) := by decide +kernel
theorem dX9_part_23 : decode cX9_part 23 = .ok (.getfield 7, 3) := by decide +kernel
theorem dX9_part_26 : decode cX9_part 26 = .ok (.bipush 82, 2) := by decide +kernel
theorem dX9_part_28 : decode cX9_part 28 = .ok (.iload_n 1, 1) := by decide +kernel
theorem dX9_part_29 : decode cX9_part 29 = .ok (.iadd, 1) := by decide +kernel
theorem dX9_part_30 : decode cX9_part 30 = .ok (.iaload, 1) := by decide +kernel
theorem dX9_part_31 : decode cX9_part 31 = .ok (.istore_n 2, 1) := by decide +kernel
theorem dX9_part_32 : decode cX9_part 32 = .ok (.aload_n 0, 1) := by decide +kernel
theorem dX9_part_33 : decode cX9_part 33 = .ok (.getfield 7, 3) := by decide +kernel
theorem dX9_part_36 : decode cX9_part 36 = .ok (.bipush 82, 2) := by decide +kernel
theorem dX9_part_38 : decode cX9_part 38 = .ok (.iload_n 1, 1) := by decide +kernel
theorem dX9_part_39 : decode cX9_part 39 = .ok (.iadd, 1) := by decide +kernel
theorem dX9_part_40 : decode cX9_part 40 = .ok (.iconst (-1), 1) := by decide +kernel
theorem dX9_part_41 : decode cX9_part 41 = .ok (.iastore, 1) := by decide +kernel
theorem dX9_part_42 : decode cX9_part 42 = .ok (.aload_n 0, 1) := by decide +kernel
theorem dX9_part_43 : decode cX9_part 43 = .ok (.getfield 7, 3) := by decide +kernel
theorem dX9_part_46 : decode cX9_part 46 = .ok (.bipush 82, 2) := by decide +kernel
theorem dX9_part_48 : decode cX9_part 48 = .ok (.iload_n 2, 1) := by decide +kernel
theorem dX9_part_49 : decode cX9_part 49 = .ok (.iadd, 1) := by decide +kernel
theorem dX9_part_50 : decode cX9_part 50 = .ok (.iconst (-1), 1) := by decide +kernel
theorem dX9_part_51 : decode cX9_part 51 = .ok (.iastore, 1) := by decide +kernel
theorem dX9_part_52 : decode cX9_part 52 = .ok (.iload_n 2, 1) := by decide +kernel
theorem dX9_part_53 : decode cX9_part 53 = .ok (.ireturn, 1) := by decide +kernel
theorem c_X9_part {a0 : Nat} {a1 : Int32} : CWp S N d MX9_part [.ref a0, .int a1] I J P Q ↔ Wp S N d MX9_part 0 [some (.ref a0), some (.int a1), none] [] I J P Q := by
  rw [cwp_iff]
  exact ⟨fun h => h.2, fun h => ⟨Nat.le_of_ble_eq_true rfl, h⟩⟩
theorem e_X9_part_0 {w : Nat} {x1 x2 : Option Value} : Wp S N d MX9_part 0 [some (.ref w), x1, x2] [] I J P Q ↔ Wp S N d MX9_part 1 [some (.ref w), x1, x2] [.ref w] I J P Q := wp_lod (len := 1) rfl rfl rfl rfl dX9_part_0
theorem e_X9_part_1 {v0 : Nat} {w : Nat} {x1 x2 : Option Value} : Wp S N d MX9_part 1 [some (.ref w), x1, x2] [.ref v0] I J P Q ↔ Wp S N d MX9_part 2 [some (.ref w), x1, x2] [.ref w, .ref v0] I J P Q := wp_lod (len := 1) rfl rfl rfl rfl dX9_part_1
theorem e_X9_part_2 {v0 : Nat} {v1 : Nat} {w : Int32} {x0 x2 : Option Value} : Wp S N d MX9_part 2 [x0, some (.int w), x2] [.ref v0, .ref v1] I J P Q ↔ Wp S N d MX9_part 3 [x0, some (.int w), x2] [.int w, .ref v0, .ref v1] I J P Q := wp_lod (len := 1) rfl rfl rfl rfl dX9_part_2
theorem e_X9_part_3 {v0 : Int32} {v1 : Nat} {v2 : Nat} {x0 x1 x2 : Option Value} : Wp S N (d + 1) MX9_part 3 [x0, x1, x2] [.int v0, .ref v1, .ref v2] I J P Q ↔ S v1 = 9 ∧ CWp S N d MX9_coupled [.ref v1, .int v0] I J P (fun r I1 J1 P1 => Wp S N (d + 1) MX9_part 6 [x0, x1, x2] (r.toList ++ [.ref v2]) I1 J1 P1 Q) := wp_callV (M' := MX9_coupled) (As := [.int v0]) rfl rfl rfl rfl (by decide) (Nat.le_of_ble_eq_true rfl) dX9_part_3
theorem e_X9_part_6 {v0 : Int32} {v1 : Nat} {x0 x1 x2 : Option Value} : Wp S N d MX9_part 6 [x0, x1, x2] [.int v0, .ref v1] I J P Q ↔ S v1 = 9 ∧ Wp S N d MX9_part 9 [x0, x1, x2] [] (u2 I v1 8 v0) J P Q := wp_putI rfl rfl rfl rfl dX9_part_6
theorem e_X9_part_9 {w : Nat} {x1 x2 : Option Value} : Wp S N d MX9_part 9 [some (.ref w), x1, x2] [] I J P Q ↔ Wp S N d MX9_part 10 [some (.ref w), x1, x2] [.ref w] I J P Q := wp_lod (len := 1) rfl rfl rfl rfl dX9_part_9
theorem e_X9_part_10 {v0 : Nat} {x0 x1 x2 : Option Value} : Wp S N d MX9_part 10 [x0, x1, x2] [.ref v0] I J P Q ↔ S v0 = 9 ∧ Wp S N d MX9_part 13 [x0, x1, x2] [.int (I v0 8)] I J P Q := wp_getf rfl rfl rfl rfl dX9_part_10
theorem e_X9_part_13 {v0 : Int32} {x0 x1 x2 : Option Value} : Wp S N d MX9_part 13 [x0, x1, x2] [.int v0] I J P Q ↔ (v0 ≤ 0 → Wp S N d MX9_part 18 [x0, x1, x2] [] I J P Q) ∧ (¬ v0 ≤ 0 → Wp S N d MX9_part 16 [x0, x1, x2] [] I J P Q) := wp_br rfl rfl (by decide) dX9_part_13
theorem e_X9_part_16  {x0 x1 x2 : Option Value} : Wp S N d MX9_part 16 [x0, x1, x2] [] I J P Q ↔ Wp S N d MX9_part 17 [x0, x1, x2] [.int 0] I J P Q := wp_iconst (by decide) dX9_part_16
theorem e_X9_part_17 {v0 : Int32} {x0 x1 x2 : Option Value} : Wp S N d MX9_part 17 [x0, x1, x2] [.int v0] I J P Q ↔ Q (some (.int v0)) I J P := wp_iret rfl dX9_part_17
theorem e_X9_part_18 {w : Nat} {x1 x2 : Option Value} : Wp S N d MX9_part 18 [some (.ref w), x1, x2] [] I J P Q ↔ Wp S N d MX9_part 19 [some (.ref w), x1, x2] [.ref w] I J P Q := wp_lod (len := 1) rfl rfl rfl rfl dX9_part_18
theorem e_X9_part_19 {v0 : Nat} {x0 x1 x2 : Option Value} : Wp S N (d + 1) MX9_part 19 [x0, x1, x2] [.ref v0] I J P Q ↔ S v0 = 9 ∧ CWp S N d MX9_changes [.ref v0] I J P (fun r I1 J1 P1 => Wp S N (d + 1) MX9_part 22 [x0, x1, x2] (r.toList ++ []) I1 J1 P1 Q) := wp_callV (M' := MX9_changes) (As := []) rfl rfl rfl rfl (by decide) (Nat.le_of_ble_eq_true rfl) dX9_part_19
theorem e_X9_part_22 {w : Nat} {x1 x2 : Option Value} : Wp S N d MX9_part 22 [some (.ref w), x1, x2] [] I J P Q ↔ Wp S N d MX9_part 23 [some (.ref w), x1, x2] [.ref w] I J P Q := wp_lod (len := 1) rfl rfl rfl rfl dX9_part_22
theorem e_X9_part_23 {v0 : Nat} {x0 x1 x2 : Option Value} : Wp S N d MX9_part 23 [x0, x1, x2] [.ref v0] I J P Q ↔ S v0 = 9 ∧ Wp S N d MX9_part 26 [x0, x1, x2] [va_rf (P v0 0)] I J P Q := wp_getf rfl rfl rfl rfl dX9_part_23
theorem e_X9_part_26 {v0 : Nat} {x0 x1 x2 : Option Value} : Wp S N d MX9_part 26 [x0, x1, x2] [.ref v0] I J P Q ↔ Wp S N d MX9_part 28 [x0, x1, x2] [.int 82, .ref v0] I J P Q := wp_bipush (by decide) dX9_part_26
theorem e_X9_part_28 {v0 : Int32} {v1 : Nat} {w : Int32} {x0 x2 : Option Value} : Wp S N d MX9_part 28 [x0, some (.int w), x2] [.int v0, .ref v1] I J P Q ↔ Wp S N d MX9_part 29 [x0, some (.int w), x2] [.int w, .int v0, .ref v1] I J P Q := wp_lod (len := 1) rfl rfl rfl rfl dX9_part_28
theorem e_X9_part_29 {v0 : Int32} {v1 : Int32} {v2 : Nat} {x0 x1 x2 : Option Value} : Wp S N d MX9_part 29 [x0, x1, x2] [.int v0, .int v1, .ref v2] I J P Q ↔ Wp S N d MX9_part 30 [x0, x1, x2] [.int (v1 + v0), .ref v2] I J P Q := wp_alu (len := 1) rfl rfl rfl dX9_part_29
theorem e_X9_part_30 {v0 : Int32} {v1 : Nat} {x0 x1 x2 : Option Value} : Wp S N d MX9_part 30 [x0, x1, x2] [.int v0, .ref v1] I J P Q ↔ (S v1 = 10 ∧ vp_in v0 (N v1)) ∧ Wp S N d MX9_part 31 [x0, x1, x2] [.int (I v1 v0.toNatClampNeg)] I J P Q := wp_ald rfl rfl dX9_part_30
theorem e_X9_part_31 {v0 : Int32} {x0 x1 x2 : Option Value} : Wp S N d MX9_part 31 [x0, x1, x2] [.int v0] I J P Q ↔ Wp S N d MX9_part 32 [x0, kl x1, some (.int v0)] [] I J P Q := wp_sto (len := 1) rfl rfl rfl rfl (Nat.le_of_ble_eq_true rfl) rfl dX9_part_31
theorem e_X9_part_32 {w : Nat} {x1 x2 : Option Value} : Wp S N d MX9_part 32 [some (.ref w), x1, x2] [] I J P Q ↔ Wp S N d MX9_part 33 [some (.ref w), x1, x2] [.ref w] I J P Q := wp_lod (len := 1) rfl rfl rfl rfl dX9_part_32
theorem e_X9_part_33 {v0 : Nat} {x0 x1 x2 : Option Value} : Wp S N d MX9_part 33 [x0, x1, x2] [.ref v0] I J P Q ↔ S v0 = 9 ∧ Wp S N d MX9_part 36 [x0, x1, x2] [va_rf (P v0 0)] I J P Q := wp_getf rfl rfl rfl rfl dX9_part_33
theorem e_X9_part_36 {v0 : Nat} {x0 x1 x2 : Option Value} : Wp S N d MX9_part 36 [x0, x1, x2] [.ref v0] I J P Q ↔ Wp S N d MX9_part 38 [x0, x1, x2] [.int 82, .ref v0] I J P Q := wp_bipush (by decide) dX9_part_36
theorem e_X9_part_38 {v0 : Int32} {v1 : Nat} {w : Int32} {x0 x2 : Option Value} : Wp S N d MX9_part 38 [x0, some (.int w), x2] [.int v0, .ref v1] I J P Q ↔ Wp S N d MX9_part 39 [x0, some (.int w), x2] [.int w, .int v0, .ref v1] I J P Q := wp_lod (len := 1) rfl rfl rfl rfl dX9_part_38
theorem e_X9_part_39 {v0 : Int32} {v1 : Int32} {v2 : Nat} {x0 x1 x2 : Option Value} : Wp S N d MX9_part 39 [x0, x1, x2] [.int v0, .int v1, .ref v2] I J P Q ↔ Wp S N d MX9_part 40 [x0, x1, x2] [.int (v1 + v0), .ref v2] I J P Q := wp_alu (len := 1) rfl rfl rfl dX9_part_39
theorem e_X9_part_40 {v0 : Int32} {v1 : Nat} {x0 x1 x2 : Option Value} : Wp S N d MX9_part 40 [x0, x1, x2] [.int v0, .ref v1] I J P Q ↔ Wp S N d MX9_part 41 [x0, x1, x2] [.int (-1), .int v0, .ref v1] I J P Q := wp_iconst (by decide) dX9_part_40
theorem e_X9_part_41 {v0 : Int32} {v1 : Int32} {v2 : Nat} {x0 x1 x2 : Option Value} : Wp S N d MX9_part 41 [x0, x1, x2] [.int v0, .int v1, .ref v2] I J P Q ↔ (S v2 = 10 ∧ vp_in v1 (N v2)) ∧ Wp S N d MX9_part 42 [x0, x1, x2] [] (u2 I v2 v1.toNatClampNeg v0) J P Q := wp_ast rfl rfl dX9_part_41
theorem e_X9_part_42 {w : Nat} {x1 x2 : Option Value} : Wp S N d MX9_part 42 [some (.ref w), x1, x2] [] I J P Q ↔ Wp S N d MX9_part 43 [some (.ref w), x1, x2] [.ref w] I J P Q := wp_lod (len := 1) rfl rfl rfl rfl dX9_part_42
theorem e_X9_part_43 {v0 : Nat} {x0 x1 x2 : Option Value} : Wp S N d MX9_part 43 [x0, x1, x2] [.ref v0] I J P Q ↔ S v0 = 9 ∧ Wp S N d MX9_part 46 [x0, x1, x2] [va_rf (P v0 0)] I J P Q := wp_getf rfl rfl rfl rfl dX9_part_43
theorem e_X9_part_46 {v0 : Nat} {x0 x1 x2 : Option Value} : Wp S N d MX9_part 46 [x0, x1, x2] [.ref v0] I J P Q ↔ Wp S N d MX9_part 48 [x0, x1, x2] [.int 82, .ref v0] I J P Q := wp_bipush (by decide) dX9_part_46
theorem e_X9_part_48 {v0 : Int32} {v1 : Nat} {w : Int32} {x0 x1 : Option Value} : Wp S N d MX9_part 48 [x0, x1, some (.int w)] [.int v0, .ref v1] I J P Q ↔ Wp S N d MX9_part 49 [x0, x1, some (.int w)] [.int w, .int v0, .ref v1] I J P Q := wp_lod (len := 1) rfl rfl rfl rfl dX9_part_48
theorem e_X9_part_49 {v0 : Int32} {v1 : Int32} {v2 : Nat} {x0 x1 x2 : Option Value} : Wp S N d MX9_part 49 [x0, x1, x2] [.int v0, .int v1, .ref v2] I J P Q ↔ Wp S N d MX9_part 50 [x0, x1, x2] [.int (v1 + v0), .ref v2] I J P Q := wp_alu (len := 1) rfl rfl rfl dX9_part_49
theorem e_X9_part_50 {v0 : Int32} {v1 : Nat} {x0 x1 x2 : Option Value} : Wp S N d MX9_part 50 [x0, x1, x2] [.int v0, .ref v1] I J P Q ↔ Wp S N d MX9_part 51 [x0, x1, x2] [.int (-1), .int v0, .ref v1] I J P Q := wp_iconst (by decide) dX9_part_50
theorem e_X9_part_51 {v0 : Int32} {v1 : Int32} {v2 : Nat} {x0 x1 x2 : Option Value} : Wp S N d MX9_part 51 [x0, x1, x2] [.int v0, .int v1, .ref v2] I J P Q ↔ (S v2 = 10 ∧ vp_in v1 (N v2)) ∧ Wp S N d MX9_part 52 [x0, x1, x2] [] (u2 I v2 v1.toNatClampNeg v0) J P Q := wp_ast rfl rfl dX9_part_51
theorem e_X9_part_52 {w : Int32} {x0 x1 : Option Value} : Wp S N d MX9_part 52 [x0, x1, some (.int w)] [] I J P Q ↔ Wp S N d MX9_part 53 [x0, x1, some (.int w)] [.int w] I J P Q := wp_lod (len := 1) rfl rfl rfl rfl dX9_part_52
theorem e_X9_part_53 {v0 : Int32} {x0 x1 x2 : Option Value} : Wp S N d MX9_part 53 [x0, x1, x2] [.int v0] I J P Q ↔ Q (some (.int v0)) I J P := wp_iret rfl dX9_part_53
theorem dX9_partner_0 : decode cX9_partner 0 = .ok (.aload_n 0, 1) := by decide +kernel
theorem dX9_partner_1 : decode cX9_partner 1 = .ok (.aload_n 0, 1) := by decide +kernel
theorem dX9_partner_2 : decode cX9_partner 2 = .ok (.iload_n 1, 1) := by decide +kernel
theorem dX9_partner_3 : decode cX9_partner 3 = .ok (.invokevirtual 146, 3) := by decide +kernel
theorem dX9_partner_6 : decode cX9_partner 6 = .ok (.putfield 57, 3) := by decide +kernel
theorem dX9_partner_9 : decode cX9_partner 9 = .ok (.aload_n 0, 1) := by decide +kernel
theorem dX9_partner_10 : decode cX9_partner 10 = .ok (.getfield 57, 3) := by decide +kernel
theorem dX9_partner_13 : decode cX9_partner 13 = .ok (.ifCond .le 7, 3) := by decide +kernel
theorem dX9_partner_16 : decode cX9_partner 16 = .ok (.iconst 0, 1) := by decide +kernel
theorem dX9_partner_17 : decode cX9_partner 17 = .ok (.goto 12, 3) := by decide +kernel
theorem dX9_partner_20 : decode cX9_partner 20 = .ok (.aload_n 0, 1) := by decide +kernel
theorem dX9_partner_21 : decode cX9_partner 21 = .ok (.getfield 7, 3) := by decide +kernel
theorem dX9_partner_24 : decode cX9_partner 24 = .ok (.bipush 82, 2) := by decide +kernel
theorem dX9_partner_26 : decode cX9_partner 26 = .ok (.iload_n 1, 1) := by decide +kernel
theorem dX9_partner_27 : decode cX9_partner 27 = .ok (.iadd, 1) := by decide +kernel
theorem dX9_partner_28 : decode cX9_partner 28 = .ok (.iaload, 1) := by decide +kernel
theorem dX9_partner_29 : decode cX9_partner 29 = .ok (.ireturn, 1) := by decide +kernel
theorem c_X9_partner {a0 : Nat} {a1 : Int32} : CWp S N d MX9_partner [.ref a0, .int a1] I J P Q ↔ Wp S N d MX9_partner 0 [some (.ref a0), some (.int a1)] [] I J P Q := by
  rw [cwp_iff]
  exact ⟨fun h => h.2, fun h => ⟨Nat.le_of_ble_eq_true rfl, h⟩⟩
theorem e_X9_partner_0 {w : Nat} {x1 : Option Value} : Wp S N d MX9_partner 0 [some (.ref w), x1] [] I J P Q ↔ Wp S N d MX9_partner 1 [some (.ref w), x1] [.ref w] I J P Q := wp_lod (len := 1) rfl rfl rfl rfl dX9_partner_0
theorem e_X9_partner_1 {v0 : Nat} {w : Nat} {x1 : Option Value} : Wp S N d MX9_partner 1 [some (.ref w), x1] [.ref v0] I J P Q ↔ Wp S N d MX9_partner 2 [some (.ref w), x1] [.ref w, .ref v0] I J P Q := wp_lod (len := 1) rfl rfl rfl rfl dX9_partner_1
theorem e_X9_partner_2 {v0 : Nat} {v1 : Nat} {w : Int32} {x0 : Option Value} : Wp S N d MX9_partner 2 [x0, some (.int w)] [.ref v0, .ref v1] I J P Q ↔ Wp S N d MX9_partner 3 [x0, some (.int w)] [.int w, .ref v0, .ref v1] I J P Q := wp_lod (len := 1) rfl rfl rfl rfl dX9_partner_2
theorem e_X9_partner_3 {v0 : Int32} {v1 : Nat} {v2 : Nat} {x0 x1 : Option Value} : Wp S N (d + 1) MX9_partner 3 [x0, x1] [.int v0, .ref v1, .ref v2] I J P Q ↔ S v1 = 9 ∧ CWp S N d MX9_coupled [.ref v1, .int v0] I J P (fun r I1 J1 P1 => Wp S N (d + 1) MX9_partner 6 [x0, x1] (r.toList ++ [.ref v2]) I1 J1 P1 Q) := wp_callV (M' := MX9_coupled) (As := [.int v0]) rfl rfl rfl rfl (by decide) (Nat.le_of_ble_eq_true rfl) dX9_partner_3
theorem e_X9_partner_6 {v0 : Int32} {v1 : Nat} {x0 x1 : Option Value} : Wp S N d MX9_partner 6 [x0, x1] [.int v0, .ref v1] I J P Q ↔ S v1 = 9 ∧ Wp S N d MX9_partner 9 [x0, x1] [] (u2 I v1 8 v0) J P Q := wp_putI rfl rfl rfl rfl dX9_partner_6
theorem e_X9_partner_9 {w : Nat} {x1 : Option Value} : Wp S N d MX9_partner 9 [some (.ref w), x1] [] I J P Q ↔ Wp S N d MX9_partner 10 [some (.ref w), x1] [.ref w] I J P Q := wp_lod (len := 1) rfl rfl rfl rfl dX9_partner_9
theorem e_X9_partner_10 {v0 : Nat} {x0 x1 : Option Value} : Wp S N d MX9_partner 10 [x0, x1] [.ref v0] I J P Q ↔ S v0 = 9 ∧ Wp S N d MX9_partner 13 [x0, x1] [.int (I v0 8)] I J P Q := wp_getf rfl rfl rfl rfl dX9_partner_10
theorem e_X9_partner_13 {v0 : Int32} {x0 x1 : Option Value} : Wp S N d MX9_partner 13 [x0, x1] [.int v0] I J P Q ↔ (v0 ≤ 0 → Wp S N d MX9_partner 20 [x0, x1] [] I J P Q) ∧ (¬ v0 ≤ 0 → Wp S N d MX9_partner 16 [x0, x1] [] I J P Q) := wp_br rfl rfl (by decide) dX9_partner_13
theorem e_X9_partner_16  {x0 x1 : Option Value} : Wp S N d MX9_partner 16 [x0, x1] [] I J P Q ↔ Wp S N d MX9_partner 17 [x0, x1] [.int 0] I J P Q := wp_iconst (by decide) dX9_partner_16
theorem e_X9_partner_17 {v0 : Int32} {x0 x1 : Option Value} : Wp S N d MX9_partner 17 [x0, x1] [.int v0] I J P Q ↔ Wp S N d MX9_partner 29 [x0, x1] [.int v0] I J P Q := wp_go (len := 3) rfl (fun _ _ => rfl) rfl (by decide) dX9_partner_17
theorem e_X9_partner_20 {w : Nat} {x1 : Option Value} : Wp S N d MX9_partner 20 [some (.ref w), x1] [] I J P Q ↔ Wp S N d MX9_partner 21 [some (.ref w), x1] [.ref w] I J P Q := wp_lod (len := 1) rfl rfl rfl rfl dX9_partner_20
theorem e_X9_partner_21 {v0 : Nat} {x0 x1 : Option Value} : Wp S N d MX9_partner 21 [x0, x1] [.ref v0] I J P Q ↔ S v0 = 9 ∧ Wp S N d MX9_partner 24 [x0, x1] [va_rf (P v0 0)] I J P Q := wp_getf rfl rfl rfl rfl dX9_partner_21
theorem e_X9_partner_24 {v0 : Nat} {x0 x1 : Option Value} : Wp S N d MX9_partner 24 [x0, x1] [.ref v0] I J P Q ↔ Wp S N d MX9_partner 26 [x0, x1] [.int 82, .ref v0] I J P Q := wp_bipush (by decide) dX9_partner_24
theorem e_X9_partner_26 {v0 : Int32} {v1 : Nat} {w : Int32} {x0 : Option Value} : Wp S N d MX9_partner 26 [x0, some (.int w)] [.int v0, .ref v1] I J P Q ↔ Wp S N d MX9_partner 27 [x0, some (.int w)] [.int w, .int v0, .ref v1] I J P Q := wp_lod (len := 1) rfl rfl rfl rfl dX9_partner_26
theorem e_X9_partner_27 {v0 : Int32} {v1 : Int32} {v2 : Nat} {x0 x1 : Option Value} : Wp S N d MX9_partner 27 [x0, x1] [.int v0, .int v1, .ref v2] I J P Q ↔ Wp S N d MX9_partner 28 [x0, x1] [.int (v1 + v0), .ref v2] I J P Q := wp_alu (len := 1) rfl rfl rfl dX9_partner_27
theorem e_X9_partner_28 {v0 : Int32} {v1 : Nat} {x0 x1 : Option Value} : Wp S N d MX9_partner 28 [x0, x1] [.int v0, .ref v1] I J P Q ↔ (S v1 = 10 ∧ vp_in v0 (N v1)) ∧ Wp S N d MX9_partner 29 [x0, x1] [.int (I v1 v0.toNatClampNeg)] I J P Q := wp_ald rfl rfl dX9_partner_28
theorem e_X9_partner_29 {v0 : Int32} {x0 x1 : Option Value} : Wp S N d MX9_partner 29 [x0, x1] [.int v0] I J P Q ↔ Q (some (.int v0)) I J P := wp_iret rfl dX9_partner_29
end ER

/-! the instructions' rules: X9_(in|isPerson|isCredit|creditOf|fails|thrown|here|skips|number|rate|of)$ -/
section ER
variable {S N : Nat → Nat} {d : Nat} {I : IM} {J : JM} {P : PM} {Q : Option Value → IM → JM → PM → Prop}
theorem dX9_thrown_0 : decode cX9_thrown 0 = .ok (.aload_n 0, 1) := by decide +kernel
theorem dX9_thrown_1 : decode cX9_thrown 1 = .ok (.getfield 57, 3) := by decide +kernel
theorem dX9_thrown_4 : decode cX9_thrown 4 = .ok (.ireturn, 1) := by decide +kernel
theorem c_X9_thrown {a0 : Nat} : CWp S N d MX9_thrown [.ref a0] I J P Q ↔ Wp S N d MX9_thrown 0 [some (.ref a0)] [] I J P Q := by
  rw [cwp_iff]
  exact ⟨fun h => h.2, fun h => ⟨Nat.le_of_ble_eq_true rfl, h⟩⟩
theorem e_X9_thrown_0 {w : Nat} : Wp S N d MX9_thrown 0 [some (.ref w)] [] I J P Q ↔ Wp S N d MX9_thrown 1 [some (.ref w)] [.ref w] I J P Q := wp_lod rfl rfl rfl rfl dX9_thrown_0
theorem e_X9_thrown_1 {v0 : Nat} {x0 : Option Value} : Wp S N d MX9_thrown 1 [x0] [.ref v0] I J P Q ↔ S v0 = 9 ∧ Wp S N d MX9_thrown 4 [x0] [.int (I v0 8)] I J P Q := wp_getf rfl rfl rfl rfl dX9_thrown_1
theorem e_X9_thrown_4 {v0 : Int32} {x0 : Option Value} : Wp S N d MX9_thrown 4 [x0] [.int v0] I J P Q ↔ Q (some (.int v0)) I J P := wp_iret rfl dX9_thrown_4
theorem dX9_fails_0 : decode cX9_fails 0 = .ok (.aload_n 0, 1) := by decide +kernel
theorem dX9_fails_1 : decode cX9_fails 1 = .ok (.iload_n 1, 1) := by decide +kernel
theorem dX9_fails_2 : decode cX9_fails 2 = .ok (.putfield 57, 3) := by decide +kernel
theorem dX9_fails_5 : decode cX9_fails 5 = .ok (.iconst 0, 1) := by decide +kernel
theorem dX9_fails_6 : decode cX9_fails 6 = .ok (.ireturn, 1) := by decide +kernel
theorem c_X9_fails {a0 : Nat} {a1 : Int32} : CWp S N d MX9_fails [.ref a0, .int a1] I J P Q ↔ Wp S N d MX9_fails 0 [some (.ref a0), some (.int a1)] [] I J P Q := by
  rw [cwp_iff]
  exact ⟨fun h => h.2, fun h => ⟨Nat.le_of_ble_eq_true rfl, h⟩⟩
theorem e_X9_fails_0 {w : Nat} {x1 : Option Value} : Wp S N d MX9_fails 0 [some (.ref w), x1] [] I J P Q ↔ Wp S N d MX9_fails 1 [some (.ref w), x1] [.ref w] I J P Q := wp_lod rfl rfl rfl rfl dX9_fails_0
theorem e_X9_fails_1 {v0 : Nat} {w : Int32} {x0 : Option Value} : Wp S N d MX9_fails 1 [x0, some (.int w)] [.ref v0] I J P Q ↔ Wp S N d MX9_fails 2 [x0, some (.int w)] [.int w, .ref v0] I J P Q := wp_lod rfl rfl rfl rfl dX9_fails_1
theorem e_X9_fails_2 {v0 : Int32} {v1 : Nat} {x0 x1 : Option Value} : Wp S N d MX9_fails 2 [x0, x1] [.int v0, .ref v1] I J P Q ↔ S v1 = 9 ∧ Wp S N d MX9_fails 5 [x0, x1] [] (u2 I v1 8 v0) J P Q := wp_putI rfl rfl rfl rfl dX9_fails_2
theorem e_X9_fails_5  {x0 x1 : Option Value} : Wp S N d MX9_fails 5 [x0, x1] [] I J P Q ↔ Wp S N d MX9_fails 6 [x0, x1] [.int 0] I J P Q := wp_iconst (by decide) dX9_fails_5
theorem e_X9_fails_6 {v0 : Int32} {x0 x1 : Option Value} : Wp S N d MX9_fails 6 [x0, x1] [.int v0] I J P Q ↔ Q (some (.int v0)) I J P := wp_iret rfl dX9_fails_6
theorem dX9_in_0 : decode cX9_in 0 = .ok (.iload_n 0, 1) := by decide +kernel
theorem dX9_in_1 : decode cX9_in 1 = .ok (.iload_n 1, 1) := by decide +kernel
theorem dX9_in_2 : decode cX9_in 2 = .ok (.if_icmp .lt 12, 3) := by decide +kernel
theorem dX9_in_5 : decode cX9_in 5 = .ok (.iload_n 0, 1) := by decide +kernel
theorem dX9_in_6 : decode cX9_in 6 = .ok (.iload_n 2, 1) := by decide +kernel
theorem dX9_in_7 : decode cX9_in 7 = .ok (.if_icmp .gt 7, 3) := by decide +kernel
theorem dX9_in_10 : decode cX9_in 10 = .ok (.iconst 1, 1) := by decide +kernel
theorem dX9_in_11 : decode cX9_in 11 = .ok (.goto 4, 3) := by decide +kernel
theorem dX9_in_14 : decode cX9_in 14 = .ok (.iconst 0, 1) := by decide +kernel
theorem dX9_in_15 : decode cX9_in 15 = .ok (.ireturn, 1) := by decide +kernel
theorem c_X9_in {a0 : Int32} {a1 : Int32} {a2 : Int32} : CWp S N d MX9_in [.int a0, .int a1, .int a2] I J P Q ↔ Wp S N d MX9_in 0 [some (.int a0), some (.int a1), some (.int a2)] [] I J P Q := by
  rw [cwp_iff]
  exact ⟨fun h => h.2, fun h => ⟨Nat.le_of_ble_eq_true rfl, h⟩⟩
theorem e_X9_in_0 {w : Int32} {x1 x2 : Option Value} : Wp S N d MX9_in 0 [some (.int w), x1, x2] [] I J P Q ↔ Wp S N d MX9_in 1 [some (.int w), x1, x2] [.int w] I J P Q := wp_lod rfl rfl rfl rfl dX9_in_0
theorem e_X9_in_1 {v0 : Int32} {w : Int32} {x0 x2 : Option Value} : Wp S N d MX9_in 1 [x0, some (.int w), x2] [.int v0] I J P Q ↔ Wp S N d MX9_in 2 [x0, some (.int w), x2] [.int w, .int v0] I J P Q := wp_lod rfl rfl rfl rfl dX9_in_1
theorem e_X9_in_2 {v0 : Int32} {v1 : Int32} {x0 x1 x2 : Option Value} : Wp S N d MX9_in 2 [x0, x1, x2] [.int v0, .int v1] I J P Q ↔ (v1 < v0 → Wp S N d MX9_in 14 [x0, x1, x2] [] I J P Q) ∧ (¬ v1 < v0 → Wp S N d MX9_in 5 [x0, x1, x2] [] I J P Q) := wp_br rfl rfl (by decide) dX9_in_2
theorem e_X9_in_5 {w : Int32} {x1 x2 : Option Value} : Wp S N d MX9_in 5 [some (.int w), x1, x2] [] I J P Q ↔ Wp S N d MX9_in 6 [some (.int w), x1, x2] [.int w] I J P Q := wp_lod rfl rfl rfl rfl dX9_in_5
theorem e_X9_in_6 {v0 : Int32} {w : Int32} {x0 x1 : Option Value} : Wp S N d MX9_in 6 [x0, x1, some (.int w)] [.int v0] I J P Q ↔ Wp S N d MX9_in 7 [x0, x1, some (.int w)] [.int w, .int v0] I J P Q := wp_lod rfl rfl rfl rfl dX9_in_6
theorem e_X9_in_7 {v0 : Int32} {v1 : Int32} {x0 x1 x2 : Option Value} : Wp S N d MX9_in 7 [x0, x1, x2] [.int v0, .int v1] I J P Q ↔ (v0 < v1 → Wp S N d MX9_in 14 [x0, x1, x2] [] I J P Q) ∧ (¬ v0 < v1 → Wp S N d MX9_in 10 [x0, x1, x2] [] I J P Q) := wp_br rfl rfl (by decide) dX9_in_7
theorem e_X9_in_10  {x0 x1 x2 : Option Value} : Wp S N d MX9_in 10 [x0, x1, x2] [] I J P Q ↔ Wp S N d MX9_in 11 [x0, x1, x2] [.int 1] I J P Q := wp_iconst (by decide) dX9_in_10
theorem e_X9_in_11 {v0 : Int32} {x0 x1 x2 : Option Value} : Wp S N d MX9_in 11 [x0, x1, x2] [.int v0] I J P Q ↔ Wp S N d MX9_in 15 [x0, x1, x2] [.int v0] I J P Q := wp_go rfl (fun _ _ => rfl) rfl (by decide) dX9_in_11
theorem e_X9_in_14  {x0 x1 x2 : Option Value} : Wp S N d MX9_in 14 [x0, x1, x2] [] I J P Q ↔ Wp S N d MX9_in 15 [x0, x1, x2] [.int 0] I J P Q := wp_iconst (by decide) dX9_in_14
theorem e_X9_in_15 {v0 : Int32} (hb : isB v0) {x0 x1 x2 : Option Value} : Wp S N d MX9_in 15 [x0, x1, x2] [.int v0] I J P Q ↔ Q (some (.int v0)) I J P := wp_zret rfl dX9_in_15 hb
theorem dX9_isPerson_0 : decode cX9_isPerson 0 = .ok (.iload_n 0, 1) := by decide +kernel
theorem dX9_isPerson_1 : decode cX9_isPerson 1 = .ok (.iconst 0, 1) := by decide +kernel
theorem dX9_isPerson_2 : decode cX9_isPerson 2 = .ok (.iconst 5, 1) := by decide +kernel
theorem dX9_isPerson_3 : decode cX9_isPerson 3 = .ok (.invokestatic 60, 3) := by decide +kernel
theorem dX9_isPerson_6 : decode cX9_isPerson 6 = .ok (.ireturn, 1) := by decide +kernel
theorem c_X9_isPerson {a0 : Int32} : CWp S N d MX9_isPerson [.int a0] I J P Q ↔ Wp S N d MX9_isPerson 0 [some (.int a0)] [] I J P Q := by
  rw [cwp_iff]
  exact ⟨fun h => h.2, fun h => ⟨Nat.le_of_ble_eq_true rfl, h⟩⟩
theorem e_X9_isPerson_0 {w : Int32} : Wp S N d MX9_isPerson 0 [some (.int w)] [] I J P Q ↔ Wp S N d MX9_isPerson 1 [some (.int w)] [.int w] I J P Q := wp_lod rfl rfl rfl rfl dX9_isPerson_0
theorem e_X9_isPerson_1 {v0 : Int32} {x0 : Option Value} : Wp S N d MX9_isPerson 1 [x0] [.int v0] I J P Q ↔ Wp S N d MX9_isPerson 2 [x0] [.int 0, .int v0] I J P Q := wp_iconst (by decide) dX9_isPerson_1
theorem e_X9_isPerson_2 {v0 : Int32} {v1 : Int32} {x0 : Option Value} : Wp S N d MX9_isPerson 2 [x0] [.int v0, .int v1] I J P Q ↔ Wp S N d MX9_isPerson 3 [x0] [.int 5, .int v0, .int v1] I J P Q := wp_iconst (by decide) dX9_isPerson_2
theorem e_X9_isPerson_3 {v0 : Int32} {v1 : Int32} {v2 : Int32} {x0 : Option Value} : Wp S N (d + 1) MX9_isPerson 3 [x0] [.int v0, .int v1, .int v2] I J P Q ↔ CWp S N d MX9_in [.int v2, .int v1, .int v0] I J P (fun r I1 J1 P1 => Wp S N (d + 1) MX9_isPerson 6 [x0] (r.toList ++ []) I1 J1 P1 Q) := wp_callS (As := [.int v2, .int v1, .int v0]) rfl rfl rfl rfl (Nat.le_of_ble_eq_true rfl) dX9_isPerson_3
theorem e_X9_isPerson_6 {v0 : Int32} (hb : isB v0) {x0 : Option Value} : Wp S N d MX9_isPerson 6 [x0] [.int v0] I J P Q ↔ Q (some (.int v0)) I J P := wp_zret rfl dX9_isPerson_6 hb
theorem dX9_isCredit_0 : decode cX9_isCredit 0 = .ok (.iload_n 1, 1) := by decide +kernel
theorem dX9_isCredit_1 : decode cX9_isCredit 1 = .ok (.iconst 0, 1) := by decide +kernel
theorem dX9_isCredit_2 : decode cX9_isCredit 2 = .ok (.aload_n 0, 1) := by decide +kernel
theorem dX9_isCredit_3 : decode cX9_isCredit 3 = .ok (.getfield 7, 3) := by decide +kernel
theorem dX9_isCredit_6 : decode cX9_isCredit 6 = .ok (.bipush 27, 2) := by decide +kernel
theorem dX9_isCredit_8 : decode cX9_isCredit 8 = .ok (.iaload, 1) := by decide +kernel
theorem dX9_isCredit_9 : decode cX9_isCredit 9 = .ok (.iconst 1, 1) := by decide +kernel
theorem dX9_isCredit_10 : decode cX9_isCredit 10 = .ok (.isub, 1) := by decide +kernel
theorem dX9_isCredit_11 : decode cX9_isCredit 11 = .ok (.invokestatic 60, 3) := by decide +kernel
theorem dX9_isCredit_14 : decode cX9_isCredit 14 = .ok (.ireturn, 1) := by decide +kernel
theorem c_X9_isCredit {a0 : Nat} {a1 : Int32} : CWp S N d MX9_isCredit [.ref a0, .int a1] I J P Q ↔ Wp S N d MX9_isCredit 0 [some (.ref a0), some (.int a1)] [] I J P Q := by
  rw [cwp_iff]
  exact ⟨fun h => h.2, fun h => ⟨Nat.le_of_ble_eq_true rfl, h⟩⟩
theorem e_X9_isCredit_0 {w : Int32} {x0 : Option Value} : Wp S N d MX9_isCredit 0 [x0, some (.int w)] [] I J P Q ↔ Wp S N d MX9_isCredit 1 [x0, some (.int w)] [.int w] I J P Q := wp_lod rfl rfl rfl rfl dX9_isCredit_0
theorem e_X9_isCredit_1 {v0 : Int32} {x0 x1 : Option Value} : Wp S N d MX9_isCredit 1 [x0, x1] [.int v0] I J P Q ↔ Wp S N d MX9_isCredit 2 [x0, x1] [.int 0, .int v0] I J P Q := wp_iconst (by decide) dX9_isCredit_1
theorem e_X9_isCredit_2 {v0 : Int32} {v1 : Int32} {w : Nat} {x1 : Option Value} : Wp S N d MX9_isCredit 2 [some (.ref w), x1] [.int v0, .int v1] I J P Q ↔ Wp S N d MX9_isCredit 3 [some (.ref w), x1] [.ref w, .int v0, .int v1] I J P Q := wp_lod rfl rfl rfl rfl dX9_isCredit_2
theorem e_X9_isCredit_3 {v0 : Nat} {v1 : Int32} {v2 : Int32} {x0 x1 : Option Value} : Wp S N d MX9_isCredit 3 [x0, x1] [.ref v0, .int v1, .int v2] I J P Q ↔ S v0 = 9 ∧ Wp S N d MX9_isCredit 6 [x0, x1] [va_rf (P v0 0), .int v1, .int v2] I J P Q := wp_getf rfl rfl rfl rfl dX9_isCredit_3
theorem e_X9_isCredit_6 {v0 : Nat} {v1 : Int32} {v2 : Int32} {x0 x1 : Option Value} : Wp S N d MX9_isCredit 6 [x0, x1] [.ref v0, .int v1, .int v2] I J P Q ↔ Wp S N d MX9_isCredit 8 [x0, x1] [.int 27, .ref v0, .int v1, .int v2] I J P Q := wp_bipush (by decide) dX9_isCredit_6
theorem e_X9_isCredit_8 {v0 : Int32} {v1 : Nat} {v2 : Int32} {v3 : Int32} {x0 x1 : Option Value} : Wp S N d MX9_isCredit 8 [x0, x1] [.int v0, .ref v1, .int v2, .int v3] I J P Q ↔ (S v1 = 10 ∧ vp_in v0 (N v1)) ∧ Wp S N d MX9_isCredit 9 [x0, x1] [.int (I v1 v0.toNatClampNeg), .int v2, .int v3] I J P Q := wp_ald rfl rfl dX9_isCredit_8
theorem e_X9_isCredit_9 {v0 : Int32} {v1 : Int32} {v2 : Int32} {x0 x1 : Option Value} : Wp S N d MX9_isCredit 9 [x0, x1] [.int v0, .int v1, .int v2] I J P Q ↔ Wp S N d MX9_isCredit 10 [x0, x1] [.int 1, .int v0, .int v1, .int v2] I J P Q := wp_iconst (by decide) dX9_isCredit_9
theorem e_X9_isCredit_10 {v0 : Int32} {v1 : Int32} {v2 : Int32} {v3 : Int32} {x0 x1 : Option Value} : Wp S N d MX9_isCredit 10 [x0, x1] [.int v0, .int v1, .int v2, .int v3] I J P Q ↔ Wp S N d MX9_isCredit 11 [x0, x1] [.int (v1 - v0), .int v2, .int v3] I J P Q := wp_alu rfl rfl rfl dX9_isCredit_10
theorem e_X9_isCredit_11 {v0 : Int32} {v1 : Int32} {v2 : Int32} {x0 x1 : Option Value} : Wp S N (d + 1) MX9_isCredit 11 [x0, x1] [.int v0, .int v1, .int v2] I J P Q ↔ CWp S N d MX9_in [.int v2, .int v1, .int v0] I J P (fun r I1 J1 P1 => Wp S N (d + 1) MX9_isCredit 14 [x0, x1] (r.toList ++ []) I1 J1 P1 Q) := wp_callS (As := [.int v2, .int v1, .int v0]) rfl rfl rfl rfl (Nat.le_of_ble_eq_true rfl) dX9_isCredit_11
theorem e_X9_isCredit_14 {v0 : Int32} (hb : isB v0) {x0 x1 : Option Value} : Wp S N d MX9_isCredit 14 [x0, x1] [.int v0] I J P Q ↔ Q (some (.int v0)) I J P := wp_zret rfl dX9_isCredit_14 hb
theorem dX9_creditOf_0 : decode cX9_creditOf 0 = .ok (.aload_n 0, 1) := by decide +kernel
theorem dX9_creditOf_1 : decode cX9_creditOf 1 = .ok (.getfield 7, 3) := by decide +kernel
theorem dX9_creditOf_4 : decode cX9_creditOf 4 = .ok (.bipush 28, 2) := by decide +kernel
theorem dX9_creditOf_6 : decode cX9_creditOf 6 = .ok (.bipush 6, 2) := by decide +kernel
theorem dX9_creditOf_8 : decode cX9_creditOf 8 = .ok (.iload_n 1, 1) := by decide +kernel
theorem dX9_creditOf_9 : decode cX9_creditOf 9 = .ok (.imul, 1) := by decide +kernel
theorem dX9_creditOf_10 : decode cX9_creditOf 10 = .ok (.iadd, 1) := by decide +kernel
theorem dX9_creditOf_11 : decode cX9_creditOf 11 = .ok (.iload_n 2, 1) := by decide +kernel
theorem dX9_creditOf_12 : decode cX9_creditOf 12 = .ok (.iadd, 1) := by decide +kernel
theorem dX9_creditOf_13 : decode cX9_creditOf 13 = .ok (.iaload, 1) := by decide +kernel
theorem dX9_creditOf_14 : decode cX9_creditOf 14 = .ok (.ireturn, 1) := by decide +kernel
theorem c_X9_creditOf {a0 : Nat} {a1 : Int32} {a2 : Int32} : CWp S N d MX9_creditOf [.ref a0, .int a1, .int a2] I J P Q ↔ Wp S N d MX9_creditOf 0 [some (.ref a0), some (.int a1), some (.int a2)] [] I J P Q := by
  rw [cwp_iff]
  exact ⟨fun h => h.2, fun h => ⟨Nat.le_of_ble_eq_true rfl, h⟩⟩
theorem e_X9_creditOf_0 {w : Nat} {x1 x2 : Option Value} : Wp S N d MX9_creditOf 0 [some (.ref w), x1, x2] [] I J P Q ↔ Wp S N d MX9_creditOf 1 [some (.ref w), x1, x2] [.ref w] I J P Q := wp_lod rfl rfl rfl rfl dX9_creditOf_0
theorem e_X9_creditOf_1 {v0 : Nat} {x0 x1 x2 : Option Value} : Wp S N d MX9_creditOf 1 [x0, x1, x2] [.ref v0] I J P Q ↔ S v0 = 9 ∧ Wp S N d MX9_creditOf 4 [x0, x1, x2] [va_rf (P v0 0)] I J P Q := wp_getf rfl rfl rfl rfl dX9_creditOf_1
theorem e_X9_creditOf_4 {v0 : Nat} {x0 x1 x2 : Option Value} : Wp S N d MX9_creditOf 4 [x0, x1, x2] [.ref v0] I J P Q ↔ Wp S N d MX9_creditOf 6 [x0, x1, x2] [.int 28, .ref v0] I J P Q := wp_bipush (by decide) dX9_creditOf_4
theorem e_X9_creditOf_6 {v0 : Int32} {v1 : Nat} {x0 x1 x2 : Option Value} : Wp S N d MX9_creditOf 6 [x0, x1, x2] [.int v0, .ref v1] I J P Q ↔ Wp S N d MX9_creditOf 8 [x0, x1, x2] [.int 6, .int v0, .ref v1] I J P Q := wp_bipush (by decide) dX9_creditOf_6
theorem e_X9_creditOf_8 {v0 : Int32} {v1 : Int32} {v2 : Nat} {w : Int32} {x0 x2 : Option Value} : Wp S N d MX9_creditOf 8 [x0, some (.int w), x2] [.int v0, .int v1, .ref v2] I J P Q ↔ Wp S N d MX9_creditOf 9 [x0, some (.int w), x2] [.int w, .int v0, .int v1, .ref v2] I J P Q := wp_lod rfl rfl rfl rfl dX9_creditOf_8
theorem e_X9_creditOf_9 {v0 : Int32} {v1 : Int32} {v2 : Int32} {v3 : Nat} {x0 x1 x2 : Option Value} : Wp S N d MX9_creditOf 9 [x0, x1, x2] [.int v0, .int v1, .int v2, .ref v3] I J P Q ↔ Wp S N d MX9_creditOf 10 [x0, x1, x2] [.int (v1 * v0), .int v2, .ref v3] I J P Q := wp_alu rfl rfl rfl dX9_creditOf_9
theorem e_X9_creditOf_10 {v0 : Int32} {v1 : Int32} {v2 : Nat} {x0 x1 x2 : Option Value} : Wp S N d MX9_creditOf 10 [x0, x1, x2] [.int v0, .int v1, .ref v2] I J P Q ↔ Wp S N d MX9_creditOf 11 [x0, x1, x2] [.int (v1 + v0), .ref v2] I J P Q := wp_alu rfl rfl rfl dX9_creditOf_10
theorem e_X9_creditOf_11 {v0 : Int32} {v1 : Nat} {w : Int32} {x0 x1 : Option Value} : Wp S N d MX9_creditOf 11 [x0, x1, some (.int w)] [.int v0, .ref v1] I J P Q ↔ Wp S N d MX9_creditOf 12 [x0, x1, some (.int w)] [.int w, .int v0, .ref v1] I J P Q := wp_lod rfl rfl rfl rfl dX9_creditOf_11
theorem e_X9_creditOf_12 {v0 : Int32} {v1 : Int32} {v2 : Nat} {x0 x1 x2 : Option Value} : Wp S N d MX9_creditOf 12 [x0, x1, x2] [.int v0, .int v1, .ref v2] I J P Q ↔ Wp S N d MX9_creditOf 13 [x0, x1, x2] [.int (v1 + v0), .ref v2] I J P Q := wp_alu rfl rfl rfl dX9_creditOf_12
theorem e_X9_creditOf_13 {v0 : Int32} {v1 : Nat} {x0 x1 x2 : Option Value} : Wp S N d MX9_creditOf 13 [x0, x1, x2] [.int v0, .ref v1] I J P Q ↔ (S v1 = 10 ∧ vp_in v0 (N v1)) ∧ Wp S N d MX9_creditOf 14 [x0, x1, x2] [.int (I v1 v0.toNatClampNeg)] I J P Q := wp_ald rfl rfl dX9_creditOf_13
theorem e_X9_creditOf_14 {v0 : Int32} {x0 x1 x2 : Option Value} : Wp S N d MX9_creditOf 14 [x0, x1, x2] [.int v0] I J P Q ↔ Q (some (.int v0)) I J P := wp_iret rfl dX9_creditOf_14
theorem dX9_here_0 : decode cX9_here 0 = .ok (.aload_n 0, 1) := by decide +kernel
theorem dX9_here_1 : decode cX9_here 1 = .ok (.getfield 81, 3) := by decide +kernel
theorem dX9_here_4 : decode cX9_here 4 = .ok (.aload_n 0, 1) := by decide +kernel
theorem dX9_here_5 : decode cX9_here 5 = .ok (.getfield 78, 3) := by decide +kernel
theorem dX9_here_8 : decode cX9_here 8 = .ok (.if_icmp .ge 15, 3) := by decide +kernel
theorem dX9_here_11 : decode cX9_here 11 = .ok (.aload_n 0, 1) := by decide +kernel
theorem dX9_here_12 : decode cX9_here 12 = .ok (.getfield 29, 3) := by decide +kernel
theorem dX9_here_15 : decode cX9_here 15 = .ok (.aload_n 0, 1) := by decide +kernel
theorem dX9_here_16 : decode cX9_here 16 = .ok (.getfield 81, 3) := by decide +kernel
theorem dX9_here_19 : decode cX9_here 19 = .ok (.iaload, 1) := by decide +kernel
theorem dX9_here_20 : decode cX9_here 20 = .ok (.goto 4, 3) := by decide +kernel
theorem dX9_here_23 : decode cX9_here 23 = .ok (.iconst (-1), 1) := by decide +kernel
theorem dX9_here_24 : decode cX9_here 24 = .ok (.ireturn, 1) := by decide +kernel
theorem c_X9_here {a0 : Nat} : CWp S N d MX9_here [.ref a0] I J P Q ↔ Wp S N d MX9_here 0 [some (.ref a0)] [] I J P Q := by
  rw [cwp_iff]
  exact ⟨fun h => h.2, fun h => ⟨Nat.le_of_ble_eq_true rfl, h⟩⟩
theorem e_X9_here_0 {w : Nat} : Wp S N d MX9_here 0 [some (.ref w)] [] I J P Q ↔ Wp S N d MX9_here 1 [some (.ref w)] [.ref w] I J P Q := wp_lod rfl rfl rfl rfl dX9_here_0
theorem e_X9_here_1 {v0 : Nat} {x0 : Option Value} : Wp S N d MX9_here 1 [x0] [.ref v0] I J P Q ↔ S v0 = 9 ∧ Wp S N d MX9_here 4 [x0] [.int (I v0 11)] I J P Q := wp_getf rfl rfl rfl rfl dX9_here_1
theorem e_X9_here_4 {v0 : Int32} {w : Nat} : Wp S N d MX9_here 4 [some (.ref w)] [.int v0] I J P Q ↔ Wp S N d MX9_here 5 [some (.ref w)] [.ref w, .int v0] I J P Q := wp_lod rfl rfl rfl rfl dX9_here_4
theorem e_X9_here_5 {v0 : Nat} {v1 : Int32} {x0 : Option Value} : Wp S N d MX9_here 5 [x0] [.ref v0, .int v1] I J P Q ↔ S v0 = 9 ∧ Wp S N d MX9_here 8 [x0] [.int (I v0 10), .int v1] I J P Q := wp_getf rfl rfl rfl rfl dX9_here_5
theorem e_X9_here_8 {v0 : Int32} {v1 : Int32} {x0 : Option Value} : Wp S N d MX9_here 8 [x0] [.int v0, .int v1] I J P Q ↔ (v0 ≤ v1 → Wp S N d MX9_here 23 [x0] [] I J P Q) ∧ (¬ v0 ≤ v1 → Wp S N d MX9_here 11 [x0] [] I J P Q) := wp_br rfl rfl (by decide) dX9_here_8
theorem e_X9_here_11 {w : Nat} : Wp S N d MX9_here 11 [some (.ref w)] [] I J P Q ↔ Wp S N d MX9_here 12 [some (.ref w)] [.ref w] I J P Q := wp_lod rfl rfl rfl rfl dX9_here_11
theorem e_X9_here_12 {v0 : Nat} {x0 : Option Value} : Wp S N d MX9_here 12 [x0] [.ref v0] I J P Q ↔ S v0 = 9 ∧ Wp S N d MX9_here 15 [x0] [va_rf (P v0 9)] I J P Q := wp_getf rfl rfl rfl rfl dX9_here_12
theorem e_X9_here_15 {v0 : Nat} {w : Nat} : Wp S N d MX9_here 15 [some (.ref w)] [.ref v0] I J P Q ↔ Wp S N d MX9_here 16 [some (.ref w)] [.ref w, .ref v0] I J P Q := wp_lod rfl rfl rfl rfl dX9_here_15
theorem e_X9_here_16 {v0 : Nat} {v1 : Nat} {x0 : Option Value} : Wp S N d MX9_here 16 [x0] [.ref v0, .ref v1] I J P Q ↔ S v0 = 9 ∧ Wp S N d MX9_here 19 [x0] [.int (I v0 11), .ref v1] I J P Q := wp_getf rfl rfl rfl rfl dX9_here_16
theorem e_X9_here_19 {v0 : Int32} {v1 : Nat} {x0 : Option Value} : Wp S N d MX9_here 19 [x0] [.int v0, .ref v1] I J P Q ↔ (S v1 = 10 ∧ vp_in v0 (N v1)) ∧ Wp S N d MX9_here 20 [x0] [.int (I v1 v0.toNatClampNeg)] I J P Q := wp_ald rfl rfl dX9_here_19
theorem e_X9_here_20 {v0 : Int32} {x0 : Option Value} : Wp S N d MX9_here 20 [x0] [.int v0] I J P Q ↔ Wp S N d MX9_here 24 [x0] [.int v0] I J P Q := wp_go rfl (fun _ _ => rfl) rfl (by decide) dX9_here_20
theorem e_X9_here_23  {x0 : Option Value} : Wp S N d MX9_here 23 [x0] [] I J P Q ↔ Wp S N d MX9_here 24 [x0] [.int (-1)] I J P Q := wp_iconst (by decide) dX9_here_23
theorem e_X9_here_24 {v0 : Int32} {x0 : Option Value} : Wp S N d MX9_here 24 [x0] [.int v0] I J P Q ↔ Q (some (.int v0)) I J P := wp_iret rfl dX9_here_24
theorem dX9_skips_0 : decode cX9_skips 0 = .ok (.aload_n 0, 1) := by decide +kernel
theorem dX9_skips_1 : decode cX9_skips 1 = .ok (.invokevirtual 84, 3) := by decide +kernel
theorem dX9_skips_4 : decode cX9_skips 4 = .ok (.iload_n 1, 1) := by decide +kernel
theorem dX9_skips_5 : decode cX9_skips 5 = .ok (.if_icmp .eq 5, 3) := by decide +kernel
theorem dX9_skips_8 : decode cX9_skips 8 = .ok (.iconst 0, 1) := by decide +kernel
theorem dX9_skips_9 : decode cX9_skips 9 = .ok (.ireturn, 1) := by decide +kernel
theorem dX9_skips_10 : decode cX9_skips 10 = .ok (.aload_n 0, 1) := by decide +kernel
theorem dX9_skips_11 : decode cX9_skips 11 = .ok (.dup, 1) := by decide +kernel
theorem dX9_skips_12 : decode cX9_skips 12 = .ok (.getfield 81, 3) := by decide +kernel
theorem dX9_skips_15 : decode cX9_skips 15 = .ok (.iconst 1, 1) := by decide +kernel
theorem dX9_skips_16 : decode cX9_skips 16 = .ok (.iadd, 1) := by decide +kernel
theorem dX9_skips_17 : decode cX9_skips 17 = .ok (.putfield 81, 3) := by decide +kernel
theorem dX9_skips_20 : decode cX9_skips 20 = .ok (.iconst 1, 1) := by decide +kernel
theorem dX9_skips_21 : decode cX9_skips 21 = .ok (.ireturn, 1) := by decide +kernel
theorem c_X9_skips {a0 : Nat} {a1 : Int32} : CWp S N d MX9_skips [.ref a0, .int a1] I J P Q ↔ Wp S N d MX9_skips 0 [some (.ref a0), some (.int a1)] [] I J P Q := by
  rw [cwp_iff]
  exact ⟨fun h => h.2, fun h => ⟨Nat.le_of_ble_eq_true rfl, h⟩⟩
theorem e_X9_skips_0 {w : Nat} {x1 : Option Value} : Wp S N d MX9_skips 0 [some (.ref w), x1] [] I J P Q ↔ Wp S N d MX9_skips 1 [some (.ref w), x1] [.ref w] I J P Q := wp_lod rfl rfl rfl rfl dX9_skips_0
theorem e_X9_skips_1 {v0 : Nat} {x0 x1 : Option Value} : Wp S N (d + 1) MX9_skips 1 [x0, x1] [.ref v0] I J P Q ↔ S v0 = 9 ∧ CWp S N d MX9_here [.ref v0] I J P (fun r I1 J1 P1 => Wp S N (d + 1) MX9_skips 4 [x0, x1] (r.toList ++ []) I1 J1 P1 Q) := wp_callV (As := []) rfl rfl rfl rfl (by decide) (Nat.le_of_ble_eq_true rfl) dX9_skips_1
theorem e_X9_skips_4 {v0 : Int32} {w : Int32} {x0 : Option Value} : Wp S N d MX9_skips 4 [x0, some (.int w)] [.int v0] I J P Q ↔ Wp S N d MX9_skips 5 [x0, some (.int w)] [.int w, .int v0] I J P Q := wp_lod rfl rfl rfl rfl dX9_skips_4
theorem e_X9_skips_5 {v0 : Int32} {v1 : Int32} {x0 x1 : Option Value} : Wp S N d MX9_skips 5 [x0, x1] [.int v0, .int v1] I J P Q ↔ (v1 = v0 → Wp S N d MX9_skips 10 [x0, x1] [] I J P Q) ∧ (¬ v1 = v0 → Wp S N d MX9_skips 8 [x0, x1] [] I J P Q) := wp_br rfl rfl (by decide) dX9_skips_5
theorem e_X9_skips_8  {x0 x1 : Option Value} : Wp S N d MX9_skips 8 [x0, x1] [] I J P Q ↔ Wp S N d MX9_skips 9 [x0, x1] [.int 0] I J P Q := wp_iconst (by decide) dX9_skips_8
theorem e_X9_skips_9 {v0 : Int32} (hb : isB v0) {x0 x1 : Option Value} : Wp S N d MX9_skips 9 [x0, x1] [.int v0] I J P Q ↔ Q (some (.int v0)) I J P := wp_zret rfl dX9_skips_9 hb
theorem e_X9_skips_10 {w : Nat} {x1 : Option Value} : Wp S N d MX9_skips 10 [some (.ref w), x1] [] I J P Q ↔ Wp S N d MX9_skips 11 [some (.ref w), x1] [.ref w] I J P Q := wp_lod rfl rfl rfl rfl dX9_skips_10
theorem e_X9_skips_11 {v0 : Nat} {x0 x1 : Option Value} : Wp S N d MX9_skips 11 [x0, x1] [.ref v0] I J P Q ↔ Wp S N d MX9_skips 12 [x0, x1] [.ref v0, .ref v0] I J P Q := wp_alu rfl rfl rfl dX9_skips_11
theorem e_X9_skips_12 {v0 : Nat} {v1 : Nat} {x0 x1 : Option Value} : Wp S N d MX9_skips 12 [x0, x1] [.ref v0, .ref v1] I J P Q ↔ S v0 = 9 ∧ Wp S N d MX9_skips 15 [x0, x1] [.int (I v0 11), .ref v1] I J P Q := wp_getf rfl rfl rfl rfl dX9_skips_12
theorem e_X9_skips_15 {v0 : Int32} {v1 : Nat} {x0 x1 : Option Value} : Wp S N d MX9_skips 15 [x0, x1] [.int v0, .ref v1] I J P Q ↔ Wp S N d MX9_skips 16 [x0, x1] [.int 1, .int v0, .ref v1] I J P Q := wp_iconst (by decide) dX9_skips_15
theorem e_X9_skips_16 {v0 : Int32} {v1 : Int32} {v2 : Nat} {x0 x1 : Option Value} : Wp S N d MX9_skips 16 [x0, x1] [.int v0, .int v1, .ref v2] I J P Q ↔ Wp S N d MX9_skips 17 [x0, x1] [.int (v1 + v0), .ref v2] I J P Q := wp_alu rfl rfl rfl dX9_skips_16
theorem e_X9_skips_17 {v0 : Int32} {v1 : Nat} {x0 x1 : Option Value} : Wp S N d MX9_skips 17 [x0, x1] [.int v0, .ref v1] I J P Q ↔ S v1 = 9 ∧ Wp S N d MX9_skips 20 [x0, x1] [] (u2 I v1 11 v0) J P Q := wp_putI rfl rfl rfl rfl dX9_skips_17
theorem e_X9_skips_20  {x0 x1 : Option Value} : Wp S N d MX9_skips 20 [x0, x1] [] I J P Q ↔ Wp S N d MX9_skips 21 [x0, x1] [.int 1] I J P Q := wp_iconst (by decide) dX9_skips_20
theorem e_X9_skips_21 {v0 : Int32} (hb : isB v0) {x0 x1 : Option Value} : Wp S N d MX9_skips 21 [x0, x1] [.int v0] I J P Q ↔ Q (some (.int v0)) I J P := wp_zret rfl dX9_skips_21 hb
theorem dX9_number_0 : decode cX9_number 0 = .ok (.aload_n 0, 1) := by decide +kernel
theorem dX9_number_1 : decode cX9_number 1 = .ok (.iconst 0, 1) := by decide +kernel
theorem dX9_number_2 : decode cX9_number 2 = .ok (.putfield 88, 3) := by decide +kernel
theorem dX9_number_5 : decode cX9_number 5 = .ok (.iconst 0, 1) := by decide +kernel
theorem dX9_number_6 : decode cX9_number 6 = .ok (.istore_n 1, 1) := by decide +kernel
theorem dX9_number_7 : decode cX9_number 7 = .ok (.iload_n 1, 1) := by decide +kernel
theorem dX9_number_8 : decode cX9_number 8 = .ok (.iconst 4, 1) := by decide +kernel
theorem dX9_number_9 : decode cX9_number 9 = .ok (.if_icmp .ge 52, 3) := by decide +kernel
theorem dX9_number_12 : decode cX9_number 12 = .ok (.aload_n 0, 1) := by decide +kernel
theorem dX9_number_13 : decode cX9_number 13 = .ok (.invokevirtual 84, 3) := by decide +kernel
theorem dX9_number_16 : decode cX9_number 16 = .ok (.bipush 48, 2) := by decide +kernel
theorem dX9_number_18 : decode cX9_number 18 = .ok (.bipush 57, 2) := by decide +kernel
theorem dX9_number_20 : decode cX9_number 20 = .ok (.invokestatic 60, 3) := by decide +kernel
theorem dX9_number_23 : decode cX9_number 23 = .ok (.ifCond .eq 38, 3) := by decide +kernel
theorem dX9_number_26 : decode cX9_number 26 = .ok (.aload_n 0, 1) := by decide +kernel
theorem dX9_number_27 : decode cX9_number 27 = .ok (.bipush 10, 2) := by decide +kernel
theorem dX9_number_29 : decode cX9_number 29 = .ok (.aload_n 0, 1) := by decide +kernel
theorem dX9_number_30 : decode cX9_number 30 = .ok (.getfield 88, 3) := by decide +kernel
theorem dX9_number_33 : decode cX9_number 33 = .ok (.imul, 1) := by decide +kernel
theorem dX9_number_34 : decode cX9_number 34 = .ok (.aload_n 0, 1) := by decide +kernel
theorem dX9_number_35 : decode cX9_number 35 = .ok (.invokevirtual 84, 3) := by decide +kernel
theorem dX9_number_38 : decode cX9_number 38 = .ok (.iadd, 1) := by decide +kernel
theorem dX9_number_39 : decode cX9_number 39 = .ok (.bipush 48, 2) := by decide +kernel
theorem dX9_number_41 : decode cX9_number 41 = .ok (.isub, 1) := by decide +kernel
theorem dX9_number_42 : decode cX9_number 42 = .ok (.putfield 88, 3) := by decide +kernel
theorem dX9_number_45 : decode cX9_number 45 = .ok (.aload_n 0, 1) := by decide +kernel
theorem dX9_number_46 : decode cX9_number 46 = .ok (.dup, 1) := by decide +kernel
theorem dX9_number_47 : decode cX9_number 47 = .ok (.getfield 81, 3) := by decide +kernel
theorem dX9_number_50 : decode cX9_number 50 = .ok (.iconst 1, 1) := by decide +kernel
theorem dX9_number_51 : decode cX9_number 51 = .ok (.iadd, 1) := by decide +kernel
theorem dX9_number_52 : decode cX9_number 52 = .ok (.putfield 81, 3) := by decide +kernel
theorem dX9_number_55 : decode cX9_number 55 = .ok (.iinc 1 1, 3) := by decide +kernel
theorem dX9_number_58 : decode cX9_number 58 = .ok (.goto (-51), 3) := by decide +kernel
theorem dX9_number_61 : decode cX9_number 61 = .ok (.iload_n 1, 1) := by decide +kernel
theorem dX9_number_62 : decode cX9_number 62 = .ok (.ifCond .le 7, 3) := by decide +kernel
theorem dX9_number_65 : decode cX9_number 65 = .ok (.iconst 1, 1) := by decide +kernel
theorem dX9_number_66 : decode cX9_number 66 = .ok (.goto 4, 3) := by decide +kernel
theorem dX9_number_69 : decode cX9_number 69 = .ok (.iconst 0, 1) := by decide +kernel
theorem dX9_number_70 : decode cX9_number 70 = .ok (.ireturn, 1) := by decide +kernel
theorem c_X9_number {a0 : Nat} : CWp S N d MX9_number [.ref a0] I J P Q ↔ Wp S N d MX9_number 0 [some (.ref a0), none] [] I J P Q := by
  rw [cwp_iff]
  exact ⟨fun h => h.2, fun h => ⟨Nat.le_of_ble_eq_true rfl, h⟩⟩
theorem e_X9_number_0 {w : Nat} {x1 : Option Value} : Wp S N d MX9_number 0 [some (.ref w), x1] [] I J P Q ↔ Wp S N d MX9_number 1 [some (.ref w), x1] [.ref w] I J P Q := wp_lod rfl rfl rfl rfl dX9_number_0
theorem e_X9_number_1 {v0 : Nat} {x0 x1 : Option Value} : Wp S N d MX9_number 1 [x0, x1] [.ref v0] I J P Q ↔ Wp S N d MX9_number 2 [x0, x1] [.int 0, .ref v0] I J P Q := wp_iconst (by decide) dX9_number_1
theorem e_X9_number_2 {v0 : Int32} {v1 : Nat} {x0 x1 : Option Value} : Wp S N d MX9_number 2 [x0, x1] [.int v0, .ref v1] I J P Q ↔ S v1 = 9 ∧ Wp S N d MX9_number 5 [x0, x1] [] (u2 I v1 12 v0) J P Q := wp_putI rfl rfl rfl rfl dX9_number_2
theorem e_X9_number_5  {x0 x1 : Option Value} : Wp S N d MX9_number 5 [x0, x1] [] I J P Q ↔ Wp S N d MX9_number 6 [x0, x1] [.int 0] I J P Q := wp_iconst (by decide) dX9_number_5
theorem e_X9_number_6 {v0 : Int32} {x0 x1 : Option Value} : Wp S N d MX9_number 6 [x0, x1] [.int v0] I J P Q ↔ Wp S N d MX9_number 7 [kl x0, some (.int v0)] [] I J P Q := wp_sto rfl rfl rfl rfl (by decide) rfl dX9_number_6
theorem e_X9_number_7 {w : Int32} {x0 : Option Value} : Wp S N d MX9_number 7 [x0, some (.int w)] [] I J P Q ↔ Wp S N d MX9_number 8 [x0, some (.int w)] [.int w] I J P Q := wp_lod rfl rfl rfl rfl dX9_number_7
theorem e_X9_number_8 {v0 : Int32} {x0 x1 : Option Value} : Wp S N d MX9_number 8 [x0, x1] [.int v0] I J P Q ↔ Wp S N d MX9_number 9 [x0, x1] [.int 4, .int v0] I J P Q := wp_iconst (by decide) dX9_number_8
theorem e_X9_number_9 {v0 : Int32} {v1 : Int32} {x0 x1 : Option Value} : Wp S N d MX9_number 9 [x0, x1] [.int v0, .int v1] I J P Q ↔ (v0 ≤ v1 → Wp S N d MX9_number 61 [x0, x1] [] I J P Q) ∧ (¬ v0 ≤ v1 → Wp S N d MX9_number 12 [x0, x1] [] I J P Q) := wp_br rfl rfl (by decide) dX9_number_9
theorem e_X9_number_12 {w : Nat} {x1 : Option Value} : Wp S N d MX9_number 12 [some (.ref w), x1] [] I J P Q ↔ Wp S N d MX9_number 13 [some (.ref w), x1] [.ref w] I J P Q := wp_lod rfl rfl rfl rfl dX9_number_12
theorem e_X9_number_13 {v0 : Nat} {x0 x1 : Option Value} : Wp S N (d + 1) MX9_number 13 [x0, x1] [.ref v0] I J P Q ↔ S v0 = 9 ∧ CWp S N d MX9_here [.ref v0] I J P (fun r I1 J1 P1 => Wp S N (d + 1) MX9_number 16 [x0, x1] (r.toList ++ []) I1 J1 P1 Q) := wp_callV (As := []) rfl rfl rfl rfl (by decide) (Nat.le_of_ble_eq_true rfl) dX9_number_13
theorem e_X9_number_16 {v0 : Int32} {x0 x1 : Option Value} : Wp S N d MX9_number 16 [x0, x1] [.int v0] I J P Q ↔ Wp S N d MX9_number 18 [x0, x1] [.int 48, .int v0] I J P Q := wp_bipush (by decide) dX9_number_16
theorem e_X9_number_18 {v0 : Int32} {v1 : Int32} {x0 x1 : Option Value} : Wp S N d MX9_number 18 [x0, x1] [.int v0, .int v1] I J P Q ↔ Wp S N d MX9_number 20 [x0, x1] [.int 57, .int v0, .int v1] I J P Q := wp_bipush (by decide) dX9_number_18
theorem e_X9_number_20 {v0 : Int32} {v1 : Int32} {v2 : Int32} {x0 x1 : Option Value} : Wp S N (d + 1) MX9_number 20 [x0, x1] [.int v0, .int v1, .int v2] I J P Q ↔ CWp S N d MX9_in [.int v2, .int v1, .int v0] I J P (fun r I1 J1 P1 => Wp S N (d + 1) MX9_number 23 [x0, x1] (r.toList ++ []) I1 J1 P1 Q) := wp_callS (As := [.int v2, .int v1, .int v0]) rfl rfl rfl rfl (Nat.le_of_ble_eq_true rfl) dX9_number_20
theorem e_X9_number_23 {v0 : Int32} {x0 x1 : Option Value} : Wp S N d MX9_number 23 [x0, x1] [.int v0] I J P Q ↔ (v0 = 0 → Wp S N d MX9_number 61 [x0, x1] [] I J P Q) ∧ (¬ v0 = 0 → Wp S N d MX9_number 26 [x0, x1] [] I J P Q) := wp_br rfl rfl (by decide) dX9_number_23
theorem e_X9_number_26 {w : Nat} {x1 : Option Value} : Wp S N d MX9_number 26 [some (.ref w), x1] [] I J P Q ↔ Wp S N d MX9_number 27 [some (.ref w), x1] [.ref w] I J P Q := wp_lod rfl rfl rfl rfl dX9_number_26
theorem e_X9_number_27 {v0 : Nat} {x0 x1 : Option Value} : Wp S N d MX9_number 27 [x0, x1] [.ref v0] I J P Q ↔ Wp S N d MX9_number 29 [x0, x1] [.int 10, .ref v0] I J P Q := wp_bipush (by decide) dX9_number_27
theorem e_X9_number_29 {v0 : Int32} {v1 : Nat} {w : Nat} {x1 : Option Value} : Wp S N d MX9_number 29 [some (.ref w), x1] [.int v0, .ref v1] I J P Q ↔ Wp S N d MX9_number 30 [some (.ref w), x1] [.ref w, .int v0, .ref v1] I J P Q := wp_lod rfl rfl rfl rfl dX9_number_29
theorem e_X9_number_30 {v0 : Nat} {v1 : Int32} {v2 : Nat} {x0 x1 : Option Value} : Wp S N d MX9_number 30 [x0, x1] [.ref v0, .int v1, .ref v2] I J P Q ↔ S v0 = 9 ∧ Wp S N d MX9_number 33 [x0, x1] [.int (I v0 12), .int v1, .ref v2] I J P Q := wp_getf rfl rfl rfl rfl dX9_number_30
theorem e_X9_number_33 {v0 : Int32} {v1 : Int32} {v2 : Nat} {x0 x1 : Option Value} : Wp S N d MX9_number 33 [x0, x1] [.int v0, .int v1, .ref v2] I J P Q ↔ Wp S N d MX9_number 34 [x0, x1] [.int (v1 * v0), .ref v2] I J P Q := wp_alu rfl rfl rfl dX9_number_33
theorem e_X9_number_34 {v0 : Int32} {v1 : Nat} {w : Nat} {x1 : Option Value} : Wp S N d MX9_number 34 [some (.ref w), x1] [.int v0, .ref v1] I J P Q ↔ Wp S N d MX9_number 35 [some (.ref w), x1] [.ref w, .int v0, .ref v1] I J P Q := wp_lod rfl rfl rfl rfl dX9_number_34
theorem e_X9_number_35 {v0 : Nat} {v1 : Int32} {v2 : Nat} {x0 x1 : Option Value} : Wp S N (d + 1) MX9_number 35 [x0, x1] [.ref v0, .int v1, .ref v2] I J P Q ↔ S v0 = 9 ∧ CWp S N d MX9_here [.ref v0] I J P (fun r I1 J1 P1 => Wp S N (d + 1) MX9_number 38 [x0, x1] (r.toList ++ [.int v1, .ref v2]) I1 J1 P1 Q) := wp_callV (As := []) rfl rfl rfl rfl (by decide) (Nat.le_of_ble_eq_true rfl) dX9_number_35
theorem e_X9_number_38 {v0 : Int32} {v1 : Int32} {v2 : Nat} {x0 x1 : Option Value} : Wp S N d MX9_number 38 [x0, x1] [.int v0, .int v1, .ref v2] I J P Q ↔ Wp S N d MX9_number 39 [x0, x1] [.int (v1 + v0), .ref v2] I J P Q := wp_alu rfl rfl rfl dX9_number_38
theorem e_X9_number_39 {v0 : Int32} {v1 : Nat} {x0 x1 : Option Value} : Wp S N d MX9_number 39 [x0, x1] [.int v0, .ref v1] I J P Q ↔ Wp S N d MX9_number 41 [x0, x1] [.int 48, .int v0, .ref v1] I J P Q := wp_bipush (by decide) dX9_number_39
theorem e_X9_number_41 {v0 : Int32} {v1 : Int32} {v2 : Nat} {x0 x1 : Option Value} : Wp S N d MX9_number 41 [x0, x1] [.int v0, .int v1, .ref v2] I J P Q ↔ Wp S N d MX9_number 42 [x0, x1] [.int (v1 - v0), .ref v2] I J P Q := wp_alu rfl rfl rfl dX9_number_41
theorem e_X9_number_42 {v0 : Int32} {v1 : Nat} {x0 x1 : Option Value} : Wp S N d MX9_number 42 [x0, x1] [.int v0, .ref v1] I J P Q ↔ S v1 = 9 ∧ Wp S N d MX9_number 45 [x0, x1] [] (u2 I v1 12 v0) J P Q := wp_putI rfl rfl rfl rfl dX9_number_42
theorem e_X9_number_45 {w : Nat} {x1 : Option Value} : Wp S N d MX9_number 45 [some (.ref w), x1] [] I J P Q ↔ Wp S N d MX9_number 46 [some (.ref w), x1] [.ref w] I J P Q := wp_lod rfl rfl rfl rfl dX9_number_45
theorem e_X9_number_46 {v0 : Nat} {x0 x1 : Option Value} : Wp S N d MX9_number 46 [x0, x1] [.ref v0] I J P Q ↔ Wp S N d MX9_number 47 [x0, x1] [.ref v0, .ref v0] I J P Q := wp_alu rfl rfl rfl dX9_number_46
theorem e_X9_number_47 {v0 : Nat} {v1 : Nat} {x0 x1 : Option Value} : Wp S N d MX9_number 47 [x0, x1] [.ref v0, .ref v1] I J P Q ↔ S v0 = 9 ∧ Wp S N d MX9_number 50 [x0, x1] [.int (I v0 11), .ref v1] I J P Q := wp_getf rfl rfl rfl rfl dX9_number_47
theorem e_X9_number_50 {v0 : Int32} {v1 : Nat} {x0 x1 : Option Value} : Wp S N d MX9_number 50 [x0, x1] [.int v0, .ref v1] I J P Q ↔ Wp S N d MX9_number 51 [x0, x1] [.int 1, .int v0, .ref v1] I J P Q := wp_iconst (by decide) dX9_number_50
theorem e_X9_number_51 {v0 : Int32} {v1 : Int32} {v2 : Nat} {x0 x1 : Option Value} : Wp S N d MX9_number 51 [x0, x1] [.int v0, .int v1, .ref v2] I J P Q ↔ Wp S N d MX9_number 52 [x0, x1] [.int (v1 + v0), .ref v2] I J P Q := wp_alu rfl rfl rfl dX9_number_51
theorem e_X9_number_52 {v0 : Int32} {v1 : Nat} {x0 x1 : Option Value} : Wp S N d MX9_number 52 [x0, x1] [.int v0, .ref v1] I J P Q ↔ S v1 = 9 ∧ Wp S N d MX9_number 55 [x0, x1] [] (u2 I v1 11 v0) J P Q := wp_putI rfl rfl rfl rfl dX9_number_52
theorem e_X9_number_55 {w : Int32} {x0 : Option Value} : Wp S N d MX9_number 55 [x0, some (.int w)] [] I J P Q ↔ Wp S N d MX9_number 58 [kl x0, some (.int (w + 1))] [] I J P Q := wp_inc rfl rfl dX9_number_55
theorem e_X9_number_58  {x0 x1 : Option Value} : Wp S N d MX9_number 58 [x0, x1] [] I J P Q ↔ Wp S N d MX9_number 7 [x0, x1] [] I J P Q := wp_go rfl (fun _ _ => rfl) rfl (by decide) dX9_number_58
theorem e_X9_number_61 {w : Int32} {x0 : Option Value} : Wp S N d MX9_number 61 [x0, some (.int w)] [] I J P Q ↔ Wp S N d MX9_number 62 [x0, some (.int w)] [.int w] I J P Q := wp_lod rfl rfl rfl rfl dX9_number_61
theorem e_X9_number_62 {v0 : Int32} {x0 x1 : Option Value} : Wp S N d MX9_number 62 [x0, x1] [.int v0] I J P Q ↔ (v0 ≤ 0 → Wp S N d MX9_number 69 [x0, x1] [] I J P Q) ∧ (¬ v0 ≤ 0 → Wp S N d MX9_number 65 [x0, x1] [] I J P Q) := wp_br rfl rfl (by decide) dX9_number_62
theorem e_X9_number_65  {x0 x1 : Option Value} : Wp S N d MX9_number 65 [x0, x1] [] I J P Q ↔ Wp S N d MX9_number 66 [x0, x1] [.int 1] I J P Q := wp_iconst (by decide) dX9_number_65
theorem e_X9_number_66 {v0 : Int32} {x0 x1 : Option Value} : Wp S N d MX9_number 66 [x0, x1] [.int v0] I J P Q ↔ Wp S N d MX9_number 70 [x0, x1] [.int v0] I J P Q := wp_go rfl (fun _ _ => rfl) rfl (by decide) dX9_number_66
theorem e_X9_number_69  {x0 x1 : Option Value} : Wp S N d MX9_number 69 [x0, x1] [] I J P Q ↔ Wp S N d MX9_number 70 [x0, x1] [.int 0] I J P Q := wp_iconst (by decide) dX9_number_69
theorem e_X9_number_70 {v0 : Int32} (hb : isB v0) {x0 x1 : Option Value} : Wp S N d MX9_number 70 [x0, x1] [.int v0] I J P Q ↔ Q (some (.int v0)) I J P := wp_zret rfl dX9_number_70 hb
theorem dX9_rate_0 : decode cX9_rate 0 = .ok (.aload_n 0, 1) := by decide +kernel
theorem dX9_rate_1 : decode cX9_rate 1 = .ok (.aload_n 0, 1) := by decide +kernel
theorem dX9_rate_2 : decode cX9_rate 2 = .ok (.getfield 91, 3) := by decide +kernel
theorem dX9_rate_5 : decode cX9_rate 5 = .ok (.ifCond .ne 13, 3) := by decide +kernel
theorem dX9_rate_8 : decode cX9_rate 8 = .ok (.aload_n 0, 1) := by decide +kernel
theorem dX9_rate_9 : decode cX9_rate 9 = .ok (.getfield 88, 3) := by decide +kernel
theorem dX9_rate_12 : decode cX9_rate 12 = .ok (.sipush 999, 3) := by decide +kernel
theorem dX9_rate_15 : decode cX9_rate 15 = .ok (.if_icmp .le 7, 3) := by decide +kernel
theorem dX9_rate_18 : decode cX9_rate 18 = .ok (.iconst 1, 1) := by decide +kernel
theorem dX9_rate_19 : decode cX9_rate 19 = .ok (.goto 4, 3) := by decide +kernel
theorem dX9_rate_22 : decode cX9_rate 22 = .ok (.iconst 0, 1) := by decide +kernel
theorem dX9_rate_23 : decode cX9_rate 23 = .ok (.putfield 91, 3) := by decide +kernel
theorem dX9_rate_26 : decode cX9_rate 26 = .ok (.return_, 1) := by decide +kernel
theorem c_X9_rate {a0 : Nat} : CWp S N d MX9_rate [.ref a0] I J P Q ↔ Wp S N d MX9_rate 0 [some (.ref a0)] [] I J P Q := by
  rw [cwp_iff]
  exact ⟨fun h => h.2, fun h => ⟨Nat.le_of_ble_eq_true rfl, h⟩⟩
theorem e_X9_rate_0 {w : Nat} : Wp S N d MX9_rate 0 [some (.ref w)] [] I J P Q ↔ Wp S N d MX9_rate 1 [some (.ref w)] [.ref w] I J P Q := wp_lod rfl rfl rfl rfl dX9_rate_0
theorem e_X9_rate_1 {v0 : Nat} {w : Nat} : Wp S N d MX9_rate 1 [some (.ref w)] [.ref v0] I J P Q ↔ Wp S N d MX9_rate 2 [some (.ref w)] [.ref w, .ref v0] I J P Q := wp_lod rfl rfl rfl rfl dX9_rate_1
theorem e_X9_rate_2 {v0 : Nat} {v1 : Nat} {x0 : Option Value} : Wp S N d MX9_rate 2 [x0] [.ref v0, .ref v1] I J P Q ↔ S v0 = 9 ∧ Wp S N d MX9_rate 5 [x0] [.int (I v0 14), .ref v1] I J P Q := wp_getf rfl rfl rfl rfl dX9_rate_2
theorem e_X9_rate_5 {v0 : Int32} {v1 : Nat} {x0 : Option Value} : Wp S N d MX9_rate 5 [x0] [.int v0, .ref v1] I J P Q ↔ (¬ v0 = 0 → Wp S N d MX9_rate 18 [x0] [.ref v1] I J P Q) ∧ (v0 = 0 → Wp S N d MX9_rate 8 [x0] [.ref v1] I J P Q) := wp_brn rfl rfl (by decide) dX9_rate_5
theorem e_X9_rate_8 {v0 : Nat} {w : Nat} : Wp S N d MX9_rate 8 [some (.ref w)] [.ref v0] I J P Q ↔ Wp S N d MX9_rate 9 [some (.ref w)] [.ref w, .ref v0] I J P Q := wp_lod rfl rfl rfl rfl dX9_rate_8
theorem e_X9_rate_9 {v0 : Nat} {v1 : Nat} {x0 : Option Value} : Wp S N d MX9_rate 9 [x0] [.ref v0, .ref v1] I J P Q ↔ S v0 = 9 ∧ Wp S N d MX9_rate 12 [x0] [.int (I v0 12), .ref v1] I J P Q := wp_getf rfl rfl rfl rfl dX9_rate_9
theorem e_X9_rate_12 {v0 : Int32} {v1 : Nat} {x0 : Option Value} : Wp S N d MX9_rate 12 [x0] [.int v0, .ref v1] I J P Q ↔ Wp S N d MX9_rate 15 [x0] [.int 999, .int v0, .ref v1] I J P Q := wp_sipush (by decide) dX9_rate_12
theorem e_X9_rate_15 {v0 : Int32} {v1 : Int32} {v2 : Nat} {x0 : Option Value} : Wp S N d MX9_rate 15 [x0] [.int v0, .int v1, .ref v2] I J P Q ↔ (v1 ≤ v0 → Wp S N d MX9_rate 22 [x0] [.ref v2] I J P Q) ∧ (¬ v1 ≤ v0 → Wp S N d MX9_rate 18 [x0] [.ref v2] I J P Q) := wp_br rfl rfl (by decide) dX9_rate_15
theorem e_X9_rate_18 {v0 : Nat} {x0 : Option Value} : Wp S N d MX9_rate 18 [x0] [.ref v0] I J P Q ↔ Wp S N d MX9_rate 19 [x0] [.int 1, .ref v0] I J P Q := wp_iconst (by decide) dX9_rate_18
theorem e_X9_rate_19 {v0 : Int32} {v1 : Nat} {x0 : Option Value} : Wp S N d MX9_rate 19 [x0] [.int v0, .ref v1] I J P Q ↔ Wp S N d MX9_rate 23 [x0] [.int v0, .ref v1] I J P Q := wp_go rfl (fun _ _ => rfl) rfl (by decide) dX9_rate_19
theorem e_X9_rate_22 {v0 : Nat} {x0 : Option Value} : Wp S N d MX9_rate 22 [x0] [.ref v0] I J P Q ↔ Wp S N d MX9_rate 23 [x0] [.int 0, .ref v0] I J P Q := wp_iconst (by decide) dX9_rate_22
theorem e_X9_rate_23 {v0 : Int32} {v1 : Nat} (hb : isB v0) {x0 : Option Value} : Wp S N d MX9_rate 23 [x0] [.int v0, .ref v1] I J P Q ↔ S v1 = 9 ∧ Wp S N d MX9_rate 26 [x0] [] (u2 I v1 14 v0) J P Q := wp_putZ rfl rfl rfl rfl dX9_rate_23 hb
theorem e_X9_rate_26  {x0 : Option Value} : Wp S N d MX9_rate 26 [x0] [] I J P Q ↔ Q none I J P := wp_vret rfl dX9_rate_26
theorem dX9_of_0 : decode cX9_of 0 = .ok (.aload_n 0, 1) := by decide +kernel
theorem dX9_of_1 : decode cX9_of 1 = .ok (.getfield 7, 3) := by decide +kernel
theorem dX9_of_4 : decode cX9_of 4 = .ok (.bipush 64, 2) := by decide +kernel
theorem dX9_of_6 : decode cX9_of 6 = .ok (.iconst 3, 1) := by decide +kernel
theorem dX9_of_7 : decode cX9_of 7 = .ok (.iload_n 1, 1) := by decide +kernel
theorem dX9_of_8 : decode cX9_of 8 = .ok (.imul, 1) := by decide +kernel
theorem dX9_of_9 : decode cX9_of 9 = .ok (.iadd, 1) := by decide +kernel
theorem dX9_of_10 : decode cX9_of 10 = .ok (.iload_n 2, 1) := by decide +kernel
theorem dX9_of_11 : decode cX9_of 11 = .ok (.iadd, 1) := by decide +kernel
theorem dX9_of_12 : decode cX9_of 12 = .ok (.iaload, 1) := by decide +kernel
theorem dX9_of_13 : decode cX9_of 13 = .ok (.ireturn, 1) := by decide +kernel
theorem c_X9_of {a0 : Nat} {a1 : Int32} {a2 : Int32} : CWp S N d MX9_of [.ref a0, .int a1, .int a2] I J P Q ↔ Wp S N d MX9_of 0 [some (.ref a0), some (.int a1), some (.int a2)] [] I J P Q := by
  rw [cwp_iff]
  exact ⟨fun h => h.2, fun h => ⟨Nat.le_of_ble_eq_true rfl, h⟩⟩
theorem e_X9_of_0 {w : Nat} {x1 x2 : Option Value} : Wp S N d MX9_of 0 [some (.ref w), x1, x2] [] I J P Q ↔ Wp S N d MX9_of 1 [some (.ref w), x1, x2] [.ref w] I J P Q := wp_lod rfl rfl rfl rfl dX9_of_0
theorem e_X9_of_1 {v0 : Nat} {x0 x1 x2 : Option Value} : Wp S N d MX9_of 1 [x0, x1, x2] [.ref v0] I J P Q ↔ S v0 = 9 ∧ Wp S N d MX9_of 4 [x0, x1, x2] [va_rf (P v0 0)] I J P Q := wp_getf rfl rfl rfl rfl dX9_of_1
theorem e_X9_of_4 {v0 : Nat} {x0 x1 x2 : Option Value} : Wp S N d MX9_of 4 [x0, x1, x2] [.ref v0] I J P Q ↔ Wp S N d MX9_of 6 [x0, x1, x2] [.int 64, .ref v0] I J P Q := wp_bipush (by decide) dX9_of_4
theorem e_X9_of_6 {v0 : Int32} {v1 : Nat} {x0 x1 x2 : Option Value} : Wp S N d MX9_of 6 [x0, x1, x2] [.int v0, .ref v1] I J P Q ↔ Wp S N d MX9_of 7 [x0, x1, x2] [.int 3, .int v0, .ref v1] I J P Q := wp_iconst (by decide) dX9_of_6
theorem e_X9_of_7 {v0 : Int32} {v1 : Int32} {v2 : Nat} {w : Int32} {x0 x2 : Option Value} : Wp S N d MX9_of 7 [x0, some (.int w), x2] [.int v0, .int v1, .ref v2] I J P Q ↔ Wp S N d MX9_of 8 [x0, some (.int w), x2] [.int w, .int v0, .int v1, .ref v2] I J P Q := wp_lod rfl rfl rfl rfl dX9_of_7
theorem e_X9_of_8 {v0 : Int32} {v1 : Int32} {v2 : Int32} {v3 : Nat} {x0 x1 x2 : Option Value} : Wp S N d MX9_of 8 [x0, x1, x2] [.int v0, .int v1, .int v2, .ref v3] I J P Q ↔ Wp S N d MX9_of 9 [x0, x1, x2] [.int (v1 * v0), .int v2, .ref v3] I J P Q := wp_alu rfl rfl rfl dX9_of_8
theorem e_X9_of_9 {v0 : Int32} {v1 : Int32} {v2 : Nat} {x0 x1 x2 : Option Value} : Wp S N d MX9_of 9 [x0, x1, x2] [.int v0, .int v1, .ref v2] I J P Q ↔ Wp S N d MX9_of 10 [x0, x1, x2] [.int (v1 + v0), .ref v2] I J P Q := wp_alu rfl rfl rfl dX9_of_9
theorem e_X9_of_10 {v0 : Int32} {v1 : Nat} {w : Int32} {x0 x1 : Option Value} : Wp S N d MX9_of 10 [x0, x1, some (.int w)] [.int v0, .ref v1] I J P Q ↔ Wp S N d MX9_of 11 [x0, x1, some (.int w)] [.int w, .int v0, .ref v1] I J P Q := wp_lod rfl rfl rfl rfl dX9_of_10
theorem e_X9_of_11 {v0 : Int32} {v1 : Int32} {v2 : Nat} {x0 x1 x2 : Option Value} : Wp S N d MX9_of 11 [x0, x1, x2] [.int v0, .int v1, .ref v2] I J P Q ↔ Wp S N d MX9_of 12 [x0, x1, x2] [.int (v1 + v0), .ref v2] I J P Q := wp_alu rfl rfl rfl dX9_of_11
theorem e_X9_of_12 {v0 : Int32} {v1 : Nat} {x0 x1 x2 : Option Value} : Wp S N d MX9_of 12 [x0, x1, x2] [.int v0, .ref v1] I J P Q ↔ (S v1 = 10 ∧ vp_in v0 (N v1)) ∧ Wp S N d MX9_of 13 [x0, x1, x2] [.int (I v1 v0.toNatClampNeg)] I J P Q := wp_ald rfl rfl dX9_of_12
theorem e_X9_of_13 {v0 : Int32} {x0 x1 x2 : Option Value} : Wp S N d MX9_of 13 [x0, x1, x2] [.int v0] I J P Q ↔ Q (some (.int v0)) I J P := wp_iret rfl dX9_of_13
end ER

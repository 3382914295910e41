/-! the instructions' rules: X8_ -/
section ER
variable {S N : Nat → Nat} {d : Nat} {I : IM} {J : JM} {P : PM} {Q : Option Value → IM → JM → PM → Prop}
theorem dX8_faultPosition_0 : decode cX8_faultPosition 0 = .ok (.aload_n 0, 1) := by decide +kernel
theorem dX8_faultPosition_1 : decode cX8_faultPosition 1 = .ok (.getfield 10, 3) := by decide +kernel
theorem dX8_faultPosition_4 : decode cX8_faultPosition 4 = .ok (.getfield 90, 3) := by decide +kernel
theorem dX8_faultPosition_7 : decode cX8_faultPosition 7 = .ok (.ireturn, 1) := by decide +kernel
theorem c_X8_faultPosition {a0 : Nat} : CWp S N d MX8_faultPosition [.ref a0] I J P Q ↔ Wp S N d MX8_faultPosition 0 [some (.ref a0)] [] I J P Q := by
  rw [cwp_iff]
  exact ⟨fun h => h.2, fun h => ⟨Nat.le_of_ble_eq_true rfl, h⟩⟩
theorem e_X8_faultPosition_0 {w : Nat} : Wp S N d MX8_faultPosition 0 [some (.ref w)] [] I J P Q ↔ Wp S N d MX8_faultPosition 1 [some (.ref w)] [.ref w] I J P Q := wp_lod (len := 1) rfl rfl rfl rfl dX8_faultPosition_0
theorem e_X8_faultPosition_1 {v0 : Nat} {x0 : Option Value} : Wp S N d MX8_faultPosition 1 [x0] [.ref v0] I J P Q ↔ S v0 = 8 ∧ Wp S N d MX8_faultPosition 4 [x0] [va_rf (P v0 0)] I J P Q := wp_getf rfl rfl rfl rfl dX8_faultPosition_1
theorem e_X8_faultPosition_4 {v0 : Nat} {x0 : Option Value} : Wp S N d MX8_faultPosition 4 [x0] [.ref v0] I J P Q ↔ S v0 = 6 ∧ Wp S N d MX8_faultPosition 7 [x0] [.int (I v0 2)] I J P Q := wp_getf rfl rfl rfl rfl dX8_faultPosition_4
theorem e_X8_faultPosition_7 {v0 : Int32} {x0 : Option Value} : Wp S N d MX8_faultPosition 7 [x0] [.int v0] I J P Q ↔ Q (some (.int v0)) I J P := wp_iret rfl dX8_faultPosition_7
theorem dX8_clearRules_0 : decode cX8_clearRules 0 = .ok (.aload_n 0, 1) := by decide +kernel
theorem dX8_clearRules_1 : decode cX8_clearRules 1 = .ok (.getfield 36, 3) := by decide +kernel
theorem dX8_clearRules_4 : decode cX8_clearRules 4 = .ok (.aload_n 0, 1) := by decide +kernel
theorem dX8_clearRules_5 : decode cX8_clearRules 5 = .ok (.getfield 26, 3) := by decide +kernel
theorem dX8_clearRules_8 : decode cX8_clearRules 8 = .ok (.invokevirtual 104, 3) := by decide +kernel
theorem dX8_clearRules_11 : decode cX8_clearRules 11 = .ok (.aload_n 0, 1) := by decide +kernel
theorem dX8_clearRules_12 : decode cX8_clearRules 12 = .ok (.getfield 26, 3) := by decide +kernel
theorem dX8_clearRules_15 : decode cX8_clearRules 15 = .ok (.getfield 80, 3) := by decide +kernel
theorem dX8_clearRules_18 : decode cX8_clearRules 18 = .ok (.getfield 111, 3) := by decide +kernel
theorem dX8_clearRules_21 : decode cX8_clearRules 21 = .ok (.aload_n 0, 1) := by decide +kernel
theorem dX8_clearRules_22 : decode cX8_clearRules 22 = .ok (.getfield 26, 3) := by decide +kernel
theorem dX8_clearRules_25 : decode cX8_clearRules 25 = .ok (.getfield 80, 3) := by decide +kernel
theorem dX8_clearRules_28 : decode cX8_clearRules 28 = .ok (.getfield 114, 3) := by decide +kernel
theorem dX8_clearRules_31 : decode cX8_clearRules 31 = .ok (.iadd, 1) := by decide +kernel
theorem dX8_clearRules_32 : decode cX8_clearRules 32 = .ok (.istore_n 1, 1) := by decide +kernel
theorem dX8_clearRules_33 : decode cX8_clearRules 33 = .ok (.aload_n 0, 1) := by decide +kernel
theorem dX8_clearRules_34 : decode cX8_clearRules 34 = .ok (.getfield 26, 3) := by decide +kernel
theorem dX8_clearRules_37 : decode cX8_clearRules 37 = .ok (.getfield 80, 3) := by decide +kernel
theorem dX8_clearRules_40 : decode cX8_clearRules 40 = .ok (.invokevirtual 117, 3) := by decide +kernel
theorem dX8_clearRules_43 : decode cX8_clearRules 43 = .ok (.iload_n 1, 1) := by decide +kernel
theorem dX8_clearRules_44 : decode cX8_clearRules 44 = .ok (.ireturn, 1) := by decide +kernel
theorem c_X8_clearRules {a0 : Nat} : CWp S N d MX8_clearRules [.ref a0] I J P Q ↔ Wp S N d MX8_clearRules 0 [some (.ref a0), none] [] I J P Q := by
  rw [cwp_iff]
  exact ⟨fun h => h.2, fun h => ⟨Nat.le_of_ble_eq_true rfl, h⟩⟩
theorem e_X8_clearRules_0 {w : Nat} {x1 : Option Value} : Wp S N d MX8_clearRules 0 [some (.ref w), x1] [] I J P Q ↔ Wp S N d MX8_clearRules 1 [some (.ref w), x1] [.ref w] I J P Q := wp_lod (len := 1) rfl rfl rfl rfl dX8_clearRules_0
theorem e_X8_clearRules_1 {v0 : Nat} {x0 x1 : Option Value} : Wp S N d MX8_clearRules 1 [x0, x1] [.ref v0] I J P Q ↔ S v0 = 8 ∧ Wp S N d MX8_clearRules 4 [x0, x1] [va_rf (P v0 5)] I J P Q := wp_getf rfl rfl rfl rfl dX8_clearRules_1
theorem e_X8_clearRules_4 {v0 : Nat} {w : Nat} {x1 : Option Value} : Wp S N d MX8_clearRules 4 [some (.ref w), x1] [.ref v0] I J P Q ↔ Wp S N d MX8_clearRules 5 [some (.ref w), x1] [.ref w, .ref v0] I J P Q := wp_lod (len := 1) rfl rfl rfl rfl dX8_clearRules_4
theorem e_X8_clearRules_5 {v0 : Nat} {v1 : Nat} {x0 x1 : Option Value} : Wp S N d MX8_clearRules 5 [x0, x1] [.ref v0, .ref v1] I J P Q ↔ S v0 = 8 ∧ Wp S N d MX8_clearRules 8 [x0, x1] [va_rf (P v0 2), .ref v1] I J P Q := wp_getf rfl rfl rfl rfl dX8_clearRules_5
theorem e_X8_clearRules_8 {v0 : Nat} {v1 : Nat} {x0 x1 : Option Value} : Wp S N (d + 1) MX8_clearRules 8 [x0, x1] [.ref v0, .ref v1] I J P Q ↔ S v1 = 4 ∧ CWp S N d MX4_remember [.ref v1, .ref v0] I J P (fun r I1 J1 P1 => Wp S N (d + 1) MX8_clearRules 11 [x0, x1] (r.toList ++ []) I1 J1 P1 Q) := wp_callV (M' := MX4_remember) (As := [.ref v0]) rfl rfl rfl rfl (by decide) (Nat.le_of_ble_eq_true rfl) dX8_clearRules_8
theorem e_X8_clearRules_11 {w : Nat} {x1 : Option Value} : Wp S N d MX8_clearRules 11 [some (.ref w), x1] [] I J P Q ↔ Wp S N d MX8_clearRules 12 [some (.ref w), x1] [.ref w] I J P Q := wp_lod (len := 1) rfl rfl rfl rfl dX8_clearRules_11
theorem e_X8_clearRules_12 {v0 : Nat} {x0 x1 : Option Value} : Wp S N d MX8_clearRules 12 [x0, x1] [.ref v0] I J P Q ↔ S v0 = 8 ∧ Wp S N d MX8_clearRules 15 [x0, x1] [va_rf (P v0 2)] I J P Q := wp_getf rfl rfl rfl rfl dX8_clearRules_12
theorem e_X8_clearRules_15 {v0 : Nat} {x0 x1 : Option Value} : Wp S N d MX8_clearRules 15 [x0, x1] [.ref v0] I J P Q ↔ S v0 = 5 ∧ Wp S N d MX8_clearRules 18 [x0, x1] [va_rf (P v0 0)] I J P Q := wp_getf rfl rfl rfl rfl dX8_clearRules_15
theorem e_X8_clearRules_18 {v0 : Nat} {x0 x1 : Option Value} : Wp S N d MX8_clearRules 18 [x0, x1] [.ref v0] I J P Q ↔ S v0 = 7 ∧ Wp S N d MX8_clearRules 21 [x0, x1] [.int (I v0 4)] I J P Q := wp_getf rfl rfl rfl rfl dX8_clearRules_18
theorem e_X8_clearRules_21 {v0 : Int32} {w : Nat} {x1 : Option Value} : Wp S N d MX8_clearRules 21 [some (.ref w), x1] [.int v0] I J P Q ↔ Wp S N d MX8_clearRules 22 [some (.ref w), x1] [.ref w, .int v0] I J P Q := wp_lod (len := 1) rfl rfl rfl rfl dX8_clearRules_21
theorem e_X8_clearRules_22 {v0 : Nat} {v1 : Int32} {x0 x1 : Option Value} : Wp S N d MX8_clearRules 22 [x0, x1] [.ref v0, .int v1] I J P Q ↔ S v0 = 8 ∧ Wp S N d MX8_clearRules 25 [x0, x1] [va_rf (P v0 2), .int v1] I J P Q := wp_getf rfl rfl rfl rfl dX8_clearRules_22
theorem e_X8_clearRules_25 {v0 : Nat} {v1 : Int32} {x0 x1 : Option Value} : Wp S N d MX8_clearRules 25 [x0, x1] [.ref v0, .int v1] I J P Q ↔ S v0 = 5 ∧ Wp S N d MX8_clearRules 28 [x0, x1] [va_rf (P v0 0), .int v1] I J P Q := wp_getf rfl rfl rfl rfl dX8_clearRules_25
theorem e_X8_clearRules_28 {v0 : Nat} {v1 : Int32} {x0 x1 : Option Value} : Wp S N d MX8_clearRules 28 [x0, x1] [.ref v0, .int v1] I J P Q ↔ S v0 = 7 ∧ Wp S N d MX8_clearRules 31 [x0, x1] [.int (I v0 7), .int v1] I J P Q := wp_getf rfl rfl rfl rfl dX8_clearRules_28
theorem e_X8_clearRules_31 {v0 : Int32} {v1 : Int32} {x0 x1 : Option Value} : Wp S N d MX8_clearRules 31 [x0, x1] [.int v0, .int v1] I J P Q ↔ Wp S N d MX8_clearRules 32 [x0, x1] [.int (v1 + v0)] I J P Q := wp_alu (len := 1) rfl rfl rfl dX8_clearRules_31
theorem e_X8_clearRules_32 {v0 : Int32} {x0 x1 : Option Value} : Wp S N d MX8_clearRules 32 [x0, x1] [.int v0] I J P Q ↔ Wp S N d MX8_clearRules 33 [kl x0, some (.int v0)] [] I J P Q := wp_sto (len := 1) rfl rfl rfl rfl (Nat.le_of_ble_eq_true rfl) rfl dX8_clearRules_32
theorem e_X8_clearRules_33 {w : Nat} {x1 : Option Value} : Wp S N d MX8_clearRules 33 [some (.ref w), x1] [] I J P Q ↔ Wp S N d MX8_clearRules 34 [some (.ref w), x1] [.ref w] I J P Q := wp_lod (len := 1) rfl rfl rfl rfl dX8_clearRules_33
theorem e_X8_clearRules_34 {v0 : Nat} {x0 x1 : Option Value} : Wp S N d MX8_clearRules 34 [x0, x1] [.ref v0] I J P Q ↔ S v0 = 8 ∧ Wp S N d MX8_clearRules 37 [x0, x1] [va_rf (P v0 2)] I J P Q := wp_getf rfl rfl rfl rfl dX8_clearRules_34
theorem e_X8_clearRules_37 {v0 : Nat} {x0 x1 : Option Value} : Wp S N d MX8_clearRules 37 [x0, x1] [.ref v0] I J P Q ↔ S v0 = 5 ∧ Wp S N d MX8_clearRules 40 [x0, x1] [va_rf (P v0 0)] I J P Q := wp_getf rfl rfl rfl rfl dX8_clearRules_37
theorem e_X8_clearRules_40 {v0 : Nat} {x0 x1 : Option Value} : Wp S N (d + 1) MX8_clearRules 40 [x0, x1] [.ref v0] I J P Q ↔ S v0 = 7 ∧ CWp S N d MX7_clear [.ref v0] I J P (fun r I1 J1 P1 => Wp S N (d + 1) MX8_clearRules 43 [x0, x1] (r.toList ++ []) I1 J1 P1 Q) := wp_callV (M' := MX7_clear) (As := []) rfl rfl rfl rfl (by decide) (Nat.le_of_ble_eq_true rfl) dX8_clearRules_40
theorem e_X8_clearRules_43 {w : Int32} {x0 : Option Value} : Wp S N d MX8_clearRules 43 [x0, some (.int w)] [] I J P Q ↔ Wp S N d MX8_clearRules 44 [x0, some (.int w)] [.int w] I J P Q := wp_lod (len := 1) rfl rfl rfl rfl dX8_clearRules_43
theorem e_X8_clearRules_44 {v0 : Int32} {x0 x1 : Option Value} : Wp S N d MX8_clearRules 44 [x0, x1] [.int v0] I J P Q ↔ Q (some (.int v0)) I J P := wp_iret rfl dX8_clearRules_44
theorem dX8_bracketCount_0 : decode cX8_bracketCount 0 = .ok (.aload_n 0, 1) := by decide +kernel
theorem dX8_bracketCount_1 : decode cX8_bracketCount 1 = .ok (.getfield 26, 3) := by decide +kernel
theorem dX8_bracketCount_4 : decode cX8_bracketCount 4 = .ok (.getfield 80, 3) := by decide +kernel
theorem dX8_bracketCount_7 : decode cX8_bracketCount 7 = .ok (.getfield 120, 3) := by decide +kernel
theorem dX8_bracketCount_10 : decode cX8_bracketCount 10 = .ok (.ireturn, 1) := by decide +kernel
theorem c_X8_bracketCount {a0 : Nat} : CWp S N d MX8_bracketCount [.ref a0] I J P Q ↔ Wp S N d MX8_bracketCount 0 [some (.ref a0)] [] I J P Q := by
  rw [cwp_iff]
  exact ⟨fun h => h.2, fun h => ⟨Nat.le_of_ble_eq_true rfl, h⟩⟩
theorem e_X8_bracketCount_0 {w : Nat} : Wp S N d MX8_bracketCount 0 [some (.ref w)] [] I J P Q ↔ Wp S N d MX8_bracketCount 1 [some (.ref w)] [.ref w] I J P Q := wp_lod (len := 1) rfl rfl rfl rfl dX8_bracketCount_0
theorem e_X8_bracketCount_1 {v0 : Nat} {x0 : Option Value} : Wp S N d MX8_bracketCount 1 [x0] [.ref v0] I J P Q ↔ S v0 = 8 ∧ Wp S N d MX8_bracketCount 4 [x0] [va_rf (P v0 2)] I J P Q := wp_getf rfl rfl rfl rfl dX8_bracketCount_1
theorem e_X8_bracketCount_4 {v0 : Nat} {x0 : Option Value} : Wp S N d MX8_bracketCount 4 [x0] [.ref v0] I J P Q ↔ S v0 = 5 ∧ Wp S N d MX8_bracketCount 7 [x0] [va_rf (P v0 0)] I J P Q := wp_getf rfl rfl rfl rfl dX8_bracketCount_4
theorem e_X8_bracketCount_7 {v0 : Nat} {x0 : Option Value} : Wp S N d MX8_bracketCount 7 [x0] [.ref v0] I J P Q ↔ S v0 = 7 ∧ Wp S N d MX8_bracketCount 10 [x0] [.int (I v0 0)] I J P Q := wp_getf rfl rfl rfl rfl dX8_bracketCount_7
theorem e_X8_bracketCount_10 {v0 : Int32} {x0 : Option Value} : Wp S N d MX8_bracketCount 10 [x0] [.int v0] I J P Q ↔ Q (some (.int v0)) I J P := wp_iret rfl dX8_bracketCount_10
theorem dX8_bracket_0 : decode cX8_bracket 0 = .ok (.aload_n 0, 1) := by decide +kernel
theorem dX8_bracket_1 : decode cX8_bracket 1 = .ok (.iload_n 1, 1) := by decide +kernel
theorem dX8_bracket_2 : decode cX8_bracket 2 = .ok (.aload_n 0, 1) := by decide +kernel
theorem dX8_bracket_3 : decode cX8_bracket 3 = .ok (.getfield 26, 3) := by decide +kernel
theorem dX8_bracket_6 : decode cX8_bracket 6 = .ok (.getfield 80, 3) := by decide +kernel
theorem dX8_bracket_9 : decode cX8_bracket 9 = .ok (.getfield 120, 3) := by decide +kernel
theorem dX8_bracket_12 : decode cX8_bracket 12 = .ok (.invokevirtual 123, 3) := by decide +kernel
theorem dX8_bracket_15 : decode cX8_bracket 15 = .ok (.aload_n 0, 1) := by decide +kernel
theorem dX8_bracket_16 : decode cX8_bracket 16 = .ok (.iload_n 2, 1) := by decide +kernel
theorem dX8_bracket_17 : decode cX8_bracket 17 = .ok (.iconst 0, 1) := by decide +kernel
theorem dX8_bracket_18 : decode cX8_bracket 18 = .ok (.iconst 1, 1) := by decide +kernel
theorem dX8_bracket_19 : decode cX8_bracket 19 = .ok (.invokevirtual 61, 3) := by decide +kernel
theorem dX8_bracket_22 : decode cX8_bracket 22 = .ok (.iload_n 2, 1) := by decide +kernel
theorem dX8_bracket_23 : decode cX8_bracket 23 = .ok (.ifCond .ne 18, 3) := by decide +kernel
theorem dX8_bracket_26 : decode cX8_bracket 26 = .ok (.aload_n 0, 1) := by decide +kernel
theorem dX8_bracket_27 : decode cX8_bracket 27 = .ok (.getfield 26, 3) := by decide +kernel
theorem dX8_bracket_30 : decode cX8_bracket 30 = .ok (.getfield 80, 3) := by decide +kernel
theorem dX8_bracket_33 : decode cX8_bracket 33 = .ok (.getfield 127, 3) := by decide +kernel
theorem dX8_bracket_36 : decode cX8_bracket 36 = .ok (.iload_n 1, 1) := by decide +kernel
theorem dX8_bracket_37 : decode cX8_bracket 37 = .ok (.iaload, 1) := by decide +kernel
theorem dX8_bracket_38 : decode cX8_bracket 38 = .ok (.goto 15, 3) := by decide +kernel
theorem dX8_bracket_41 : decode cX8_bracket 41 = .ok (.aload_n 0, 1) := by decide +kernel
theorem dX8_bracket_42 : decode cX8_bracket 42 = .ok (.getfield 26, 3) := by decide +kernel
theorem dX8_bracket_45 : decode cX8_bracket 45 = .ok (.getfield 80, 3) := by decide +kernel
theorem dX8_bracket_48 : decode cX8_bracket 48 = .ok (.getfield 130, 3) := by decide +kernel
theorem dX8_bracket_51 : decode cX8_bracket 51 = .ok (.iload_n 1, 1) := by decide +kernel
theorem dX8_bracket_52 : decode cX8_bracket 52 = .ok (.iaload, 1) := by decide +kernel
theorem dX8_bracket_53 : decode cX8_bracket 53 = .ok (.ireturn, 1) := by decide +kernel
theorem c_X8_bracket {a0 : Nat} {a1 : Int32} {a2 : Int32} : CWp S N d MX8_bracket [.ref a0, .int a1, .int a2] I J P Q ↔ Wp S N d MX8_bracket 0 [some (.ref a0), some (.int a1), some (.int a2)] [] I J P Q := by
  rw [cwp_iff]
  exact ⟨fun h => h.2, fun h => ⟨Nat.le_of_ble_eq_true rfl, h⟩⟩
theorem e_X8_bracket_0 {w : Nat} {x1 x2 : Option Value} : Wp S N d MX8_bracket 0 [some (.ref w), x1, x2] [] I J P Q ↔ Wp S N d MX8_bracket 1 [some (.ref w), x1, x2] [.ref w] I J P Q := wp_lod (len := 1) rfl rfl rfl rfl dX8_bracket_0
theorem e_X8_bracket_1 {v0 : Nat} {w : Int32} {x0 x2 : Option Value} : Wp S N d MX8_bracket 1 [x0, some (.int w), x2] [.ref v0] I J P Q ↔ Wp S N d MX8_bracket 2 [x0, some (.int w), x2] [.int w, .ref v0] I J P Q := wp_lod (len := 1) rfl rfl rfl rfl dX8_bracket_1
theorem e_X8_bracket_2 {v0 : Int32} {v1 : Nat} {w : Nat} {x1 x2 : Option Value} : Wp S N d MX8_bracket 2 [some (.ref w), x1, x2] [.int v0, .ref v1] I J P Q ↔ Wp S N d MX8_bracket 3 [some (.ref w), x1, x2] [.ref w, .int v0, .ref v1] I J P Q := wp_lod (len := 1) rfl rfl rfl rfl dX8_bracket_2
theorem e_X8_bracket_3 {v0 : Nat} {v1 : Int32} {v2 : Nat} {x0 x1 x2 : Option Value} : Wp S N d MX8_bracket 3 [x0, x1, x2] [.ref v0, .int v1, .ref v2] I J P Q ↔ S v0 = 8 ∧ Wp S N d MX8_bracket 6 [x0, x1, x2] [va_rf (P v0 2), .int v1, .ref v2] I J P Q := wp_getf rfl rfl rfl rfl dX8_bracket_3
theorem e_X8_bracket_6 {v0 : Nat} {v1 : Int32} {v2 : Nat} {x0 x1 x2 : Option Value} : Wp S N d MX8_bracket 6 [x0, x1, x2] [.ref v0, .int v1, .ref v2] I J P Q ↔ S v0 = 5 ∧ Wp S N d MX8_bracket 9 [x0, x1, x2] [va_rf (P v0 0), .int v1, .ref v2] I J P Q := wp_getf rfl rfl rfl rfl dX8_bracket_6
theorem e_X8_bracket_9 {v0 : Nat} {v1 : Int32} {v2 : Nat} {x0 x1 x2 : Option Value} : Wp S N d MX8_bracket 9 [x0, x1, x2] [.ref v0, .int v1, .ref v2] I J P Q ↔ S v0 = 7 ∧ Wp S N d MX8_bracket 12 [x0, x1, x2] [.int (I v0 0), .int v1, .ref v2] I J P Q := wp_getf rfl rfl rfl rfl dX8_bracket_9
theorem e_X8_bracket_12 {v0 : Int32} {v1 : Int32} {v2 : Nat} {x0 x1 x2 : Option Value} : Wp S N (d + 1) MX8_bracket 12 [x0, x1, x2] [.int v0, .int v1, .ref v2] I J P Q ↔ S v2 = 8 ∧ CWp S N d MX8_requireIndex [.ref v2, .int v1, .int v0] I J P (fun r I1 J1 P1 => Wp S N (d + 1) MX8_bracket 15 [x0, x1, x2] (r.toList ++ []) I1 J1 P1 Q) := wp_callV (M' := MX8_requireIndex) (As := [.int v1, .int v0]) rfl rfl rfl rfl (by decide) (Nat.le_of_ble_eq_true rfl) dX8_bracket_12
theorem e_X8_bracket_15 {w : Nat} {x1 x2 : Option Value} : Wp S N d MX8_bracket 15 [some (.ref w), x1, x2] [] I J P Q ↔ Wp S N d MX8_bracket 16 [some (.ref w), x1, x2] [.ref w] I J P Q := wp_lod (len := 1) rfl rfl rfl rfl dX8_bracket_15
theorem e_X8_bracket_16 {v0 : Nat} {w : Int32} {x0 x1 : Option Value} : Wp S N d MX8_bracket 16 [x0, x1, some (.int w)] [.ref v0] I J P Q ↔ Wp S N d MX8_bracket 17 [x0, x1, some (.int w)] [.int w, .ref v0] I J P Q := wp_lod (len := 1) rfl rfl rfl rfl dX8_bracket_16
theorem e_X8_bracket_17 {v0 : Int32} {v1 : Nat} {x0 x1 x2 : Option Value} : Wp S N d MX8_bracket 17 [x0, x1, x2] [.int v0, .ref v1] I J P Q ↔ Wp S N d MX8_bracket 18 [x0, x1, x2] [.int 0, .int v0, .ref v1] I J P Q := wp_iconst (by decide) dX8_bracket_17
theorem e_X8_bracket_18 {v0 : Int32} {v1 : Int32} {v2 : Nat} {x0 x1 x2 : Option Value} : Wp S N d MX8_bracket 18 [x0, x1, x2] [.int v0, .int v1, .ref v2] I J P Q ↔ Wp S N d MX8_bracket 19 [x0, x1, x2] [.int 1, .int v0, .int v1, .ref v2] I J P Q := wp_iconst (by decide) dX8_bracket_18
theorem e_X8_bracket_19 {v0 : Int32} {v1 : Int32} {v2 : Int32} {v3 : Nat} {x0 x1 x2 : Option Value} : Wp S N (d + 1) MX8_bracket 19 [x0, x1, x2] [.int v0, .int v1, .int v2, .ref v3] I J P Q ↔ S v3 = 8 ∧ CWp S N d MX8_requireRange [.ref v3, .int v2, .int v1, .int v0] I J P (fun r I1 J1 P1 => Wp S N (d + 1) MX8_bracket 22 [x0, x1, x2] (r.toList ++ []) I1 J1 P1 Q) := wp_callV (M' := MX8_requireRange) (As := [.int v2, .int v1, .int v0]) rfl rfl rfl rfl (by decide) (Nat.le_of_ble_eq_true rfl) dX8_bracket_19
theorem e_X8_bracket_22 {w : Int32} {x0 x1 : Option Value} : Wp S N d MX8_bracket 22 [x0, x1, some (.int w)] [] I J P Q ↔ Wp S N d MX8_bracket 23 [x0, x1, some (.int w)] [.int w] I J P Q := wp_lod (len := 1) rfl rfl rfl rfl dX8_bracket_22
theorem e_X8_bracket_23 {v0 : Int32} {x0 x1 x2 : Option Value} : Wp S N d MX8_bracket 23 [x0, x1, x2] [.int v0] I J P Q ↔ (¬ v0 = 0 → Wp S N d MX8_bracket 41 [x0, x1, x2] [] I J P Q) ∧ (v0 = 0 → Wp S N d MX8_bracket 26 [x0, x1, x2] [] I J P Q) := wp_brn rfl rfl (by decide) dX8_bracket_23
theorem e_X8_bracket_26 {w : Nat} {x1 x2 : Option Value} : Wp S N d MX8_bracket 26 [some (.ref w), x1, x2] [] I J P Q ↔ Wp S N d MX8_bracket 27 [some (.ref w), x1, x2] [.ref w] I J P Q := wp_lod (len := 1) rfl rfl rfl rfl dX8_bracket_26
theorem e_X8_bracket_27 {v0 : Nat} {x0 x1 x2 : Option Value} : Wp S N d MX8_bracket 27 [x0, x1, x2] [.ref v0] I J P Q ↔ S v0 = 8 ∧ Wp S N d MX8_bracket 30 [x0, x1, x2] [va_rf (P v0 2)] I J P Q := wp_getf rfl rfl rfl rfl dX8_bracket_27
theorem e_X8_bracket_30 {v0 : Nat} {x0 x1 x2 : Option Value} : Wp S N d MX8_bracket 30 [x0, x1, x2] [.ref v0] I J P Q ↔ S v0 = 5 ∧ Wp S N d MX8_bracket 33 [x0, x1, x2] [va_rf (P v0 0)] I J P Q := wp_getf rfl rfl rfl rfl dX8_bracket_30
theorem e_X8_bracket_33 {v0 : Nat} {x0 x1 x2 : Option Value} : Wp S N d MX8_bracket 33 [x0, x1, x2] [.ref v0] I J P Q ↔ S v0 = 7 ∧ Wp S N d MX8_bracket 36 [x0, x1, x2] [va_rf (P v0 1)] I J P Q := wp_getf rfl rfl rfl rfl dX8_bracket_33
theorem e_X8_bracket_36 {v0 : Nat} {w : Int32} {x0 x2 : Option Value} : Wp S N d MX8_bracket 36 [x0, some (.int w), x2] [.ref v0] I J P Q ↔ Wp S N d MX8_bracket 37 [x0, some (.int w), x2] [.int w, .ref v0] I J P Q := wp_lod (len := 1) rfl rfl rfl rfl dX8_bracket_36
theorem e_X8_bracket_37 {v0 : Int32} {v1 : Nat} {x0 x1 x2 : Option Value} : Wp S N d MX8_bracket 37 [x0, x1, x2] [.int v0, .ref v1] I J P Q ↔ (S v1 = 10 ∧ vp_in v0 (N v1)) ∧ Wp S N d MX8_bracket 38 [x0, x1, x2] [.int (I v1 v0.toNatClampNeg)] I J P Q := wp_ald rfl rfl dX8_bracket_37
theorem e_X8_bracket_38 {v0 : Int32} {x0 x1 x2 : Option Value} : Wp S N d MX8_bracket 38 [x0, x1, x2] [.int v0] I J P Q ↔ Wp S N d MX8_bracket 53 [x0, x1, x2] [.int v0] I J P Q := wp_go (len := 3) rfl (fun _ _ => rfl) rfl (by decide) dX8_bracket_38
theorem e_X8_bracket_41 {w : Nat} {x1 x2 : Option Value} : Wp S N d MX8_bracket 41 [some (.ref w), x1, x2] [] I J P Q ↔ Wp S N d MX8_bracket 42 [some (.ref w), x1, x2] [.ref w] I J P Q := wp_lod (len := 1) rfl rfl rfl rfl dX8_bracket_41
theorem e_X8_bracket_42 {v0 : Nat} {x0 x1 x2 : Option Value} : Wp S N d MX8_bracket 42 [x0, x1, x2] [.ref v0] I J P Q ↔ S v0 = 8 ∧ Wp S N d MX8_bracket 45 [x0, x1, x2] [va_rf (P v0 2)] I J P Q := wp_getf rfl rfl rfl rfl dX8_bracket_42
theorem e_X8_bracket_45 {v0 : Nat} {x0 x1 x2 : Option Value} : Wp S N d MX8_bracket 45 [x0, x1, x2] [.ref v0] I J P Q ↔ S v0 = 5 ∧ Wp S N d MX8_bracket 48 [x0, x1, x2] [va_rf (P v0 0)] I J P Q := wp_getf rfl rfl rfl rfl dX8_bracket_45
theorem e_X8_bracket_48 {v0 : Nat} {x0 x1 x2 : Option Value} : Wp S N d MX8_bracket 48 [x0, x1, x2] [.ref v0] I J P Q ↔ S v0 = 7 ∧ Wp S N d MX8_bracket 51 [x0, x1, x2] [va_rf (P v0 2)] I J P Q := wp_getf rfl rfl rfl rfl dX8_bracket_48
theorem e_X8_bracket_51 {v0 : Nat} {w : Int32} {x0 x2 : Option Value} : Wp S N d MX8_bracket 51 [x0, some (.int w), x2] [.ref v0] I J P Q ↔ Wp S N d MX8_bracket 52 [x0, some (.int w), x2] [.int w, .ref v0] I J P Q := wp_lod (len := 1) rfl rfl rfl rfl dX8_bracket_51
theorem e_X8_bracket_52 {v0 : Int32} {v1 : Nat} {x0 x1 x2 : Option Value} : Wp S N d MX8_bracket 52 [x0, x1, x2] [.int v0, .ref v1] I J P Q ↔ (S v1 = 10 ∧ vp_in v0 (N v1)) ∧ Wp S N d MX8_bracket 53 [x0, x1, x2] [.int (I v1 v0.toNatClampNeg)] I J P Q := wp_ald rfl rfl dX8_bracket_52
theorem e_X8_bracket_53 {v0 : Int32} {x0 x1 x2 : Option Value} : Wp S N d MX8_bracket 53 [x0, x1, x2] [.int v0] I J P Q ↔ Q (some (.int v0)) I J P := wp_iret rfl dX8_bracket_53
theorem dX8_allowance_0 : decode cX8_allowance 0 = .ok (.aload_n 0, 1) := by decide +kernel
theorem dX8_allowance_1 : decode cX8_allowance 1 = .ok (.iload_n 1, 1) := by decide +kernel
theorem dX8_allowance_2 : decode cX8_allowance 2 = .ok (.iconst 0, 1) := by decide +kernel
theorem dX8_allowance_3 : decode cX8_allowance 3 = .ok (.iconst 4, 1) := by decide +kernel
theorem dX8_allowance_4 : decode cX8_allowance 4 = .ok (.invokevirtual 61, 3) := by decide +kernel
theorem dX8_allowance_7 : decode cX8_allowance 7 = .ok (.aload_n 0, 1) := by decide +kernel
theorem dX8_allowance_8 : decode cX8_allowance 8 = .ok (.getfield 26, 3) := by decide +kernel
theorem dX8_allowance_11 : decode cX8_allowance 11 = .ok (.getfield 80, 3) := by decide +kernel
theorem dX8_allowance_14 : decode cX8_allowance 14 = .ok (.getfield 133, 3) := by decide +kernel
theorem dX8_allowance_17 : decode cX8_allowance 17 = .ok (.iload_n 1, 1) := by decide +kernel
theorem dX8_allowance_18 : decode cX8_allowance 18 = .ok (.iaload, 1) := by decide +kernel
theorem dX8_allowance_19 : decode cX8_allowance 19 = .ok (.ireturn, 1) := by decide +kernel
theorem c_X8_allowance {a0 : Nat} {a1 : Int32} : CWp S N d MX8_allowance [.ref a0, .int a1] I J P Q ↔ Wp S N d MX8_allowance 0 [some (.ref a0), some (.int a1)] [] I J P Q := by
  rw [cwp_iff]
  exact ⟨fun h => h.2, fun h => ⟨Nat.le_of_ble_eq_true rfl, h⟩⟩
theorem e_X8_allowance_0 {w : Nat} {x1 : Option Value} : Wp S N d MX8_allowance 0 [some (.ref w), x1] [] I J P Q ↔ Wp S N d MX8_allowance 1 [some (.ref w), x1] [.ref w] I J P Q := wp_lod (len := 1) rfl rfl rfl rfl dX8_allowance_0
theorem e_X8_allowance_1 {v0 : Nat} {w : Int32} {x0 : Option Value} : Wp S N d MX8_allowance 1 [x0, some (.int w)] [.ref v0] I J P Q ↔ Wp S N d MX8_allowance 2 [x0, some (.int w)] [.int w, .ref v0] I J P Q := wp_lod (len := 1) rfl rfl rfl rfl dX8_allowance_1
theorem e_X8_allowance_2 {v0 : Int32} {v1 : Nat} {x0 x1 : Option Value} : Wp S N d MX8_allowance 2 [x0, x1] [.int v0, .ref v1] I J P Q ↔ Wp S N d MX8_allowance 3 [x0, x1] [.int 0, .int v0, .ref v1] I J P Q := wp_iconst (by decide) dX8_allowance_2
theorem e_X8_allowance_3 {v0 : Int32} {v1 : Int32} {v2 : Nat} {x0 x1 : Option Value} : Wp S N d MX8_allowance 3 [x0, x1] [.int v0, .int v1, .ref v2] I J P Q ↔ Wp S N d MX8_allowance 4 [x0, x1] [.int 4, .int v0, .int v1, .ref v2] I J P Q := wp_iconst (by decide) dX8_allowance_3
theorem e_X8_allowance_4 {v0 : Int32} {v1 : Int32} {v2 : Int32} {v3 : Nat} {x0 x1 : Option Value} : Wp S N (d + 1) MX8_allowance 4 [x0, x1] [.int v0, .int v1, .int v2, .ref v3] I J P Q ↔ S v3 = 8 ∧ CWp S N d MX8_requireRange [.ref v3, .int v2, .int v1, .int v0] I J P (fun r I1 J1 P1 => Wp S N (d + 1) MX8_allowance 7 [x0, x1] (r.toList ++ []) I1 J1 P1 Q) := wp_callV (M' := MX8_requireRange) (As := [.int v2, .int v1, .int v0]) rfl rfl rfl rfl (by decide) (Nat.le_of_ble_eq_true rfl) dX8_allowance_4
theorem e_X8_allowance_7 {w : Nat} {x1 : Option Value} : Wp S N d MX8_allowance 7 [some (.ref w), x1] [] I J P Q ↔ Wp S N d MX8_allowance 8 [some (.ref w), x1] [.ref w] I J P Q := wp_lod (len := 1) rfl rfl rfl rfl dX8_allowance_7
theorem e_X8_allowance_8 {v0 : Nat} {x0 x1 : Option Value} : Wp S N d MX8_allowance 8 [x0, x1] [.ref v0] I J P Q ↔ S v0 = 8 ∧ Wp S N d MX8_allowance 11 [x0, x1] [va_rf (P v0 2)] I J P Q := wp_getf rfl rfl rfl rfl dX8_allowance_8
theorem e_X8_allowance_11 {v0 : Nat} {x0 x1 : Option Value} : Wp S N d MX8_allowance 11 [x0, x1] [.ref v0] I J P Q ↔ S v0 = 5 ∧ Wp S N d MX8_allowance 14 [x0, x1] [va_rf (P v0 0)] I J P Q := wp_getf rfl rfl rfl rfl dX8_allowance_11
theorem e_X8_allowance_14 {v0 : Nat} {x0 x1 : Option Value} : Wp S N d MX8_allowance 14 [x0, x1] [.ref v0] I J P Q ↔ S v0 = 7 ∧ Wp S N d MX8_allowance 17 [x0, x1] [va_rf (P v0 3)] I J P Q := wp_getf rfl rfl rfl rfl dX8_allowance_14
theorem e_X8_allowance_17 {v0 : Nat} {w : Int32} {x0 : Option Value} : Wp S N d MX8_allowance 17 [x0, some (.int w)] [.ref v0] I J P Q ↔ Wp S N d MX8_allowance 18 [x0, some (.int w)] [.int w, .ref v0] I J P Q := wp_lod (len := 1) rfl rfl rfl rfl dX8_allowance_17
theorem e_X8_allowance_18 {v0 : Int32} {v1 : Nat} {x0 x1 : Option Value} : Wp S N d MX8_allowance 18 [x0, x1] [.int v0, .ref v1] I J P Q ↔ (S v1 = 10 ∧ vp_in v0 (N v1)) ∧ Wp S N d MX8_allowance 19 [x0, x1] [.int (I v1 v0.toNatClampNeg)] I J P Q := wp_ald rfl rfl dX8_allowance_18
theorem e_X8_allowance_19 {v0 : Int32} {x0 x1 : Option Value} : Wp S N d MX8_allowance 19 [x0, x1] [.int v0] I J P Q ↔ Q (some (.int v0)) I J P := wp_iret rfl dX8_allowance_19
theorem dX8_chargeCount_0 : decode cX8_chargeCount 0 = .ok (.aload_n 0, 1) := by decide +kernel
theorem dX8_chargeCount_1 : decode cX8_chargeCount 1 = .ok (.getfield 26, 3) := by decide +kernel
theorem dX8_chargeCount_4 : decode cX8_chargeCount 4 = .ok (.getfield 80, 3) := by decide +kernel
theorem dX8_chargeCount_7 : decode cX8_chargeCount 7 = .ok (.getfield 111, 3) := by decide +kernel
theorem dX8_chargeCount_10 : decode cX8_chargeCount 10 = .ok (.ireturn, 1) := by decide +kernel
theorem c_X8_chargeCount {a0 : Nat} : CWp S N d MX8_chargeCount [.ref a0] I J P Q ↔ Wp S N d MX8_chargeCount 0 [some (.ref a0)] [] I J P Q := by
  rw [cwp_iff]
  exact ⟨fun h => h.2, fun h => ⟨Nat.le_of_ble_eq_true rfl, h⟩⟩
theorem e_X8_chargeCount_0 {w : Nat} : Wp S N d MX8_chargeCount 0 [some (.ref w)] [] I J P Q ↔ Wp S N d MX8_chargeCount 1 [some (.ref w)] [.ref w] I J P Q := wp_lod (len := 1) rfl rfl rfl rfl dX8_chargeCount_0
theorem e_X8_chargeCount_1 {v0 : Nat} {x0 : Option Value} : Wp S N d MX8_chargeCount 1 [x0] [.ref v0] I J P Q ↔ S v0 = 8 ∧ Wp S N d MX8_chargeCount 4 [x0] [va_rf (P v0 2)] I J P Q := wp_getf rfl rfl rfl rfl dX8_chargeCount_1
theorem e_X8_chargeCount_4 {v0 : Nat} {x0 : Option Value} : Wp S N d MX8_chargeCount 4 [x0] [.ref v0] I J P Q ↔ S v0 = 5 ∧ Wp S N d MX8_chargeCount 7 [x0] [va_rf (P v0 0)] I J P Q := wp_getf rfl rfl rfl rfl dX8_chargeCount_4
theorem e_X8_chargeCount_7 {v0 : Nat} {x0 : Option Value} : Wp S N d MX8_chargeCount 7 [x0] [.ref v0] I J P Q ↔ S v0 = 7 ∧ Wp S N d MX8_chargeCount 10 [x0] [.int (I v0 4)] I J P Q := wp_getf rfl rfl rfl rfl dX8_chargeCount_7
theorem e_X8_chargeCount_10 {v0 : Int32} {x0 : Option Value} : Wp S N d MX8_chargeCount 10 [x0] [.int v0] I J P Q ↔ Q (some (.int v0)) I J P := wp_iret rfl dX8_chargeCount_10
theorem dX8_charge_0 : decode cX8_charge 0 = .ok (.aload_n 0, 1) := by decide +kernel
theorem dX8_charge_1 : decode cX8_charge 1 = .ok (.iload_n 1, 1) := by decide +kernel
theorem dX8_charge_2 : decode cX8_charge 2 = .ok (.aload_n 0, 1) := by decide +kernel
theorem dX8_charge_3 : decode cX8_charge 3 = .ok (.getfield 26, 3) := by decide +kernel
theorem dX8_charge_6 : decode cX8_charge 6 = .ok (.getfield 80, 3) := by decide +kernel
theorem dX8_charge_9 : decode cX8_charge 9 = .ok (.getfield 111, 3) := by decide +kernel
theorem dX8_charge_12 : decode cX8_charge 12 = .ok (.invokevirtual 123, 3) := by decide +kernel
theorem dX8_charge_15 : decode cX8_charge 15 = .ok (.aload_n 0, 1) := by decide +kernel
theorem dX8_charge_16 : decode cX8_charge 16 = .ok (.iload_n 2, 1) := by decide +kernel
theorem dX8_charge_17 : decode cX8_charge 17 = .ok (.iconst 0, 1) := by decide +kernel
theorem dX8_charge_18 : decode cX8_charge 18 = .ok (.iconst 1, 1) := by decide +kernel
theorem dX8_charge_19 : decode cX8_charge 19 = .ok (.invokevirtual 61, 3) := by decide +kernel
theorem dX8_charge_22 : decode cX8_charge 22 = .ok (.iload_n 2, 1) := by decide +kernel
theorem dX8_charge_23 : decode cX8_charge 23 = .ok (.ifCond .ne 18, 3) := by decide +kernel
theorem dX8_charge_26 : decode cX8_charge 26 = .ok (.aload_n 0, 1) := by decide +kernel
theorem dX8_charge_27 : decode cX8_charge 27 = .ok (.getfield 26, 3) := by decide +kernel
theorem dX8_charge_30 : decode cX8_charge 30 = .ok (.getfield 80, 3) := by decide +kernel
theorem dX8_charge_33 : decode cX8_charge 33 = .ok (.getfield 136, 3) := by decide +kernel
theorem dX8_charge_36 : decode cX8_charge 36 = .ok (.iload_n 1, 1) := by decide +kernel
theorem dX8_charge_37 : decode cX8_charge 37 = .ok (.iaload, 1) := by decide +kernel
theorem dX8_charge_38 : decode cX8_charge 38 = .ok (.goto 15, 3) := by decide +kernel
theorem dX8_charge_41 : decode cX8_charge 41 = .ok (.aload_n 0, 1) := by decide +kernel
theorem dX8_charge_42 : decode cX8_charge 42 = .ok (.getfield 26, 3) := by decide +kernel
theorem dX8_charge_45 : decode cX8_charge 45 = .ok (.getfield 80, 3) := by decide +kernel
theorem dX8_charge_48 : decode cX8_charge 48 = .ok (.getfield 139, 3) := by decide +kernel
theorem dX8_charge_51 : decode cX8_charge 51 = .ok (.iload_n 1, 1) := by decide +kernel
theorem dX8_charge_52 : decode cX8_charge 52 = .ok (.iaload, 1) := by decide +kernel
theorem dX8_charge_53 : decode cX8_charge 53 = .ok (.ireturn, 1) := by decide +kernel
theorem c_X8_charge {a0 : Nat} {a1 : Int32} {a2 : Int32} : CWp S N d MX8_charge [.ref a0, .int a1, .int a2] I J P Q ↔ Wp S N d MX8_charge 0 [some (.ref a0), some (.int a1), some (.int a2)] [] I J P Q := by
  rw [cwp_iff]
  exact ⟨fun h => h.2, fun h => ⟨Nat.le_of_ble_eq_true rfl, h⟩⟩
theorem e_X8_charge_0 {w : Nat} {x1 x2 : Option Value} : Wp S N d MX8_charge 0 [some (.ref w), x1, x2] [] I J P Q ↔ Wp S N d MX8_charge 1 [some (.ref w), x1, x2] [.ref w] I J P Q := wp_lod (len := 1) rfl rfl rfl rfl dX8_charge_0
theorem e_X8_charge_1 {v0 : Nat} {w : Int32} {x0 x2 : Option Value} : Wp S N d MX8_charge 1 [x0, some (.int w), x2] [.ref v0] I J P Q ↔ Wp S N d MX8_charge 2 [x0, some (.int w), x2] [.int w, .ref v0] I J P Q := wp_lod (len := 1) rfl rfl rfl rfl dX8_charge_1
theorem e_X8_charge_2 {v0 : Int32} {v1 : Nat} {w : Nat} {x1 x2 : Option Value} : Wp S N d MX8_charge 2 [some (.ref w), x1, x2] [.int v0, .ref v1] I J P Q ↔ Wp S N d MX8_charge 3 [some (.ref w), x1, x2] [.ref w, .int v0, .ref v1] I J P Q := wp_lod (len := 1) rfl rfl rfl rfl dX8_charge_2
theorem e_X8_charge_3 {v0 : Nat} {v1 : Int32} {v2 : Nat} {x0 x1 x2 : Option Value} : Wp S N d MX8_charge 3 [x0, x1, x2] [.ref v0, .int v1, .ref v2] I J P Q ↔ S v0 = 8 ∧ Wp S N d MX8_charge 6 [x0, x1, x2] [va_rf (P v0 2), .int v1, .ref v2] I J P Q := wp_getf rfl rfl rfl rfl dX8_charge_3
theorem e_X8_charge_6 {v0 : Nat} {v1 : Int32} {v2 : Nat} {x0 x1 x2 : Option Value} : Wp S N d MX8_charge 6 [x0, x1, x2] [.ref v0, .int v1, .ref v2] I J P Q ↔ S v0 = 5 ∧ Wp S N d MX8_charge 9 [x0, x1, x2] [va_rf (P v0 0), .int v1, .ref v2] I J P Q := wp_getf rfl rfl rfl rfl dX8_charge_6
theorem e_X8_charge_9 {v0 : Nat} {v1 : Int32} {v2 : Nat} {x0 x1 x2 : Option Value} : Wp S N d MX8_charge 9 [x0, x1, x2] [.ref v0, .int v1, .ref v2] I J P Q ↔ S v0 = 7 ∧ Wp S N d MX8_charge 12 [x0, x1, x2] [.int (I v0 4), .int v1, .ref v2] I J P Q := wp_getf rfl rfl rfl rfl dX8_charge_9
theorem e_X8_charge_12 {v0 : Int32} {v1 : Int32} {v2 : Nat} {x0 x1 x2 : Option Value} : Wp S N (d + 1) MX8_charge 12 [x0, x1, x2] [.int v0, .int v1, .ref v2] I J P Q ↔ S v2 = 8 ∧ CWp S N d MX8_requireIndex [.ref v2, .int v1, .int v0] I J P (fun r I1 J1 P1 => Wp S N (d + 1) MX8_charge 15 [x0, x1, x2] (r.toList ++ []) I1 J1 P1 Q) := wp_callV (M' := MX8_requireIndex) (As := [.int v1, .int v0]) rfl rfl rfl rfl (by decide) (Nat.le_of_ble_eq_true rfl) dX8_charge_12
theorem e_X8_charge_15 {w : Nat} {x1 x2 : Option Value} : Wp S N d MX8_charge 15 [some (.ref w), x1, x2] [] I J P Q ↔ Wp S N d MX8_charge 16 [some (.ref w), x1, x2] [.ref w] I J P Q := wp_lod (len := 1) rfl rfl rfl rfl dX8_charge_15
theorem e_X8_charge_16 {v0 : Nat} {w : Int32} {x0 x1 : Option Value} : Wp S N d MX8_charge 16 [x0, x1, some (.int w)] [.ref v0] I J P Q ↔ Wp S N d MX8_charge 17 [x0, x1, some (.int w)] [.int w, .ref v0] I J P Q := wp_lod (len := 1) rfl rfl rfl rfl dX8_charge_16
theorem e_X8_charge_17 {v0 : Int32} {v1 : Nat} {x0 x1 x2 : Option Value} : Wp S N d MX8_charge 17 [x0, x1, x2] [.int v0, .ref v1] I J P Q ↔ Wp S N d MX8_charge 18 [x0, x1, x2] [.int 0, .int v0, .ref v1] I J P Q := wp_iconst (by decide) dX8_charge_17
theorem e_X8_charge_18 {v0 : Int32} {v1 : Int32} {v2 : Nat} {x0 x1 x2 : Option Value} : Wp S N d MX8_charge 18 [x0, x1, x2] [.int v0, .int v1, .ref v2] I J P Q ↔ Wp S N d MX8_charge 19 [x0, x1, x2] [.int 1, .int v0, .int v1, .ref v2] I J P Q := wp_iconst (by decide) dX8_charge_18
theorem e_X8_charge_19 {v0 : Int32} {v1 : Int32} {v2 : Int32} {v3 : Nat} {x0 x1 x2 : Option Value} : Wp S N (d + 1) MX8_charge 19 [x0, x1, x2] [.int v0, .int v1, .int v2, .ref v3] I J P Q ↔ S v3 = 8 ∧ CWp S N d MX8_requireRange [.ref v3, .int v2, .int v1, .int v0] I J P (fun r I1 J1 P1 => Wp S N (d + 1) MX8_charge 22 [x0, x1, x2] (r.toList ++ []) I1 J1 P1 Q) := wp_callV (M' := MX8_requireRange) (As := [.int v2, .int v1, .int v0]) rfl rfl rfl rfl (by decide) (Nat.le_of_ble_eq_true rfl) dX8_charge_19
theorem e_X8_charge_22 {w : Int32} {x0 x1 : Option Value} : Wp S N d MX8_charge 22 [x0, x1, some (.int w)] [] I J P Q ↔ Wp S N d MX8_charge 23 [x0, x1, some (.int w)] [.int w] I J P Q := wp_lod (len := 1) rfl rfl rfl rfl dX8_charge_22
theorem e_X8_charge_23 {v0 : Int32} {x0 x1 x2 : Option Value} : Wp S N d MX8_charge 23 [x0, x1, x2] [.int v0] I J P Q ↔ (¬ v0 = 0 → Wp S N d MX8_charge 41 [x0, x1, x2] [] I J P Q) ∧ (v0 = 0 → Wp S N d MX8_charge 26 [x0, x1, x2] [] I J P Q) := wp_brn rfl rfl (by decide) dX8_charge_23
theorem e_X8_charge_26 {w : Nat} {x1 x2 : Option Value} : Wp S N d MX8_charge 26 [some (.ref w), x1, x2] [] I J P Q ↔ Wp S N d MX8_charge 27 [some (.ref w), x1, x2] [.ref w] I J P Q := wp_lod (len := 1) rfl rfl rfl rfl dX8_charge_26
theorem e_X8_charge_27 {v0 : Nat} {x0 x1 x2 : Option Value} : Wp S N d MX8_charge 27 [x0, x1, x2] [.ref v0] I J P Q ↔ S v0 = 8 ∧ Wp S N d MX8_charge 30 [x0, x1, x2] [va_rf (P v0 2)] I J P Q := wp_getf rfl rfl rfl rfl dX8_charge_27
theorem e_X8_charge_30 {v0 : Nat} {x0 x1 x2 : Option Value} : Wp S N d MX8_charge 30 [x0, x1, x2] [.ref v0] I J P Q ↔ S v0 = 5 ∧ Wp S N d MX8_charge 33 [x0, x1, x2] [va_rf (P v0 0)] I J P Q := wp_getf rfl rfl rfl rfl dX8_charge_30
theorem e_X8_charge_33 {v0 : Nat} {x0 x1 x2 : Option Value} : Wp S N d MX8_charge 33 [x0, x1, x2] [.ref v0] I J P Q ↔ S v0 = 7 ∧ Wp S N d MX8_charge 36 [x0, x1, x2] [va_rf (P v0 5)] I J P Q := wp_getf rfl rfl rfl rfl dX8_charge_33
theorem e_X8_charge_36 {v0 : Nat} {w : Int32} {x0 x2 : Option Value} : Wp S N d MX8_charge 36 [x0, some (.int w), x2] [.ref v0] I J P Q ↔ Wp S N d MX8_charge 37 [x0, some (.int w), x2] [.int w, .ref v0] I J P Q := wp_lod (len := 1) rfl rfl rfl rfl dX8_charge_36
theorem e_X8_charge_37 {v0 : Int32} {v1 : Nat} {x0 x1 x2 : Option Value} : Wp S N d MX8_charge 37 [x0, x1, x2] [.int v0, .ref v1] I J P Q ↔ (S v1 = 10 ∧ vp_in v0 (N v1)) ∧ Wp S N d MX8_charge 38 [x0, x1, x2] [.int (I v1 v0.toNatClampNeg)] I J P Q := wp_ald rfl rfl dX8_charge_37
theorem e_X8_charge_38 {v0 : Int32} {x0 x1 x2 : Option Value} : Wp S N d MX8_charge 38 [x0, x1, x2] [.int v0] I J P Q ↔ Wp S N d MX8_charge 53 [x0, x1, x2] [.int v0] I J P Q := wp_go (len := 3) rfl (fun _ _ => rfl) rfl (by decide) dX8_charge_38
theorem e_X8_charge_41 {w : Nat} {x1 x2 : Option Value} : Wp S N d MX8_charge 41 [some (.ref w), x1, x2] [] I J P Q ↔ Wp S N d MX8_charge 42 [some (.ref w), x1, x2] [.ref w] I J P Q := wp_lod (len := 1) rfl rfl rfl rfl dX8_charge_41
theorem e_X8_charge_42 {v0 : Nat} {x0 x1 x2 : Option Value} : Wp S N d MX8_charge 42 [x0, x1, x2] [.ref v0] I J P Q ↔ S v0 = 8 ∧ Wp S N d MX8_charge 45 [x0, x1, x2] [va_rf (P v0 2)] I J P Q := wp_getf rfl rfl rfl rfl dX8_charge_42
theorem e_X8_charge_45 {v0 : Nat} {x0 x1 x2 : Option Value} : Wp S N d MX8_charge 45 [x0, x1, x2] [.ref v0] I J P Q ↔ S v0 = 5 ∧ Wp S N d MX8_charge 48 [x0, x1, x2] [va_rf (P v0 0)] I J P Q := wp_getf rfl rfl rfl rfl dX8_charge_45
theorem e_X8_charge_48 {v0 : Nat} {x0 x1 x2 : Option Value} : Wp S N d MX8_charge 48 [x0, x1, x2] [.ref v0] I J P Q ↔ S v0 = 7 ∧ Wp S N d MX8_charge 51 [x0, x1, x2] [va_rf (P v0 6)] I J P Q := wp_getf rfl rfl rfl rfl dX8_charge_48
theorem e_X8_charge_51 {v0 : Nat} {w : Int32} {x0 x2 : Option Value} : Wp S N d MX8_charge 51 [x0, some (.int w), x2] [.ref v0] I J P Q ↔ Wp S N d MX8_charge 52 [x0, some (.int w), x2] [.int w, .ref v0] I J P Q := wp_lod (len := 1) rfl rfl rfl rfl dX8_charge_51
theorem e_X8_charge_52 {v0 : Int32} {v1 : Nat} {x0 x1 x2 : Option Value} : Wp S N d MX8_charge 52 [x0, x1, x2] [.int v0, .ref v1] I J P Q ↔ (S v1 = 10 ∧ vp_in v0 (N v1)) ∧ Wp S N d MX8_charge 53 [x0, x1, x2] [.int (I v1 v0.toNatClampNeg)] I J P Q := wp_ald rfl rfl dX8_charge_52
theorem e_X8_charge_53 {v0 : Int32} {x0 x1 x2 : Option Value} : Wp S N d MX8_charge 53 [x0, x1, x2] [.int v0] I J P Q ↔ Q (some (.int v0)) I J P := wp_iret rfl dX8_charge_53
theorem dX8_creditCount_0 : decode cX8_creditCount 0 = .ok (.aload_n 0, 1) := by decide +kernel
theorem dX8_creditCount_1 : decode cX8_creditCount 1 = .ok (.getfield 26, 3) := by decide +kernel
theorem dX8_creditCount_4 : decode cX8_creditCount 4 = .ok (.getfield 80, 3) := by decide +kernel
theorem dX8_creditCount_7 : decode cX8_creditCount 7 = .ok (.getfield 114, 3) := by decide +kernel
theorem dX8_creditCount_10 : decode cX8_creditCount 10 = .ok (.ireturn, 1) := by decide +kernel
theorem c_X8_creditCount {a0 : Nat} : CWp S N d MX8_creditCount [.ref a0] I J P Q ↔ Wp S N d MX8_creditCount 0 [some (.ref a0)] [] I J P Q := by
  rw [cwp_iff]
  exact ⟨fun h => h.2, fun h => ⟨Nat.le_of_ble_eq_true rfl, h⟩⟩
theorem e_X8_creditCount_0 {w : Nat} : Wp S N d MX8_creditCount 0 [some (.ref w)] [] I J P Q ↔ Wp S N d MX8_creditCount 1 [some (.ref w)] [.ref w] I J P Q := wp_lod (len := 1) rfl rfl rfl rfl dX8_creditCount_0
theorem e_X8_creditCount_1 {v0 : Nat} {x0 : Option Value} : Wp S N d MX8_creditCount 1 [x0] [.ref v0] I J P Q ↔ S v0 = 8 ∧ Wp S N d MX8_creditCount 4 [x0] [va_rf (P v0 2)] I J P Q := wp_getf rfl rfl rfl rfl dX8_creditCount_1
theorem e_X8_creditCount_4 {v0 : Nat} {x0 : Option Value} : Wp S N d MX8_creditCount 4 [x0] [.ref v0] I J P Q ↔ S v0 = 5 ∧ Wp S N d MX8_creditCount 7 [x0] [va_rf (P v0 0)] I J P Q := wp_getf rfl rfl rfl rfl dX8_creditCount_4
theorem e_X8_creditCount_7 {v0 : Nat} {x0 : Option Value} : Wp S N d MX8_creditCount 7 [x0] [.ref v0] I J P Q ↔ S v0 = 7 ∧ Wp S N d MX8_creditCount 10 [x0] [.int (I v0 7)] I J P Q := wp_getf rfl rfl rfl rfl dX8_creditCount_7
theorem e_X8_creditCount_10 {v0 : Int32} {x0 : Option Value} : Wp S N d MX8_creditCount 10 [x0] [.int v0] I J P Q ↔ Q (some (.int v0)) I J P := wp_iret rfl dX8_creditCount_10
theorem dX8_credit_0 : decode cX8_credit 0 = .ok (.aload_n 0, 1) := by decide +kernel
theorem dX8_credit_1 : decode cX8_credit 1 = .ok (.iload_n 1, 1) := by decide +kernel
theorem dX8_credit_2 : decode cX8_credit 2 = .ok (.aload_n 0, 1) := by decide +kernel
theorem dX8_credit_3 : decode cX8_credit 3 = .ok (.getfield 26, 3) := by decide +kernel
theorem dX8_credit_6 : decode cX8_credit 6 = .ok (.getfield 80, 3) := by decide +kernel
theorem dX8_credit_9 : decode cX8_credit 9 = .ok (.getfield 114, 3) := by decide +kernel
theorem dX8_credit_12 : decode cX8_credit 12 = .ok (.invokevirtual 123, 3) := by decide +kernel
theorem dX8_credit_15 : decode cX8_credit 15 = .ok (.aload_n 0, 1) := by decide +kernel
theorem dX8_credit_16 : decode cX8_credit 16 = .ok (.iload_n 2, 1) := by decide +kernel
theorem dX8_credit_17 : decode cX8_credit 17 = .ok (.iconst 0, 1) := by decide +kernel
theorem dX8_credit_18 : decode cX8_credit 18 = .ok (.iconst 5, 1) := by decide +kernel
theorem dX8_credit_19 : decode cX8_credit 19 = .ok (.invokevirtual 61, 3) := by decide +kernel
theorem dX8_credit_22 : decode cX8_credit 22 = .ok (.aload_n 0, 1) := by decide +kernel
theorem dX8_credit_23 : decode cX8_credit 23 = .ok (.getfield 26, 3) := by decide +kernel
theorem dX8_credit_26 : decode cX8_credit 26 = .ok (.getfield 80, 3) := by decide +kernel
theorem dX8_credit_29 : decode cX8_credit 29 = .ok (.getfield 142, 3) := by decide +kernel
theorem dX8_credit_32 : decode cX8_credit 32 = .ok (.iload_n 1, 1) := by decide +kernel
theorem dX8_credit_33 : decode cX8_credit 33 = .ok (.aaload, 1) := by decide +kernel
theorem dX8_credit_34 : decode cX8_credit 34 = .ok (.getfield 146, 3) := by decide +kernel
theorem dX8_credit_37 : decode cX8_credit 37 = .ok (.iload_n 2, 1) := by decide +kernel
theorem dX8_credit_38 : decode cX8_credit 38 = .ok (.iaload, 1) := by decide +kernel
theorem dX8_credit_39 : decode cX8_credit 39 = .ok (.ireturn, 1) := by decide +kernel
theorem c_X8_credit {a0 : Nat} {a1 : Int32} {a2 : Int32} : CWp S N d MX8_credit [.ref a0, .int a1, .int a2] I J P Q ↔ Wp S N d MX8_credit 0 [some (.ref a0), some (.int a1), some (.int a2)] [] I J P Q := by
  rw [cwp_iff]
  exact ⟨fun h => h.2, fun h => ⟨Nat.le_of_ble_eq_true rfl, h⟩⟩
theorem e_X8_credit_0 {w : Nat} {x1 x2 : Option Value} : Wp S N d MX8_credit 0 [some (.ref w), x1, x2] [] I J P Q ↔ Wp S N d MX8_credit 1 [some (.ref w), x1, x2] [.ref w] I J P Q := wp_lod (len := 1) rfl rfl rfl rfl dX8_credit_0
theorem e_X8_credit_1 {v0 : Nat} {w : Int32} {x0 x2 : Option Value} : Wp S N d MX8_credit 1 [x0, some (.int w), x2] [.ref v0] I J P Q ↔ Wp S N d MX8_credit 2 [x0, some (.int w), x2] [.int w, .ref v0] I J P Q := wp_lod (len := 1) rfl rfl rfl rfl dX8_credit_1
theorem e_X8_credit_2 {v0 : Int32} {v1 : Nat} {w : Nat} {x1 x2 : Option Value} : Wp S N d MX8_credit 2 [some (.ref w), x1, x2] [.int v0, .ref v1] I J P Q ↔ Wp S N d MX8_credit 3 [some (.ref w), x1, x2] [.ref w, .int v0, .ref v1] I J P Q := wp_lod (len := 1) rfl rfl rfl rfl dX8_credit_2
theorem e_X8_credit_3 {v0 : Nat} {v1 : Int32} {v2 : Nat} {x0 x1 x2 : Option Value} : Wp S N d MX8_credit 3 [x0, x1, x2] [.ref v0, .int v1, .ref v2] I J P Q ↔ S v0 = 8 ∧ Wp S N d MX8_credit 6 [x0, x1, x2] [va_rf (P v0 2), .int v1, .ref v2] I J P Q := wp_getf rfl rfl rfl rfl dX8_credit_3
theorem e_X8_credit_6 {v0 : Nat} {v1 : Int32} {v2 : Nat} {x0 x1 x2 : Option Value} : Wp S N d MX8_credit 6 [x0, x1, x2] [.ref v0, .int v1, .ref v2] I J P Q ↔ S v0 = 5 ∧ Wp S N d MX8_credit 9 [x0, x1, x2] [va_rf (P v0 0), .int v1, .ref v2] I J P Q := wp_getf rfl rfl rfl rfl dX8_credit_6
theorem e_X8_credit_9 {v0 : Nat} {v1 : Int32} {v2 : Nat} {x0 x1 x2 : Option Value} : Wp S N d MX8_credit 9 [x0, x1, x2] [.ref v0, .int v1, .ref v2] I J P Q ↔ S v0 = 7 ∧ Wp S N d MX8_credit 12 [x0, x1, x2] [.int (I v0 7), .int v1, .ref v2] I J P Q := wp_getf rfl rfl rfl rfl dX8_credit_9
theorem e_X8_credit_12 {v0 : Int32} {v1 : Int32} {v2 : Nat} {x0 x1 x2 : Option Value} : Wp S N (d + 1) MX8_credit 12 [x0, x1, x2] [.int v0, .int v1, .ref v2] I J P Q ↔ S v2 = 8 ∧ CWp S N d MX8_requireIndex [.ref v2, .int v1, .int v0] I J P (fun r I1 J1 P1 => Wp S N (d + 1) MX8_credit 15 [x0, x1, x2] (r.toList ++ []) I1 J1 P1 Q) := wp_callV (M' := MX8_requireIndex) (As := [.int v1, .int v0]) rfl rfl rfl rfl (by decide) (Nat.le_of_ble_eq_true rfl) dX8_credit_12
theorem e_X8_credit_15 {w : Nat} {x1 x2 : Option Value} : Wp S N d MX8_credit 15 [some (.ref w), x1, x2] [] I J P Q ↔ Wp S N d MX8_credit 16 [some (.ref w), x1, x2] [.ref w] I J P Q := wp_lod (len := 1) rfl rfl rfl rfl dX8_credit_15
theorem e_X8_credit_16 {v0 : Nat} {w : Int32} {x0 x1 : Option Value} : Wp S N d MX8_credit 16 [x0, x1, some (.int w)] [.ref v0] I J P Q ↔ Wp S N d MX8_credit 17 [x0, x1, some (.int w)] [.int w, .ref v0] I J P Q := wp_lod (len := 1) rfl rfl rfl rfl dX8_credit_16
theorem e_X8_credit_17 {v0 : Int32} {v1 : Nat} {x0 x1 x2 : Option Value} : Wp S N d MX8_credit 17 [x0, x1, x2] [.int v0, .ref v1] I J P Q ↔ Wp S N d MX8_credit 18 [x0, x1, x2] [.int 0, .int v0, .ref v1] I J P Q := wp_iconst (by decide) dX8_credit_17
theorem e_X8_credit_18 {v0 : Int32} {v1 : Int32} {v2 : Nat} {x0 x1 x2 : Option Value} : Wp S N d MX8_credit 18 [x0, x1, x2] [.int v0, .int v1, .ref v2] I J P Q ↔ Wp S N d MX8_credit 19 [x0, x1, x2] [.int 5, .int v0, .int v1, .ref v2] I J P Q := wp_iconst (by decide) dX8_credit_18
theorem e_X8_credit_19 {v0 : Int32} {v1 : Int32} {v2 : Int32} {v3 : Nat} {x0 x1 x2 : Option Value} : Wp S N (d + 1) MX8_credit 19 [x0, x1, x2] [.int v0, .int v1, .int v2, .ref v3] I J P Q ↔ S v3 = 8 ∧ CWp S N d MX8_requireRange [.ref v3, .int v2, .int v1, .int v0] I J P (fun r I1 J1 P1 => Wp S N (d + 1) MX8_credit 22 [x0, x1, x2] (r.toList ++ []) I1 J1 P1 Q) := wp_callV (M' := MX8_requireRange) (As := [.int v2, .int v1, .int v0]) rfl rfl rfl rfl (by decide) (Nat.le_of_ble_eq_true rfl) dX8_credit_19
theorem e_X8_credit_22 {w : Nat} {x1 x2 : Option Value} : Wp S N d MX8_credit 22 [some (.ref w), x1, x2] [] I J P Q ↔ Wp S N d MX8_credit 23 [some (.ref w), x1, x2] [.ref w] I J P Q := wp_lod (len := 1) rfl rfl rfl rfl dX8_credit_22
theorem e_X8_credit_23 {v0 : Nat} {x0 x1 x2 : Option Value} : Wp S N d MX8_credit 23 [x0, x1, x2] [.ref v0] I J P Q ↔ S v0 = 8 ∧ Wp S N d MX8_credit 26 [x0, x1, x2] [va_rf (P v0 2)] I J P Q := wp_getf rfl rfl rfl rfl dX8_credit_23
theorem e_X8_credit_26 {v0 : Nat} {x0 x1 x2 : Option Value} : Wp S N d MX8_credit 26 [x0, x1, x2] [.ref v0] I J P Q ↔ S v0 = 5 ∧ Wp S N d MX8_credit 29 [x0, x1, x2] [va_rf (P v0 0)] I J P Q := wp_getf rfl rfl rfl rfl dX8_credit_26
theorem e_X8_credit_29 {v0 : Nat} {x0 x1 x2 : Option Value} : Wp S N d MX8_credit 29 [x0, x1, x2] [.ref v0] I J P Q ↔ S v0 = 7 ∧ Wp S N d MX8_credit 32 [x0, x1, x2] [va_rf (P v0 8)] I J P Q := wp_getf rfl rfl rfl rfl dX8_credit_29
theorem e_X8_credit_32 {v0 : Nat} {w : Int32} {x0 x2 : Option Value} : Wp S N d MX8_credit 32 [x0, some (.int w), x2] [.ref v0] I J P Q ↔ Wp S N d MX8_credit 33 [x0, some (.int w), x2] [.int w, .ref v0] I J P Q := wp_lod (len := 1) rfl rfl rfl rfl dX8_credit_32
theorem e_X8_credit_33 {v0 : Int32} {v1 : Nat} {x0 x1 x2 : Option Value} : Wp S N d MX8_credit 33 [x0, x1, x2] [.int v0, .ref v1] I J P Q ↔ ((S v1 = 12 ∨ S v1 = 13 ∨ S v1 = 14) ∧ vp_in v0 (N v1)) ∧ Wp S N d MX8_credit 34 [x0, x1, x2] [va_rf (P v1 v0.toNatClampNeg)] I J P Q := wp_ald rfl rfl dX8_credit_33
theorem e_X8_credit_34 {v0 : Nat} {x0 x1 x2 : Option Value} : Wp S N d MX8_credit 34 [x0, x1, x2] [.ref v0] I J P Q ↔ S v0 = 2 ∧ Wp S N d MX8_credit 37 [x0, x1, x2] [va_rf (P v0 0)] I J P Q := wp_getf rfl rfl rfl rfl dX8_credit_34
theorem e_X8_credit_37 {v0 : Nat} {w : Int32} {x0 x1 : Option Value} : Wp S N d MX8_credit 37 [x0, x1, some (.int w)] [.ref v0] I J P Q ↔ Wp S N d MX8_credit 38 [x0, x1, some (.int w)] [.int w, .ref v0] I J P Q := wp_lod (len := 1) rfl rfl rfl rfl dX8_credit_37
theorem e_X8_credit_38 {v0 : Int32} {v1 : Nat} {x0 x1 x2 : Option Value} : Wp S N d MX8_credit 38 [x0, x1, x2] [.int v0, .ref v1] I J P Q ↔ (S v1 = 10 ∧ vp_in v0 (N v1)) ∧ Wp S N d MX8_credit 39 [x0, x1, x2] [.int (I v1 v0.toNatClampNeg)] I J P Q := wp_ald rfl rfl dX8_credit_38
theorem e_X8_credit_39 {v0 : Int32} {x0 x1 x2 : Option Value} : Wp S N d MX8_credit 39 [x0, x1, x2] [.int v0] I J P Q ↔ Q (some (.int v0)) I J P := wp_iret rfl dX8_credit_39
theorem dX8_removeCredit_0 : decode cX8_removeCredit 0 = .ok (.aload_n 0, 1) := by decide +kernel
theorem dX8_removeCredit_1 : decode cX8_removeCredit 1 = .ok (.iload_n 1, 1) := by decide +kernel
theorem dX8_removeCredit_2 : decode cX8_removeCredit 2 = .ok (.aload_n 0, 1) := by decide +kernel
theorem dX8_removeCredit_3 : decode cX8_removeCredit 3 = .ok (.getfield 26, 3) := by decide +kernel
theorem dX8_removeCredit_6 : decode cX8_removeCredit 6 = .ok (.getfield 80, 3) := by decide +kernel
theorem dX8_removeCredit_9 : decode cX8_removeCredit 9 = .ok (.getfield 114, 3) := by decide +kernel
theorem dX8_removeCredit_12 : decode cX8_removeCredit 12 = .ok (.invokevirtual 123, 3) := by decide +kernel
theorem dX8_removeCredit_15 : decode cX8_removeCredit 15 = .ok (.aload_n 0, 1) := by decide +kernel
theorem dX8_removeCredit_16 : decode cX8_removeCredit 16 = .ok (.getfield 36, 3) := by decide +kernel
theorem dX8_removeCredit_19 : decode cX8_removeCredit 19 = .ok (.aload_n 0, 1) := by decide +kernel
theorem dX8_removeCredit_20 : decode cX8_removeCredit 20 = .ok (.getfield 26, 3) := by decide +kernel
theorem dX8_removeCredit_23 : decode cX8_removeCredit 23 = .ok (.invokevirtual 104, 3) := by decide +kernel
theorem dX8_removeCredit_26 : decode cX8_removeCredit 26 = .ok (.aload_n 0, 1) := by decide +kernel
theorem dX8_removeCredit_27 : decode cX8_removeCredit 27 = .ok (.getfield 26, 3) := by decide +kernel
theorem dX8_removeCredit_30 : decode cX8_removeCredit 30 = .ok (.getfield 80, 3) := by decide +kernel
theorem dX8_removeCredit_33 : decode cX8_removeCredit 33 = .ok (.iload_n 1, 1) := by decide +kernel
theorem dX8_removeCredit_34 : decode cX8_removeCredit 34 = .ok (.invokevirtual 151, 3) := by decide +kernel
theorem dX8_removeCredit_37 : decode cX8_removeCredit 37 = .ok (.aload_n 0, 1) := by decide +kernel
theorem dX8_removeCredit_38 : decode cX8_removeCredit 38 = .ok (.getfield 26, 3) := by decide +kernel
theorem dX8_removeCredit_41 : decode cX8_removeCredit 41 = .ok (.getfield 80, 3) := by decide +kernel
theorem dX8_removeCredit_44 : decode cX8_removeCredit 44 = .ok (.getfield 114, 3) := by decide +kernel
theorem dX8_removeCredit_47 : decode cX8_removeCredit 47 = .ok (.ireturn, 1) := by decide +kernel
theorem c_X8_removeCredit {a0 : Nat} {a1 : Int32} : CWp S N d MX8_removeCredit [.ref a0, .int a1] I J P Q ↔ Wp S N d MX8_removeCredit 0 [some (.ref a0), some (.int a1)] [] I J P Q := by
  rw [cwp_iff]
  exact ⟨fun h => h.2, fun h => ⟨Nat.le_of_ble_eq_true rfl, h⟩⟩
theorem e_X8_removeCredit_0 {w : Nat} {x1 : Option Value} : Wp S N d MX8_removeCredit 0 [some (.ref w), x1] [] I J P Q ↔ Wp S N d MX8_removeCredit 1 [some (.ref w), x1] [.ref w] I J P Q := wp_lod (len := 1) rfl rfl rfl rfl dX8_removeCredit_0
theorem e_X8_removeCredit_1 {v0 : Nat} {w : Int32} {x0 : Option Value} : Wp S N d MX8_removeCredit 1 [x0, some (.int w)] [.ref v0] I J P Q ↔ Wp S N d MX8_removeCredit 2 [x0, some (.int w)] [.int w, .ref v0] I J P Q := wp_lod (len := 1) rfl rfl rfl rfl dX8_removeCredit_1
theorem e_X8_removeCredit_2 {v0 : Int32} {v1 : Nat} {w : Nat} {x1 : Option Value} : Wp S N d MX8_removeCredit 2 [some (.ref w), x1] [.int v0, .ref v1] I J P Q ↔ Wp S N d MX8_removeCredit 3 [some (.ref w), x1] [.ref w, .int v0, .ref v1] I J P Q := wp_lod (len := 1) rfl rfl rfl rfl dX8_removeCredit_2
theorem e_X8_removeCredit_3 {v0 : Nat} {v1 : Int32} {v2 : Nat} {x0 x1 : Option Value} : Wp S N d MX8_removeCredit 3 [x0, x1] [.ref v0, .int v1, .ref v2] I J P Q ↔ S v0 = 8 ∧ Wp S N d MX8_removeCredit 6 [x0, x1] [va_rf (P v0 2), .int v1, .ref v2] I J P Q := wp_getf rfl rfl rfl rfl dX8_removeCredit_3
theorem e_X8_removeCredit_6 {v0 : Nat} {v1 : Int32} {v2 : Nat} {x0 x1 : Option Value} : Wp S N d MX8_removeCredit 6 [x0, x1] [.ref v0, .int v1, .ref v2] I J P Q ↔ S v0 = 5 ∧ Wp S N d MX8_removeCredit 9 [x0, x1] [va_rf (P v0 0), .int v1, .ref v2] I J P Q := wp_getf rfl rfl rfl rfl dX8_removeCredit_6
theorem e_X8_removeCredit_9 {v0 : Nat} {v1 : Int32} {v2 : Nat} {x0 x1 : Option Value} : Wp S N d MX8_removeCredit 9 [x0, x1] [.ref v0, .int v1, .ref v2] I J P Q ↔ S v0 = 7 ∧ Wp S N d MX8_removeCredit 12 [x0, x1] [.int (I v0 7), .int v1, .ref v2] I J P Q := wp_getf rfl rfl rfl rfl dX8_removeCredit_9
theorem e_X8_removeCredit_12 {v0 : Int32} {v1 : Int32} {v2 : Nat} {x0 x1 : Option Value} : Wp S N (d + 1) MX8_removeCredit 12 [x0, x1] [.int v0, .int v1, .ref v2] I J P Q ↔ S v2 = 8 ∧ CWp S N d MX8_requireIndex [.ref v2, .int v1, .int v0] I J P (fun r I1 J1 P1 => Wp S N (d + 1) MX8_removeCredit 15 [x0, x1] (r.toList ++ []) I1 J1 P1 Q) := wp_callV (M' := MX8_requireIndex) (As := [.int v1, .int v0]) rfl rfl rfl rfl (by decide) (Nat.le_of_ble_eq_true rfl) dX8_removeCredit_12
theorem e_X8_removeCredit_15 {w : Nat} {x1 : Option Value} : Wp S N d MX8_removeCredit 15 [some (.ref w), x1] [] I J P Q ↔ Wp S N d MX8_removeCredit 16 [some (.ref w), x1] [.ref w] I J P Q := wp_lod (len := 1) rfl rfl rfl rfl dX8_removeCredit_15
theorem e_X8_removeCredit_16 {v0 : Nat} {x0 x1 : Option Value} : Wp S N d MX8_removeCredit 16 [x0, x1] [.ref v0] I J P Q ↔ S v0 = 8 ∧ Wp S N d MX8_removeCredit 19 [x0, x1] [va_rf (P v0 5)] I J P Q := wp_getf rfl rfl rfl rfl dX8_removeCredit_16
theorem e_X8_removeCredit_19 {v0 : Nat} {w : Nat} {x1 : Option Value} : Wp S N d MX8_removeCredit 19 [some (.ref w), x1] [.ref v0] I J P Q ↔ Wp S N d MX8_removeCredit 20 [some (.ref w), x1] [.ref w, .ref v0] I J P Q := wp_lod (len := 1) rfl rfl rfl rfl dX8_removeCredit_19
theorem e_X8_removeCredit_20 {v0 : Nat} {v1 : Nat} {x0 x1 : Option Value} : Wp S N d MX8_removeCredit 20 [x0, x1] [.ref v0, .ref v1] I J P Q ↔ S v0 = 8 ∧ Wp S N d MX8_removeCredit 23 [x0, x1] [va_rf (P v0 2), .ref v1] I J P Q := wp_getf rfl rfl rfl rfl dX8_removeCredit_20
theorem e_X8_removeCredit_23 {v0 : Nat} {v1 : Nat} {x0 x1 : Option Value} : Wp S N (d + 1) MX8_removeCredit 23 [x0, x1] [.ref v0, .ref v1] I J P Q ↔ S v1 = 4 ∧ CWp S N d MX4_remember [.ref v1, .ref v0] I J P (fun r I1 J1 P1 => Wp S N (d + 1) MX8_removeCredit 26 [x0, x1] (r.toList ++ []) I1 J1 P1 Q) := wp_callV (M' := MX4_remember) (As := [.ref v0]) rfl rfl rfl rfl (by decide) (Nat.le_of_ble_eq_true rfl) dX8_removeCredit_23
theorem e_X8_removeCredit_26 {w : Nat} {x1 : Option Value} : Wp S N d MX8_removeCredit 26 [some (.ref w), x1] [] I J P Q ↔ Wp S N d MX8_removeCredit 27 [some (.ref w), x1] [.ref w] I J P Q := wp_lod (len := 1) rfl rfl rfl rfl dX8_removeCredit_26
theorem e_X8_removeCredit_27 {v0 : Nat} {x0 x1 : Option Value} : Wp S N d MX8_removeCredit 27 [x0, x1] [.ref v0] I J P Q ↔ S v0 = 8 ∧ Wp S N d MX8_removeCredit 30 [x0, x1] [va_rf (P v0 2)] I J P Q := wp_getf rfl rfl rfl rfl dX8_removeCredit_27
theorem e_X8_removeCredit_30 {v0 : Nat} {x0 x1 : Option Value} : Wp S N d MX8_removeCredit 30 [x0, x1] [.ref v0] I J P Q ↔ S v0 = 5 ∧ Wp S N d MX8_removeCredit 33 [x0, x1] [va_rf (P v0 0)] I J P Q := wp_getf rfl rfl rfl rfl dX8_removeCredit_30
theorem e_X8_removeCredit_33 {v0 : Nat} {w : Int32} {x0 : Option Value} : Wp S N d MX8_removeCredit 33 [x0, some (.int w)] [.ref v0] I J P Q ↔ Wp S N d MX8_removeCredit 34 [x0, some (.int w)] [.int w, .ref v0] I J P Q := wp_lod (len := 1) rfl rfl rfl rfl dX8_removeCredit_33
theorem e_X8_removeCredit_34 {v0 : Int32} {v1 : Nat} {x0 x1 : Option Value} : Wp S N (d + 1) MX8_removeCredit 34 [x0, x1] [.int v0, .ref v1] I J P Q ↔ S v1 = 7 ∧ CWp S N d MX7_dropCredit [.ref v1, .int v0] I J P (fun r I1 J1 P1 => Wp S N (d + 1) MX8_removeCredit 37 [x0, x1] (r.toList ++ []) I1 J1 P1 Q) := wp_callV (M' := MX7_dropCredit) (As := [.int v0]) rfl rfl rfl rfl (by decide) (Nat.le_of_ble_eq_true rfl) dX8_removeCredit_34
theorem e_X8_removeCredit_37 {w : Nat} {x1 : Option Value} : Wp S N d MX8_removeCredit 37 [some (.ref w), x1] [] I J P Q ↔ Wp S N d MX8_removeCredit 38 [some (.ref w), x1] [.ref w] I J P Q := wp_lod (len := 1) rfl rfl rfl rfl dX8_removeCredit_37
theorem e_X8_removeCredit_38 {v0 : Nat} {x0 x1 : Option Value} : Wp S N d MX8_removeCredit 38 [x0, x1] [.ref v0] I J P Q ↔ S v0 = 8 ∧ Wp S N d MX8_removeCredit 41 [x0, x1] [va_rf (P v0 2)] I J P Q := wp_getf rfl rfl rfl rfl dX8_removeCredit_38
theorem e_X8_removeCredit_41 {v0 : Nat} {x0 x1 : Option Value} : Wp S N d MX8_removeCredit 41 [x0, x1] [.ref v0] I J P Q ↔ S v0 = 5 ∧ Wp S N d MX8_removeCredit 44 [x0, x1] [va_rf (P v0 0)] I J P Q := wp_getf rfl rfl rfl rfl dX8_removeCredit_41
theorem e_X8_removeCredit_44 {v0 : Nat} {x0 x1 : Option Value} : Wp S N d MX8_removeCredit 44 [x0, x1] [.ref v0] I J P Q ↔ S v0 = 7 ∧ Wp S N d MX8_removeCredit 47 [x0, x1] [.int (I v0 7)] I J P Q := wp_getf rfl rfl rfl rfl dX8_removeCredit_44
theorem e_X8_removeCredit_47 {v0 : Int32} {x0 x1 : Option Value} : Wp S N d MX8_removeCredit 47 [x0, x1] [.int v0] I J P Q ↔ Q (some (.int v0)) I J P := wp_iret rfl dX8_removeCredit_47
theorem dX8_moveCredit_0 : decode cX8_moveCredit 0 = .ok (.aload_n 0, 1) := by decide +kernel
theorem dX8_moveCredit_1 : decode cX8_moveCredit 1 = .ok (.iload_n 1, 1) := by decide +kernel
theorem dX8_moveCredit_2 : decode cX8_moveCredit 2 = .ok (.aload_n 0, 1) := by decide +kernel
theorem dX8_moveCredit_3 : decode cX8_moveCredit 3 = .ok (.getfield 26, 3) := by decide +kernel
theorem dX8_moveCredit_6 : decode cX8_moveCredit 6 = .ok (.getfield 80, 3) := by decide +kernel
theorem dX8_moveCredit_9 : decode cX8_moveCredit 9 = .ok (.getfield 114, 3) := by decide +kernel
theorem dX8_moveCredit_12 : decode cX8_moveCredit 12 = .ok (.invokevirtual 123, 3) := by decide +kernel
theorem dX8_moveCredit_15 : decode cX8_moveCredit 15 = .ok (.aload_n 0, 1) := by decide +kernel
theorem dX8_moveCredit_16 : decode cX8_moveCredit 16 = .ok (.iload_n 2, 1) := by decide +kernel
theorem dX8_moveCredit_17 : decode cX8_moveCredit 17 = .ok (.aload_n 0, 1) := by decide +kernel
theorem dX8_moveCredit_18 : decode cX8_moveCredit 18 = .ok (.getfield 26, 3) := by decide +kernel
theorem dX8_moveCredit_21 : decode cX8_moveCredit 21 = .ok (.getfield 80, 3) := by decide +kernel
theorem dX8_moveCredit_24 : decode cX8_moveCredit 24 = .ok (.getfield 114, 3) := by decide +kernel
theorem dX8_moveCredit_27 : decode cX8_moveCredit 27 = .ok (.invokevirtual 123, 3) := by decide +kernel
theorem dX8_moveCredit_30 : decode cX8_moveCredit 30 = .ok (.aload_n 0, 1) := by decide +kernel
theorem dX8_moveCredit_31 : decode cX8_moveCredit 31 = .ok (.getfield 36, 3) := by decide +kernel
theorem dX8_moveCredit_34 : decode cX8_moveCredit 34 = .ok (.aload_n 0, 1) := by decide +kernel
theorem dX8_moveCredit_35 : decode cX8_moveCredit 35 = .ok (.getfield 26, 3) := by decide +kernel
theorem dX8_moveCredit_38 : decode cX8_moveCredit 38 = .ok (.invokevirtual 104, 3) := by decide +kernel
theorem dX8_moveCredit_41 : decode cX8_moveCredit 41 = .ok (.aload_n 0, 1) := by decide +kernel
theorem dX8_moveCredit_42 : decode cX8_moveCredit 42 = .ok (.getfield 26, 3) := by decide +kernel
theorem dX8_moveCredit_45 : decode cX8_moveCredit 45 = .ok (.getfield 80, 3) := by decide +kernel
theorem dX8_moveCredit_48 : decode cX8_moveCredit 48 = .ok (.iload_n 1, 1) := by decide +kernel
theorem dX8_moveCredit_49 : decode cX8_moveCredit 49 = .ok (.iload_n 2, 1) := by decide +kernel
theorem dX8_moveCredit_50 : decode cX8_moveCredit 50 = .ok (.invokevirtual 155, 3) := by decide +kernel
theorem dX8_moveCredit_53 : decode cX8_moveCredit 53 = .ok (.return_, 1) := by decide +kernel
theorem c_X8_moveCredit {a0 : Nat} {a1 : Int32} {a2 : Int32} : CWp S N d MX8_moveCredit [.ref a0, .int a1, .int a2] I J P Q ↔ Wp S N d MX8_moveCredit 0 [some (.ref a0), some (.int a1), some (.int a2)] [] I J P Q := by
  rw [cwp_iff]
  exact ⟨fun h => h.2, fun h => ⟨Nat.le_of_ble_eq_true rfl, h⟩⟩
theorem e_X8_moveCredit_0 {w : Nat} {x1 x2 : Option Value} : Wp S N d MX8_moveCredit 0 [some (.ref w), x1, x2] [] I J P Q ↔ Wp S N d MX8_moveCredit 1 [some (.ref w), x1, x2] [.ref w] I J P Q := wp_lod (len := 1) rfl rfl rfl rfl dX8_moveCredit_0
theorem e_X8_moveCredit_1 {v0 : Nat} {w : Int32} {x0 x2 : Option Value} : Wp S N d MX8_moveCredit 1 [x0, some (.int w), x2] [.ref v0] I J P Q ↔ Wp S N d MX8_moveCredit 2 [x0, some (.int w), x2] [.int w, .ref v0] I J P Q := wp_lod (len := 1) rfl rfl rfl rfl dX8_moveCredit_1
theorem e_X8_moveCredit_2 {v0 : Int32} {v1 : Nat} {w : Nat} {x1 x2 : Option Value} : Wp S N d MX8_moveCredit 2 [some (.ref w), x1, x2] [.int v0, .ref v1] I J P Q ↔ Wp S N d MX8_moveCredit 3 [some (.ref w), x1, x2] [.ref w, .int v0, .ref v1] I J P Q := wp_lod (len := 1) rfl rfl rfl rfl dX8_moveCredit_2
theorem e_X8_moveCredit_3 {v0 : Nat} {v1 : Int32} {v2 : Nat} {x0 x1 x2 : Option Value} : Wp S N d MX8_moveCredit 3 [x0, x1, x2] [.ref v0, .int v1, .ref v2] I J P Q ↔ S v0 = 8 ∧ Wp S N d MX8_moveCredit 6 [x0, x1, x2] [va_rf (P v0 2), .int v1, .ref v2] I J P Q := wp_getf rfl rfl rfl rfl dX8_moveCredit_3
theorem e_X8_moveCredit_6 {v0 : Nat} {v1 : Int32} {v2 : Nat} {x0 x1 x2 : Option Value} : Wp S N d MX8_moveCredit 6 [x0, x1, x2] [.ref v0, .int v1, .ref v2] I J P Q ↔ S v0 = 5 ∧ Wp S N d MX8_moveCredit 9 [x0, x1, x2] [va_rf (P v0 0), .int v1, .ref v2] I J P Q := wp_getf rfl rfl rfl rfl dX8_moveCredit_6
theorem e_X8_moveCredit_9 {v0 : Nat} {v1 : Int32} {v2 : Nat} {x0 x1 x2 : Option Value} : Wp S N d MX8_moveCredit 9 [x0, x1, x2] [.ref v0, .int v1, .ref v2] I J P Q ↔ S v0 = 7 ∧ Wp S N d MX8_moveCredit 12 [x0, x1, x2] [.int (I v0 7), .int v1, .ref v2] I J P Q := wp_getf rfl rfl rfl rfl dX8_moveCredit_9
theorem e_X8_moveCredit_12 {v0 : Int32} {v1 : Int32} {v2 : Nat} {x0 x1 x2 : Option Value} : Wp S N (d + 1) MX8_moveCredit 12 [x0, x1, x2] [.int v0, .int v1, .ref v2] I J P Q ↔ S v2 = 8 ∧ CWp S N d MX8_requireIndex [.ref v2, .int v1, .int v0] I J P (fun r I1 J1 P1 => Wp S N (d + 1) MX8_moveCredit 15 [x0, x1, x2] (r.toList ++ []) I1 J1 P1 Q) := wp_callV (M' := MX8_requireIndex) (As := [.int v1, .int v0]) rfl rfl rfl rfl (by decide) (Nat.le_of_ble_eq_true rfl) dX8_moveCredit_12
theorem e_X8_moveCredit_15 {w : Nat} {x1 x2 : Option Value} : Wp S N d MX8_moveCredit 15 [some (.ref w), x1, x2] [] I J P Q ↔ Wp S N d MX8_moveCredit 16 [some (.ref w), x1, x2] [.ref w] I J P Q := wp_lod (len := 1) rfl rfl rfl rfl dX8_moveCredit_15
theorem e_X8_moveCredit_16 {v0 : Nat} {w : Int32} {x0 x1 : Option Value} : Wp S N d MX8_moveCredit 16 [x0, x1, some (.int w)] [.ref v0] I J P Q ↔ Wp S N d MX8_moveCredit 17 [x0, x1, some (.int w)] [.int w, .ref v0] I J P Q := wp_lod (len := 1) rfl rfl rfl rfl dX8_moveCredit_16
theorem e_X8_moveCredit_17 {v0 : Int32} {v1 : Nat} {w : Nat} {x1 x2 : Option Value} : Wp S N d MX8_moveCredit 17 [some (.ref w), x1, x2] [.int v0, .ref v1] I J P Q ↔ Wp S N d MX8_moveCredit 18 [some (.ref w), x1, x2] [.ref w, .int v0, .ref v1] I J P Q := wp_lod (len := 1) rfl rfl rfl rfl dX8_moveCredit_17
theorem e_X8_moveCredit_18 {v0 : Nat} {v1 : Int32} {v2 : Nat} {x0 x1 x2 : Option Value} : Wp S N d MX8_moveCredit 18 [x0, x1, x2] [.ref v0, .int v1, .ref v2] I J P Q ↔ S v0 = 8 ∧ Wp S N d MX8_moveCredit 21 [x0, x1, x2] [va_rf (P v0 2), .int v1, .ref v2] I J P Q := wp_getf rfl rfl rfl rfl dX8_moveCredit_18
theorem e_X8_moveCredit_21 {v0 : Nat} {v1 : Int32} {v2 : Nat} {x0 x1 x2 : Option Value} : Wp S N d MX8_moveCredit 21 [x0, x1, x2] [.ref v0, .int v1, .ref v2] I J P Q ↔ S v0 = 5 ∧ Wp S N d MX8_moveCredit 24 [x0, x1, x2] [va_rf (P v0 0), .int v1, .ref v2] I J P Q := wp_getf rfl rfl rfl rfl dX8_moveCredit_21
theorem e_X8_moveCredit_24 {v0 : Nat} {v1 : Int32} {v2 : Nat} {x0 x1 x2 : Option Value} : Wp S N d MX8_moveCredit 24 [x0, x1, x2] [.ref v0, .int v1, .ref v2] I J P Q ↔ S v0 = 7 ∧ Wp S N d MX8_moveCredit 27 [x0, x1, x2] [.int (I v0 7), .int v1, .ref v2] I J P Q := wp_getf rfl rfl rfl rfl dX8_moveCredit_24
theorem e_X8_moveCredit_27 {v0 : Int32} {v1 : Int32} {v2 : Nat} {x0 x1 x2 : Option Value} : Wp S N (d + 1) MX8_moveCredit 27 [x0, x1, x2] [.int v0, .int v1, .ref v2] I J P Q ↔ S v2 = 8 ∧ CWp S N d MX8_requireIndex [.ref v2, .int v1, .int v0] I J P (fun r I1 J1 P1 => Wp S N (d + 1) MX8_moveCredit 30 [x0, x1, x2] (r.toList ++ []) I1 J1 P1 Q) := wp_callV (M' := MX8_requireIndex) (As := [.int v1, .int v0]) rfl rfl rfl rfl (by decide) (Nat.le_of_ble_eq_true rfl) dX8_moveCredit_27
theorem e_X8_moveCredit_30 {w : Nat} {x1 x2 : Option Value} : Wp S N d MX8_moveCredit 30 [some (.ref w), x1, x2] [] I J P Q ↔ Wp S N d MX8_moveCredit 31 [some (.ref w), x1, x2] [.ref w] I J P Q := wp_lod (len := 1) rfl rfl rfl rfl dX8_moveCredit_30
theorem e_X8_moveCredit_31 {v0 : Nat} {x0 x1 x2 : Option Value} : Wp S N d MX8_moveCredit 31 [x0, x1, x2] [.ref v0] I J P Q ↔ S v0 = 8 ∧ Wp S N d MX8_moveCredit 34 [x0, x1, x2] [va_rf (P v0 5)] I J P Q := wp_getf rfl rfl rfl rfl dX8_moveCredit_31
theorem e_X8_moveCredit_34 {v0 : Nat} {w : Nat} {x1 x2 : Option Value} : Wp S N d MX8_moveCredit 34 [some (.ref w), x1, x2] [.ref v0] I J P Q ↔ Wp S N d MX8_moveCredit 35 [some (.ref w), x1, x2] [.ref w, .ref v0] I J P Q := wp_lod (len := 1) rfl rfl rfl rfl dX8_moveCredit_34
theorem e_X8_moveCredit_35 {v0 : Nat} {v1 : Nat} {x0 x1 x2 : Option Value} : Wp S N d MX8_moveCredit 35 [x0, x1, x2] [.ref v0, .ref v1] I J P Q ↔ S v0 = 8 ∧ Wp S N d MX8_moveCredit 38 [x0, x1, x2] [va_rf (P v0 2), .ref v1] I J P Q := wp_getf rfl rfl rfl rfl dX8_moveCredit_35
theorem e_X8_moveCredit_38 {v0 : Nat} {v1 : Nat} {x0 x1 x2 : Option Value} : Wp S N (d + 1) MX8_moveCredit 38 [x0, x1, x2] [.ref v0, .ref v1] I J P Q ↔ S v1 = 4 ∧ CWp S N d MX4_remember [.ref v1, .ref v0] I J P (fun r I1 J1 P1 => Wp S N (d + 1) MX8_moveCredit 41 [x0, x1, x2] (r.toList ++ []) I1 J1 P1 Q) := wp_callV (M' := MX4_remember) (As := [.ref v0]) rfl rfl rfl rfl (by decide) (Nat.le_of_ble_eq_true rfl) dX8_moveCredit_38
theorem e_X8_moveCredit_41 {w : Nat} {x1 x2 : Option Value} : Wp S N d MX8_moveCredit 41 [some (.ref w), x1, x2] [] I J P Q ↔ Wp S N d MX8_moveCredit 42 [some (.ref w), x1, x2] [.ref w] I J P Q := wp_lod (len := 1) rfl rfl rfl rfl dX8_moveCredit_41
theorem e_X8_moveCredit_42 {v0 : Nat} {x0 x1 x2 : Option Value} : Wp S N d MX8_moveCredit 42 [x0, x1, x2] [.ref v0] I J P Q ↔ S v0 = 8 ∧ Wp S N d MX8_moveCredit 45 [x0, x1, x2] [va_rf (P v0 2)] I J P Q := wp_getf rfl rfl rfl rfl dX8_moveCredit_42
theorem e_X8_moveCredit_45 {v0 : Nat} {x0 x1 x2 : Option Value} : Wp S N d MX8_moveCredit 45 [x0, x1, x2] [.ref v0] I J P Q ↔ S v0 = 5 ∧ Wp S N d MX8_moveCredit 48 [x0, x1, x2] [va_rf (P v0 0)] I J P Q := wp_getf rfl rfl rfl rfl dX8_moveCredit_45
theorem e_X8_moveCredit_48 {v0 : Nat} {w : Int32} {x0 x2 : Option Value} : Wp S N d MX8_moveCredit 48 [x0, some (.int w), x2] [.ref v0] I J P Q ↔ Wp S N d MX8_moveCredit 49 [x0, some (.int w), x2] [.int w, .ref v0] I J P Q := wp_lod (len := 1) rfl rfl rfl rfl dX8_moveCredit_48
theorem e_X8_moveCredit_49 {v0 : Int32} {v1 : Nat} {w : Int32} {x0 x1 : Option Value} : Wp S N d MX8_moveCredit 49 [x0, x1, some (.int w)] [.int v0, .ref v1] I J P Q ↔ Wp S N d MX8_moveCredit 50 [x0, x1, some (.int w)] [.int w, .int v0, .ref v1] I J P Q := wp_lod (len := 1) rfl rfl rfl rfl dX8_moveCredit_49
theorem e_X8_moveCredit_50 {v0 : Int32} {v1 : Int32} {v2 : Nat} {x0 x1 x2 : Option Value} : Wp S N (d + 1) MX8_moveCredit 50 [x0, x1, x2] [.int v0, .int v1, .ref v2] I J P Q ↔ S v2 = 7 ∧ CWp S N d MX7_shiftCredit [.ref v2, .int v1, .int v0] I J P (fun r I1 J1 P1 => Wp S N (d + 1) MX8_moveCredit 53 [x0, x1, x2] (r.toList ++ []) I1 J1 P1 Q) := wp_callV (M' := MX7_shiftCredit) (As := [.int v1, .int v0]) rfl rfl rfl rfl (by decide) (Nat.le_of_ble_eq_true rfl) dX8_moveCredit_50
theorem e_X8_moveCredit_53  {x0 x1 x2 : Option Value} : Wp S N d MX8_moveCredit 53 [x0, x1, x2] [] I J P Q ↔ Q none I J P := wp_vret rfl dX8_moveCredit_53
theorem dX8_setPerson_0 : decode cX8_setPerson 0 = .ok (.aload_n 0, 1) := by decide +kernel
theorem dX8_setPerson_1 : decode cX8_setPerson 1 = .ok (.iload_n 1, 1) := by decide +kernel
theorem dX8_setPerson_2 : decode cX8_setPerson 2 = .ok (.bipush 6, 2) := by decide +kernel
theorem dX8_setPerson_4 : decode cX8_setPerson 4 = .ok (.invokevirtual 123, 3) := by decide +kernel
theorem dX8_setPerson_7 : decode cX8_setPerson 7 = .ok (.aload_n 0, 1) := by decide +kernel
theorem dX8_setPerson_8 : decode cX8_setPerson 8 = .ok (.iload_n 2, 1) := by decide +kernel
theorem dX8_setPerson_9 : decode cX8_setPerson 9 = .ok (.iconst 0, 1) := by decide +kernel
theorem dX8_setPerson_10 : decode cX8_setPerson 10 = .ok (.sipush 9999, 3) := by decide +kernel
theorem dX8_setPerson_13 : decode cX8_setPerson 13 = .ok (.invokevirtual 61, 3) := by decide +kernel
theorem dX8_setPerson_16 : decode cX8_setPerson 16 = .ok (.aload_n 0, 1) := by decide +kernel
theorem dX8_setPerson_17 : decode cX8_setPerson 17 = .ok (.iload_n 3, 1) := by decide +kernel
theorem dX8_setPerson_18 : decode cX8_setPerson 18 = .ok (.iconst 0, 1) := by decide +kernel
theorem dX8_setPerson_19 : decode cX8_setPerson 19 = .ok (.sipush 9999, 3) := by decide +kernel
theorem dX8_setPerson_22 : decode cX8_setPerson 22 = .ok (.invokevirtual 61, 3) := by decide +kernel
theorem dX8_setPerson_25 : decode cX8_setPerson 25 = .ok (.aload_n 0, 1) := by decide +kernel
theorem dX8_setPerson_26 : decode cX8_setPerson 26 = .ok (.iload 4, 2) := by decide +kernel
theorem dX8_setPerson_28 : decode cX8_setPerson 28 = .ok (.iconst 0, 1) := by decide +kernel
theorem dX8_setPerson_29 : decode cX8_setPerson 29 = .ok (.bipush 9, 2) := by decide +kernel
theorem dX8_setPerson_31 : decode cX8_setPerson 31 = .ok (.invokevirtual 61, 3) := by decide +kernel
theorem dX8_setPerson_34 : decode cX8_setPerson 34 = .ok (.aload_n 0, 1) := by decide +kernel
theorem dX8_setPerson_35 : decode cX8_setPerson 35 = .ok (.getfield 36, 3) := by decide +kernel
theorem dX8_setPerson_38 : decode cX8_setPerson 38 = .ok (.aload_n 0, 1) := by decide +kernel
theorem dX8_setPerson_39 : decode cX8_setPerson 39 = .ok (.getfield 26, 3) := by decide +kernel
theorem dX8_setPerson_42 : decode cX8_setPerson 42 = .ok (.invokevirtual 104, 3) := by decide +kernel
theorem dX8_setPerson_45 : decode cX8_setPerson 45 = .ok (.aload_n 0, 1) := by decide +kernel
theorem dX8_setPerson_46 : decode cX8_setPerson 46 = .ok (.getfield 26, 3) := by decide +kernel
theorem dX8_setPerson_49 : decode cX8_setPerson 49 = .ok (.getfield 158, 3) := by decide +kernel
theorem dX8_setPerson_52 : decode cX8_setPerson 52 = .ok (.iload_n 1, 1) := by decide +kernel
theorem dX8_setPerson_53 : decode cX8_setPerson 53 = .ok (.iload_n 2, 1) := by decide +kernel
theorem dX8_setPerson_54 : decode cX8_setPerson 54 = .ok (.iastore, 1) := by decide +kernel
theorem dX8_setPerson_55 : decode cX8_setPerson 55 = .ok (.aload_n 0, 1) := by decide +kernel
theorem dX8_setPerson_56 : decode cX8_setPerson 56 = .ok (.getfield 26, 3) := by decide +kernel
theorem dX8_setPerson_59 : decode cX8_setPerson 59 = .ok (.getfield 161, 3) := by decide +kernel
theorem dX8_setPerson_62 : decode cX8_setPerson 62 = .ok (.iload_n 1, 1) := by decide +kernel
theorem dX8_setPerson_63 : decode cX8_setPerson 63 = .ok (.iload_n 3, 1) := by decide +kernel
theorem dX8_setPerson_64 : decode cX8_setPerson 64 = .ok (.iastore, 1) := by decide +kernel
theorem dX8_setPerson_65 : decode cX8_setPerson 65 = .ok (.aload_n 0, 1) := by decide +kernel
theorem dX8_setPerson_66 : decode cX8_setPerson 66 = .ok (.getfield 26, 3) := by decide +kernel
theorem dX8_setPerson_69 : decode cX8_setPerson 69 = .ok (.getfield 164, 3) := by decide +kernel
theorem dX8_setPerson_72 : decode cX8_setPerson 72 = .ok (.iload_n 1, 1) := by decide +kernel
theorem dX8_setPerson_73 : decode cX8_setPerson 73 = .ok (.iload 4, 2) := by decide +kernel
theorem dX8_setPerson_75 : decode cX8_setPerson 75 = .ok (.iastore, 1) := by decide +kernel
theorem dX8_setPerson_76 : decode cX8_setPerson 76 = .ok (.return_, 1) := by decide +kernel
theorem c_X8_setPerson {a0 : Nat} {a1 : Int32} {a2 : Int32} {a3 : Int32} {a4 : Int32} : CWp S N d MX8_setPerson [.ref a0, .int a1, .int a2, .int a3, .int a4] I J P Q ↔ Wp S N d MX8_setPerson 0 [some (.ref a0), some (.int a1), some (.int a2), some (.int a3), some (.int a4)] [] I J P Q := by
  rw [cwp_iff]
  exact ⟨fun h => h.2, fun h => ⟨Nat.le_of_ble_eq_true rfl, h⟩⟩
theorem e_X8_setPerson_0 {w : Nat} {x1 x2 x3 x4 : Option Value} : Wp S N d MX8_setPerson 0 [some (.ref w), x1, x2, x3, x4] [] I J P Q ↔ Wp S N d MX8_setPerson 1 [some (.ref w), x1, x2, x3, x4] [.ref w] I J P Q := wp_lod (len := 1) rfl rfl rfl rfl dX8_setPerson_0
theorem e_X8_setPerson_1 {v0 : Nat} {w : Int32} {x0 x2 x3 x4 : Option Value} : Wp S N d MX8_setPerson 1 [x0, some (.int w), x2, x3, x4] [.ref v0] I J P Q ↔ Wp S N d MX8_setPerson 2 [x0, some (.int w), x2, x3, x4] [.int w, .ref v0] I J P Q := wp_lod (len := 1) rfl rfl rfl rfl dX8_setPerson_1
theorem e_X8_setPerson_2 {v0 : Int32} {v1 : Nat} {x0 x1 x2 x3 x4 : Option Value} : Wp S N d MX8_setPerson 2 [x0, x1, x2, x3, x4] [.int v0, .ref v1] I J P Q ↔ Wp S N d MX8_setPerson 4 [x0, x1, x2, x3, x4] [.int 6, .int v0, .ref v1] I J P Q := wp_bipush (by decide) dX8_setPerson_2
theorem e_X8_setPerson_4 {v0 : Int32} {v1 : Int32} {v2 : Nat} {x0 x1 x2 x3 x4 : Option Value} : Wp S N (d + 1) MX8_setPerson 4 [x0, x1, x2, x3, x4] [.int v0, .int v1, .ref v2] I J P Q ↔ S v2 = 8 ∧ CWp S N d MX8_requireIndex [.ref v2, .int v1, .int v0] I J P (fun r I1 J1 P1 => Wp S N (d + 1) MX8_setPerson 7 [x0, x1, x2, x3, x4] (r.toList ++ []) I1 J1 P1 Q) := wp_callV (M' := MX8_requireIndex) (As := [.int v1, .int v0]) rfl rfl rfl rfl (by decide) (Nat.le_of_ble_eq_true rfl) dX8_setPerson_4
theorem e_X8_setPerson_7 {w : Nat} {x1 x2 x3 x4 : Option Value} : Wp S N d MX8_setPerson 7 [some (.ref w), x1, x2, x3, x4] [] I J P Q ↔ Wp S N d MX8_setPerson 8 [some (.ref w), x1, x2, x3, x4] [.ref w] I J P Q := wp_lod (len := 1) rfl rfl rfl rfl dX8_setPerson_7
theorem e_X8_setPerson_8 {v0 : Nat} {w : Int32} {x0 x1 x3 x4 : Option Value} : Wp S N d MX8_setPerson 8 [x0, x1, some (.int w), x3, x4] [.ref v0] I J P Q ↔ Wp S N d MX8_setPerson 9 [x0, x1, some (.int w), x3, x4] [.int w, .ref v0] I J P Q := wp_lod (len := 1) rfl rfl rfl rfl dX8_setPerson_8
theorem e_X8_setPerson_9 {v0 : Int32} {v1 : Nat} {x0 x1 x2 x3 x4 : Option Value} : Wp S N d MX8_setPerson 9 [x0, x1, x2, x3, x4] [.int v0, .ref v1] I J P Q ↔ Wp S N d MX8_setPerson 10 [x0, x1, x2, x3, x4] [.int 0, .int v0, .ref v1] I J P Q := wp_iconst (by decide) dX8_setPerson_9
theorem e_X8_setPerson_10 {v0 : Int32} {v1 : Int32} {v2 : Nat} {x0 x1 x2 x3 x4 : Option Value} : Wp S N d MX8_setPerson 10 [x0, x1, x2, x3, x4] [.int v0, .int v1, .ref v2] I J P Q ↔ Wp S N d MX8_setPerson 13 [x0, x1, x2, x3, x4] [.int 9999, .int v0, .int v1, .ref v2] I J P Q := wp_sipush (by decide) dX8_setPerson_10
theorem e_X8_setPerson_13 {v0 : Int32} {v1 : Int32} {v2 : Int32} {v3 : Nat} {x0 x1 x2 x3 x4 : Option Value} : Wp S N (d + 1) MX8_setPerson 13 [x0, x1, x2, x3, x4] [.int v0, .int v1, .int v2, .ref v3] I J P Q ↔ S v3 = 8 ∧ CWp S N d MX8_requireRange [.ref v3, .int v2, .int v1, .int v0] I J P (fun r I1 J1 P1 => Wp S N (d + 1) MX8_setPerson 16 [x0, x1, x2, x3, x4] (r.toList ++ []) I1 J1 P1 Q) := wp_callV (M' := MX8_requireRange) (As := [.int v2, .int v1, .int v0]) rfl rfl rfl rfl (by decide) (Nat.le_of_ble_eq_true rfl) dX8_setPerson_13
theorem e_X8_setPerson_16 {w : Nat} {x1 x2 x3 x4 : Option Value} : Wp S N d MX8_setPerson 16 [some (.ref w), x1, x2, x3, x4] [] I J P Q ↔ Wp S N d MX8_setPerson 17 [some (.ref w), x1, x2, x3, x4] [.ref w] I J P Q := wp_lod (len := 1) rfl rfl rfl rfl dX8_setPerson_16
theorem e_X8_setPerson_17 {v0 : Nat} {w : Int32} {x0 x1 x2 x4 : Option Value} : Wp S N d MX8_setPerson 17 [x0, x1, x2, some (.int w), x4] [.ref v0] I J P Q ↔ Wp S N d MX8_setPerson 18 [x0, x1, x2, some (.int w), x4] [.int w, .ref v0] I J P Q := wp_lod (len := 1) rfl rfl rfl rfl dX8_setPerson_17
theorem e_X8_setPerson_18 {v0 : Int32} {v1 : Nat} {x0 x1 x2 x3 x4 : Option Value} : Wp S N d MX8_setPerson 18 [x0, x1, x2, x3, x4] [.int v0, .ref v1] I J P Q ↔ Wp S N d MX8_setPerson 19 [x0, x1, x2, x3, x4] [.int 0, .int v0, .ref v1] I J P Q := wp_iconst (by decide) dX8_setPerson_18
theorem e_X8_setPerson_19 {v0 : Int32} {v1 : Int32} {v2 : Nat} {x0 x1 x2 x3 x4 : Option Value} : Wp S N d MX8_setPerson 19 [x0, x1, x2, x3, x4] [.int v0, .int v1, .ref v2] I J P Q ↔ Wp S N d MX8_setPerson 22 [x0, x1, x2, x3, x4] [.int 9999, .int v0, .int v1, .ref v2] I J P Q := wp_sipush (by decide) dX8_setPerson_19
theorem e_X8_setPerson_22 {v0 : Int32} {v1 : Int32} {v2 : Int32} {v3 : Nat} {x0 x1 x2 x3 x4 : Option Value} : Wp S N (d + 1) MX8_setPerson 22 [x0, x1, x2, x3, x4] [.int v0, .int v1, .int v2, .ref v3] I J P Q ↔ S v3 = 8 ∧ CWp S N d MX8_requireRange [.ref v3, .int v2, .int v1, .int v0] I J P (fun r I1 J1 P1 => Wp S N (d + 1) MX8_setPerson 25 [x0, x1, x2, x3, x4] (r.toList ++ []) I1 J1 P1 Q) := wp_callV (M' := MX8_requireRange) (As := [.int v2, .int v1, .int v0]) rfl rfl rfl rfl (by decide) (Nat.le_of_ble_eq_true rfl) dX8_setPerson_22
theorem e_X8_setPerson_25 {w : Nat} {x1 x2 x3 x4 : Option Value} : Wp S N d MX8_setPerson 25 [some (.ref w), x1, x2, x3, x4] [] I J P Q ↔ Wp S N d MX8_setPerson 26 [some (.ref w), x1, x2, x3, x4] [.ref w] I J P Q := wp_lod (len := 1) rfl rfl rfl rfl dX8_setPerson_25
theorem e_X8_setPerson_26 {v0 : Nat} {w : Int32} {x0 x1 x2 x3 : Option Value} : Wp S N d MX8_setPerson 26 [x0, x1, x2, x3, some (.int w)] [.ref v0] I J P Q ↔ Wp S N d MX8_setPerson 28 [x0, x1, x2, x3, some (.int w)] [.int w, .ref v0] I J P Q := wp_lod (len := 2) rfl rfl rfl rfl dX8_setPerson_26
theorem e_X8_setPerson_28 {v0 : Int32} {v1 : Nat} {x0 x1 x2 x3 x4 : Option Value} : Wp S N d MX8_setPerson 28 [x0, x1, x2, x3, x4] [.int v0, .ref v1] I J P Q ↔ Wp S N d MX8_setPerson 29 [x0, x1, x2, x3, x4] [.int 0, .int v0, .ref v1] I J P Q := wp_iconst (by decide) dX8_setPerson_28
theorem e_X8_setPerson_29 {v0 : Int32} {v1 : Int32} {v2 : Nat} {x0 x1 x2 x3 x4 : Option Value} : Wp S N d MX8_setPerson 29 [x0, x1, x2, x3, x4] [.int v0, .int v1, .ref v2] I J P Q ↔ Wp S N d MX8_setPerson 31 [x0, x1, x2, x3, x4] [.int 9, .int v0, .int v1, .ref v2] I J P Q := wp_bipush (by decide) dX8_setPerson_29
theorem e_X8_setPerson_31 {v0 : Int32} {v1 : Int32} {v2 : Int32} {v3 : Nat} {x0 x1 x2 x3 x4 : Option Value} : Wp S N (d + 1) MX8_setPerson 31 [x0, x1, x2, x3, x4] [.int v0, .int v1, .int v2, .ref v3] I J P Q ↔ S v3 = 8 ∧ CWp S N d MX8_requireRange [.ref v3, .int v2, .int v1, .int v0] I J P (fun r I1 J1 P1 => Wp S N (d + 1) MX8_setPerson 34 [x0, x1, x2, x3, x4] (r.toList ++ []) I1 J1 P1 Q) := wp_callV (M' := MX8_requireRange) (As := [.int v2, .int v1, .int v0]) rfl rfl rfl rfl (by decide) (Nat.le_of_ble_eq_true rfl) dX8_setPerson_31
theorem e_X8_setPerson_34 {w : Nat} {x1 x2 x3 x4 : Option Value} : Wp S N d MX8_setPerson 34 [some (.ref w), x1, x2, x3, x4] [] I J P Q ↔ Wp S N d MX8_setPerson 35 [some (.ref w), x1, x2, x3, x4] [.ref w] I J P Q := wp_lod (len := 1) rfl rfl rfl rfl dX8_setPerson_34
theorem e_X8_setPerson_35 {v0 : Nat} {x0 x1 x2 x3 x4 : Option Value} : Wp S N d MX8_setPerson 35 [x0, x1, x2, x3, x4] [.ref v0] I J P Q ↔ S v0 = 8 ∧ Wp S N d MX8_setPerson 38 [x0, x1, x2, x3, x4] [va_rf (P v0 5)] I J P Q := wp_getf rfl rfl rfl rfl dX8_setPerson_35
theorem e_X8_setPerson_38 {v0 : Nat} {w : Nat} {x1 x2 x3 x4 : Option Value} : Wp S N d MX8_setPerson 38 [some (.ref w), x1, x2, x3, x4] [.ref v0] I J P Q ↔ Wp S N d MX8_setPerson 39 [some (.ref w), x1, x2, x3, x4] [.ref w, .ref v0] I J P Q := wp_lod (len := 1) rfl rfl rfl rfl dX8_setPerson_38
theorem e_X8_setPerson_39 {v0 : Nat} {v1 : Nat} {x0 x1 x2 x3 x4 : Option Value} : Wp S N d MX8_setPerson 39 [x0, x1, x2, x3, x4] [.ref v0, .ref v1] I J P Q ↔ S v0 = 8 ∧ Wp S N d MX8_setPerson 42 [x0, x1, x2, x3, x4] [va_rf (P v0 2), .ref v1] I J P Q := wp_getf rfl rfl rfl rfl dX8_setPerson_39
theorem e_X8_setPerson_42 {v0 : Nat} {v1 : Nat} {x0 x1 x2 x3 x4 : Option Value} : Wp S N (d + 1) MX8_setPerson 42 [x0, x1, x2, x3, x4] [.ref v0, .ref v1] I J P Q ↔ S v1 = 4 ∧ CWp S N d MX4_remember [.ref v1, .ref v0] I J P (fun r I1 J1 P1 => Wp S N (d + 1) MX8_setPerson 45 [x0, x1, x2, x3, x4] (r.toList ++ []) I1 J1 P1 Q) := wp_callV (M' := MX4_remember) (As := [.ref v0]) rfl rfl rfl rfl (by decide) (Nat.le_of_ble_eq_true rfl) dX8_setPerson_42
theorem e_X8_setPerson_45 {w : Nat} {x1 x2 x3 x4 : Option Value} : Wp S N d MX8_setPerson 45 [some (.ref w), x1, x2, x3, x4] [] I J P Q ↔ Wp S N d MX8_setPerson 46 [some (.ref w), x1, x2, x3, x4] [.ref w] I J P Q := wp_lod (len := 1) rfl rfl rfl rfl dX8_setPerson_45
theorem e_X8_setPerson_46 {v0 : Nat} {x0 x1 x2 x3 x4 : Option Value} : Wp S N d MX8_setPerson 46 [x0, x1, x2, x3, x4] [.ref v0] I J P Q ↔ S v0 = 8 ∧ Wp S N d MX8_setPerson 49 [x0, x1, x2, x3, x4] [va_rf (P v0 2)] I J P Q := wp_getf rfl rfl rfl rfl dX8_setPerson_46
theorem e_X8_setPerson_49 {v0 : Nat} {x0 x1 x2 x3 x4 : Option Value} : Wp S N d MX8_setPerson 49 [x0, x1, x2, x3, x4] [.ref v0] I J P Q ↔ S v0 = 5 ∧ Wp S N d MX8_setPerson 52 [x0, x1, x2, x3, x4] [va_rf (P v0 1)] I J P Q := wp_getf rfl rfl rfl rfl dX8_setPerson_49
theorem e_X8_setPerson_52 {v0 : Nat} {w : Int32} {x0 x2 x3 x4 : Option Value} : Wp S N d MX8_setPerson 52 [x0, some (.int w), x2, x3, x4] [.ref v0] I J P Q ↔ Wp S N d MX8_setPerson 53 [x0, some (.int w), x2, x3, x4] [.int w, .ref v0] I J P Q := wp_lod (len := 1) rfl rfl rfl rfl dX8_setPerson_52
theorem e_X8_setPerson_53 {v0 : Int32} {v1 : Nat} {w : Int32} {x0 x1 x3 x4 : Option Value} : Wp S N d MX8_setPerson 53 [x0, x1, some (.int w), x3, x4] [.int v0, .ref v1] I J P Q ↔ Wp S N d MX8_setPerson 54 [x0, x1, some (.int w), x3, x4] [.int w, .int v0, .ref v1] I J P Q := wp_lod (len := 1) rfl rfl rfl rfl dX8_setPerson_53
theorem e_X8_setPerson_54 {v0 : Int32} {v1 : Int32} {v2 : Nat} {x0 x1 x2 x3 x4 : Option Value} : Wp S N d MX8_setPerson 54 [x0, x1, x2, x3, x4] [.int v0, .int v1, .ref v2] I J P Q ↔ (S v2 = 10 ∧ vp_in v1 (N v2)) ∧ Wp S N d MX8_setPerson 55 [x0, x1, x2, x3, x4] [] (u2 I v2 v1.toNatClampNeg v0) J P Q := wp_ast rfl rfl dX8_setPerson_54
theorem e_X8_setPerson_55 {w : Nat} {x1 x2 x3 x4 : Option Value} : Wp S N d MX8_setPerson 55 [some (.ref w), x1, x2, x3, x4] [] I J P Q ↔ Wp S N d MX8_setPerson 56 [some (.ref w), x1, x2, x3, x4] [.ref w] I J P Q := wp_lod (len := 1) rfl rfl rfl rfl dX8_setPerson_55
theorem e_X8_setPerson_56 {v0 : Nat} {x0 x1 x2 x3 x4 : Option Value} : Wp S N d MX8_setPerson 56 [x0, x1, x2, x3, x4] [.ref v0] I J P Q ↔ S v0 = 8 ∧ Wp S N d MX8_setPerson 59 [x0, x1, x2, x3, x4] [va_rf (P v0 2)] I J P Q := wp_getf rfl rfl rfl rfl dX8_setPerson_56
theorem e_X8_setPerson_59 {v0 : Nat} {x0 x1 x2 x3 x4 : Option Value} : Wp S N d MX8_setPerson 59 [x0, x1, x2, x3, x4] [.ref v0] I J P Q ↔ S v0 = 5 ∧ Wp S N d MX8_setPerson 62 [x0, x1, x2, x3, x4] [va_rf (P v0 2)] I J P Q := wp_getf rfl rfl rfl rfl dX8_setPerson_59
theorem e_X8_setPerson_62 {v0 : Nat} {w : Int32} {x0 x2 x3 x4 : Option Value} : Wp S N d MX8_setPerson 62 [x0, some (.int w), x2, x3, x4] [.ref v0] I J P Q ↔ Wp S N d MX8_setPerson 63 [x0, some (.int w), x2, x3, x4] [.int w, .ref v0] I J P Q := wp_lod (len := 1) rfl rfl rfl rfl dX8_setPerson_62
theorem e_X8_setPerson_63 {v0 : Int32} {v1 : Nat} {w : Int32} {x0 x1 x2 x4 : Option Value} : Wp S N d MX8_setPerson 63 [x0, x1, x2, some (.int w), x4] [.int v0, .ref v1] I J P Q ↔ Wp S N d MX8_setPerson 64 [x0, x1, x2, some (.int w), x4] [.int w, .int v0, .ref v1] I J P Q := wp_lod (len := 1) rfl rfl rfl rfl dX8_setPerson_63
theorem e_X8_setPerson_64 {v0 : Int32} {v1 : Int32} {v2 : Nat} {x0 x1 x2 x3 x4 : Option Value} : Wp S N d MX8_setPerson 64 [x0, x1, x2, x3, x4] [.int v0, .int v1, .ref v2] I J P Q ↔ (S v2 = 10 ∧ vp_in v1 (N v2)) ∧ Wp S N d MX8_setPerson 65 [x0, x1, x2, x3, x4] [] (u2 I v2 v1.toNatClampNeg v0) J P Q := wp_ast rfl rfl dX8_setPerson_64
theorem e_X8_setPerson_65 {w : Nat} {x1 x2 x3 x4 : Option Value} : Wp S N d MX8_setPerson 65 [some (.ref w), x1, x2, x3, x4] [] I J P Q ↔ Wp S N d MX8_setPerson 66 [some (.ref w), x1, x2, x3, x4] [.ref w] I J P Q := wp_lod (len := 1) rfl rfl rfl rfl dX8_setPerson_65
theorem e_X8_setPerson_66 {v0 : Nat} {x0 x1 x2 x3 x4 : Option Value} : Wp S N d MX8_setPerson 66 [x0, x1, x2, x3, x4] [.ref v0] I J P Q ↔ S v0 = 8 ∧ Wp S N d MX8_setPerson 69 [x0, x1, x2, x3, x4] [va_rf (P v0 2)] I J P Q := wp_getf rfl rfl rfl rfl dX8_setPerson_66
theorem e_X8_setPerson_69 {v0 : Nat} {x0 x1 x2 x3 x4 : Option Value} : Wp S N d MX8_setPerson 69 [x0, x1, x2, x3, x4] [.ref v0] I J P Q ↔ S v0 = 5 ∧ Wp S N d MX8_setPerson 72 [x0, x1, x2, x3, x4] [va_rf (P v0 3)] I J P Q := wp_getf rfl rfl rfl rfl dX8_setPerson_69
theorem e_X8_setPerson_72 {v0 : Nat} {w : Int32} {x0 x2 x3 x4 : Option Value} : Wp S N d MX8_setPerson 72 [x0, some (.int w), x2, x3, x4] [.ref v0] I J P Q ↔ Wp S N d MX8_setPerson 73 [x0, some (.int w), x2, x3, x4] [.int w, .ref v0] I J P Q := wp_lod (len := 1) rfl rfl rfl rfl dX8_setPerson_72
theorem e_X8_setPerson_73 {v0 : Int32} {v1 : Nat} {w : Int32} {x0 x1 x2 x3 : Option Value} : Wp S N d MX8_setPerson 73 [x0, x1, x2, x3, some (.int w)] [.int v0, .ref v1] I J P Q ↔ Wp S N d MX8_setPerson 75 [x0, x1, x2, x3, some (.int w)] [.int w, .int v0, .ref v1] I J P Q := wp_lod (len := 2) rfl rfl rfl rfl dX8_setPerson_73
theorem e_X8_setPerson_75 {v0 : Int32} {v1 : Int32} {v2 : Nat} {x0 x1 x2 x3 x4 : Option Value} : Wp S N d MX8_setPerson 75 [x0, x1, x2, x3, x4] [.int v0, .int v1, .ref v2] I J P Q ↔ (S v2 = 10 ∧ vp_in v1 (N v2)) ∧ Wp S N d MX8_setPerson 76 [x0, x1, x2, x3, x4] [] (u2 I v2 v1.toNatClampNeg v0) J P Q := wp_ast rfl rfl dX8_setPerson_75
theorem e_X8_setPerson_76  {x0 x1 x2 x3 x4 : Option Value} : Wp S N d MX8_setPerson 76 [x0, x1, x2, x3, x4] [] I J P Q ↔ Q none I J P := wp_vret rfl dX8_setPerson_76
theorem dX8_personData_0 : decode cX8_personData 0 = .ok (.aload_n 0, 1) := by decide +kernel
theorem dX8_personData_1 : decode cX8_personData 1 = .ok (.iload_n 1, 1) := by decide +kernel
theorem dX8_personData_2 : decode cX8_personData 2 = .ok (.bipush 6, 2) := by decide +kernel
theorem dX8_personData_4 : decode cX8_personData 4 = .ok (.invokevirtual 123, 3) := by decide +kernel
theorem dX8_personData_7 : decode cX8_personData 7 = .ok (.aload_n 0, 1) := by decide +kernel
theorem dX8_personData_8 : decode cX8_personData 8 = .ok (.iload_n 2, 1) := by decide +kernel
theorem dX8_personData_9 : decode cX8_personData 9 = .ok (.iconst 0, 1) := by decide +kernel
theorem dX8_personData_10 : decode cX8_personData 10 = .ok (.iconst 2, 1) := by decide +kernel
theorem dX8_personData_11 : decode cX8_personData 11 = .ok (.invokevirtual 61, 3) := by decide +kernel
theorem dX8_personData_14 : decode cX8_personData 14 = .ok (.iload_n 2, 1) := by decide +kernel
theorem dX8_personData_15 : decode cX8_personData 15 = .ok (.ifCond .ne 13, 3) := by decide +kernel
theorem dX8_personData_18 : decode cX8_personData 18 = .ok (.aload_n 0, 1) := by decide +kernel
theorem dX8_personData_19 : decode cX8_personData 19 = .ok (.getfield 26, 3) := by decide +kernel
theorem dX8_personData_22 : decode cX8_personData 22 = .ok (.getfield 158, 3) := by decide +kernel
theorem dX8_personData_25 : decode cX8_personData 25 = .ok (.iload_n 1, 1) := by decide +kernel
theorem dX8_personData_26 : decode cX8_personData 26 = .ok (.iaload, 1) := by decide +kernel
theorem dX8_personData_27 : decode cX8_personData 27 = .ok (.ireturn, 1) := by decide +kernel
theorem dX8_personData_28 : decode cX8_personData 28 = .ok (.iload_n 2, 1) := by decide +kernel
theorem dX8_personData_29 : decode cX8_personData 29 = .ok (.iconst 1, 1) := by decide +kernel
theorem dX8_personData_30 : decode cX8_personData 30 = .ok (.if_icmp .ne 15, 3) := by decide +kernel
theorem dX8_personData_33 : decode cX8_personData 33 = .ok (.aload_n 0, 1) := by decide +kernel
theorem dX8_personData_34 : decode cX8_personData 34 = .ok (.getfield 26, 3) := by decide +kernel
theorem dX8_personData_37 : decode cX8_personData 37 = .ok (.getfield 161, 3) := by decide +kernel
theorem dX8_personData_40 : decode cX8_personData 40 = .ok (.iload_n 1, 1) := by decide +kernel
theorem dX8_personData_41 : decode cX8_personData 41 = .ok (.iaload, 1) := by decide +kernel
theorem dX8_personData_42 : decode cX8_personData 42 = .ok (.goto 12, 3) := by decide +kernel
theorem dX8_personData_45 : decode cX8_personData 45 = .ok (.aload_n 0, 1) := by decide +kernel
theorem dX8_personData_46 : decode cX8_personData 46 = .ok (.getfield 26, 3) := by decide +kernel
theorem dX8_personData_49 : decode cX8_personData 49 = .ok (.getfield 164, 3) := by decide +kernel
theorem dX8_personData_52 : decode cX8_personData 52 = .ok (.iload_n 1, 1) := by decide +kernel
theorem dX8_personData_53 : decode cX8_personData 53 = .ok (.iaload, 1) := by decide +kernel
theorem dX8_personData_54 : decode cX8_personData 54 = .ok (.ireturn, 1) := by decide +kernel
theorem c_X8_personData {a0 : Nat} {a1 : Int32} {a2 : Int32} : CWp S N d MX8_personData [.ref a0, .int a1, .int a2] I J P Q ↔ Wp S N d MX8_personData 0 [some (.ref a0), some (.int a1), some (.int a2)] [] I J P Q := by
  rw [cwp_iff]
  exact ⟨fun h => h.2, fun h => ⟨Nat.le_of_ble_eq_true rfl, h⟩⟩
theorem e_X8_personData_0 {w : Nat} {x1 x2 : Option Value} : Wp S N d MX8_personData 0 [some (.ref w), x1, x2] [] I J P Q ↔ Wp S N d MX8_personData 1 [some (.ref w), x1, x2] [.ref w] I J P Q := wp_lod (len := 1) rfl rfl rfl rfl dX8_personData_0
theorem e_X8_personData_1 {v0 : Nat} {w : Int32} {x0 x2 : Option Value} : Wp S N d MX8_personData 1 [x0, some (.int w), x2] [.ref v0] I J P Q ↔ Wp S N d MX8_personData 2 [x0, some (.int w), x2] [.int w, .ref v0] I J P Q := wp_lod (len := 1) rfl rfl rfl rfl dX8_personData_1
theorem e_X8_personData_2 {v0 : Int32} {v1 : Nat} {x0 x1 x2 : Option Value} : Wp S N d MX8_personData 2 [x0, x1, x2] [.int v0, .ref v1] I J P Q ↔ Wp S N d MX8_personData 4 [x0, x1, x2] [.int 6, .int v0, .ref v1] I J P Q := wp_bipush (by decide) dX8_personData_2
theorem e_X8_personData_4 {v0 : Int32} {v1 : Int32} {v2 : Nat} {x0 x1 x2 : Option Value} : Wp S N (d + 1) MX8_personData 4 [x0, x1, x2] [.int v0, .int v1, .ref v2] I J P Q ↔ S v2 = 8 ∧ CWp S N d MX8_requireIndex [.ref v2, .int v1, .int v0] I J P (fun r I1 J1 P1 => Wp S N (d + 1) MX8_personData 7 [x0, x1, x2] (r.toList ++ []) I1 J1 P1 Q) := wp_callV (M' := MX8_requireIndex) (As := [.int v1, .int v0]) rfl rfl rfl rfl (by decide) (Nat.le_of_ble_eq_true rfl) dX8_personData_4
theorem e_X8_personData_7 {w : Nat} {x1 x2 : Option Value} : Wp S N d MX8_personData 7 [some (.ref w), x1, x2] [] I J P Q ↔ Wp S N d MX8_personData 8 [some (.ref w), x1, x2] [.ref w] I J P Q := wp_lod (len := 1) rfl rfl rfl rfl dX8_personData_7
theorem e_X8_personData_8 {v0 : Nat} {w : Int32} {x0 x1 : Option Value} : Wp S N d MX8_personData 8 [x0, x1, some (.int w)] [.ref v0] I J P Q ↔ Wp S N d MX8_personData 9 [x0, x1, some (.int w)] [.int w, .ref v0] I J P Q := wp_lod (len := 1) rfl rfl rfl rfl dX8_personData_8
theorem e_X8_personData_9 {v0 : Int32} {v1 : Nat} {x0 x1 x2 : Option Value} : Wp S N d MX8_personData 9 [x0, x1, x2] [.int v0, .ref v1] I J P Q ↔ Wp S N d MX8_personData 10 [x0, x1, x2] [.int 0, .int v0, .ref v1] I J P Q := wp_iconst (by decide) dX8_personData_9
theorem e_X8_personData_10 {v0 : Int32} {v1 : Int32} {v2 : Nat} {x0 x1 x2 : Option Value} : Wp S N d MX8_personData 10 [x0, x1, x2] [.int v0, .int v1, .ref v2] I J P Q ↔ Wp S N d MX8_personData 11 [x0, x1, x2] [.int 2, .int v0, .int v1, .ref v2] I J P Q := wp_iconst (by decide) dX8_personData_10
theorem e_X8_personData_11 {v0 : Int32} {v1 : Int32} {v2 : Int32} {v3 : Nat} {x0 x1 x2 : Option Value} : Wp S N (d + 1) MX8_personData 11 [x0, x1, x2] [.int v0, .int v1, .int v2, .ref v3] I J P Q ↔ S v3 = 8 ∧ CWp S N d MX8_requireRange [.ref v3, .int v2, .int v1, .int v0] I J P (fun r I1 J1 P1 => Wp S N (d + 1) MX8_personData 14 [x0, x1, x2] (r.toList ++ []) I1 J1 P1 Q) := wp_callV (M' := MX8_requireRange) (As := [.int v2, .int v1, .int v0]) rfl rfl rfl rfl (by decide) (Nat.le_of_ble_eq_true rfl) dX8_personData_11
theorem e_X8_personData_14 {w : Int32} {x0 x1 : Option Value} : Wp S N d MX8_personData 14 [x0, x1, some (.int w)] [] I J P Q ↔ Wp S N d MX8_personData 15 [x0, x1, some (.int w)] [.int w] I J P Q := wp_lod (len := 1) rfl rfl rfl rfl dX8_personData_14
theorem e_X8_personData_15 {v0 : Int32} {x0 x1 x2 : Option Value} : Wp S N d MX8_personData 15 [x0, x1, x2] [.int v0] I J P Q ↔ (¬ v0 = 0 → Wp S N d MX8_personData 28 [x0, x1, x2] [] I J P Q) ∧ (v0 = 0 → Wp S N d MX8_personData 18 [x0, x1, x2] [] I J P Q) := wp_brn rfl rfl (by decide) dX8_personData_15
theorem e_X8_personData_18 {w : Nat} {x1 x2 : Option Value} : Wp S N d MX8_personData 18 [some (.ref w), x1, x2] [] I J P Q ↔ Wp S N d MX8_personData 19 [some (.ref w), x1, x2] [.ref w] I J P Q := wp_lod (len := 1) rfl rfl rfl rfl dX8_personData_18
theorem e_X8_personData_19 {v0 : Nat} {x0 x1 x2 : Option Value} : Wp S N d MX8_personData 19 [x0, x1, x2] [.ref v0] I J P Q ↔ S v0 = 8 ∧ Wp S N d MX8_personData 22 [x0, x1, x2] [va_rf (P v0 2)] I J P Q := wp_getf rfl rfl rfl rfl dX8_personData_19
theorem e_X8_personData_22 {v0 : Nat} {x0 x1 x2 : Option Value} : Wp S N d MX8_personData 22 [x0, x1, x2] [.ref v0] I J P Q ↔ S v0 = 5 ∧ Wp S N d MX8_personData 25 [x0, x1, x2] [va_rf (P v0 1)] I J P Q := wp_getf rfl rfl rfl rfl dX8_personData_22
theorem e_X8_personData_25 {v0 : Nat} {w : Int32} {x0 x2 : Option Value} : Wp S N d MX8_personData 25 [x0, some (.int w), x2] [.ref v0] I J P Q ↔ Wp S N d MX8_personData 26 [x0, some (.int w), x2] [.int w, .ref v0] I J P Q := wp_lod (len := 1) rfl rfl rfl rfl dX8_personData_25
theorem e_X8_personData_26 {v0 : Int32} {v1 : Nat} {x0 x1 x2 : Option Value} : Wp S N d MX8_personData 26 [x0, x1, x2] [.int v0, .ref v1] I J P Q ↔ (S v1 = 10 ∧ vp_in v0 (N v1)) ∧ Wp S N d MX8_personData 27 [x0, x1, x2] [.int (I v1 v0.toNatClampNeg)] I J P Q := wp_ald rfl rfl dX8_personData_26
theorem e_X8_personData_27 {v0 : Int32} {x0 x1 x2 : Option Value} : Wp S N d MX8_personData 27 [x0, x1, x2] [.int v0] I J P Q ↔ Q (some (.int v0)) I J P := wp_iret rfl dX8_personData_27
theorem e_X8_personData_28 {w : Int32} {x0 x1 : Option Value} : Wp S N d MX8_personData 28 [x0, x1, some (.int w)] [] I J P Q ↔ Wp S N d MX8_personData 29 [x0, x1, some (.int w)] [.int w] I J P Q := wp_lod (len := 1) rfl rfl rfl rfl dX8_personData_28
theorem e_X8_personData_29 {v0 : Int32} {x0 x1 x2 : Option Value} : Wp S N d MX8_personData 29 [x0, x1, x2] [.int v0] I J P Q ↔ Wp S N d MX8_personData 30 [x0, x1, x2] [.int 1, .int v0] I J P Q := wp_iconst (by decide) dX8_personData_29
theorem e_X8_personData_30 {v0 : Int32} {v1 : Int32} {x0 x1 x2 : Option Value} : Wp S N d MX8_personData 30 [x0, x1, x2] [.int v0, .int v1] I J P Q ↔ (¬ v1 = v0 → Wp S N d MX8_personData 45 [x0, x1, x2] [] I J P Q) ∧ (v1 = v0 → Wp S N d MX8_personData 33 [x0, x1, x2] [] I J P Q) := wp_brn rfl rfl (by decide) dX8_personData_30
theorem e_X8_personData_33 {w : Nat} {x1 x2 : Option Value} : Wp S N d MX8_personData 33 [some (.ref w), x1, x2] [] I J P Q ↔ Wp S N d MX8_personData 34 [some (.ref w), x1, x2] [.ref w] I J P Q := wp_lod (len := 1) rfl rfl rfl rfl dX8_personData_33
theorem e_X8_personData_34 {v0 : Nat} {x0 x1 x2 : Option Value} : Wp S N d MX8_personData 34 [x0, x1, x2] [.ref v0] I J P Q ↔ S v0 = 8 ∧ Wp S N d MX8_personData 37 [x0, x1, x2] [va_rf (P v0 2)] I J P Q := wp_getf rfl rfl rfl rfl dX8_personData_34
theorem e_X8_personData_37 {v0 : Nat} {x0 x1 x2 : Option Value} : Wp S N d MX8_personData 37 [x0, x1, x2] [.ref v0] I J P Q ↔ S v0 = 5 ∧ Wp S N d MX8_personData 40 [x0, x1, x2] [va_rf (P v0 2)] I J P Q := wp_getf rfl rfl rfl rfl dX8_personData_37
theorem e_X8_personData_40 {v0 : Nat} {w : Int32} {x0 x2 : Option Value} : Wp S N d MX8_personData 40 [x0, some (.int w), x2] [.ref v0] I J P Q ↔ Wp S N d MX8_personData 41 [x0, some (.int w), x2] [.int w, .ref v0] I J P Q := wp_lod (len := 1) rfl rfl rfl rfl dX8_personData_40
theorem e_X8_personData_41 {v0 : Int32} {v1 : Nat} {x0 x1 x2 : Option Value} : Wp S N d MX8_personData 41 [x0, x1, x2] [.int v0, .ref v1] I J P Q ↔ (S v1 = 10 ∧ vp_in v0 (N v1)) ∧ Wp S N d MX8_personData 42 [x0, x1, x2] [.int (I v1 v0.toNatClampNeg)] I J P Q := wp_ald rfl rfl dX8_personData_41
theorem e_X8_personData_42 {v0 : Int32} {x0 x1 x2 : Option Value} : Wp S N d MX8_personData 42 [x0, x1, x2] [.int v0] I J P Q ↔ Wp S N d MX8_personData 54 [x0, x1, x2] [.int v0] I J P Q := wp_go (len := 3) rfl (fun _ _ => rfl) rfl (by decide) dX8_personData_42
theorem e_X8_personData_45 {w : Nat} {x1 x2 : Option Value} : Wp S N d MX8_personData 45 [some (.ref w), x1, x2] [] I J P Q ↔ Wp S N d MX8_personData 46 [some (.ref w), x1, x2] [.ref w] I J P Q := wp_lod (len := 1) rfl rfl rfl rfl dX8_personData_45
theorem e_X8_personData_46 {v0 : Nat} {x0 x1 x2 : Option Value} : Wp S N d MX8_personData 46 [x0, x1, x2] [.ref v0] I J P Q ↔ S v0 = 8 ∧ Wp S N d MX8_personData 49 [x0, x1, x2] [va_rf (P v0 2)] I J P Q := wp_getf rfl rfl rfl rfl dX8_personData_46
theorem e_X8_personData_49 {v0 : Nat} {x0 x1 x2 : Option Value} : Wp S N d MX8_personData 49 [x0, x1, x2] [.ref v0] I J P Q ↔ S v0 = 5 ∧ Wp S N d MX8_personData 52 [x0, x1, x2] [va_rf (P v0 3)] I J P Q := wp_getf rfl rfl rfl rfl dX8_personData_49
theorem e_X8_personData_52 {v0 : Nat} {w : Int32} {x0 x2 : Option Value} : Wp S N d MX8_personData 52 [x0, some (.int w), x2] [.ref v0] I J P Q ↔ Wp S N d MX8_personData 53 [x0, some (.int w), x2] [.int w, .ref v0] I J P Q := wp_lod (len := 1) rfl rfl rfl rfl dX8_personData_52
theorem e_X8_personData_53 {v0 : Int32} {v1 : Nat} {x0 x1 x2 : Option Value} : Wp S N d MX8_personData 53 [x0, x1, x2] [.int v0, .ref v1] I J P Q ↔ (S v1 = 10 ∧ vp_in v0 (N v1)) ∧ Wp S N d MX8_personData 54 [x0, x1, x2] [.int (I v1 v0.toNatClampNeg)] I J P Q := wp_ald rfl rfl dX8_personData_53
theorem e_X8_personData_54 {v0 : Int32} {x0 x1 x2 : Option Value} : Wp S N d MX8_personData 54 [x0, x1, x2] [.int v0] I J P Q ↔ Q (some (.int v0)) I J P := wp_iret rfl dX8_personData_54
theorem dX8_part_0 : decode cX8_part 0 = .ok (.aload_n 0, 1) := by decide +kernel
theorem dX8_part_1 : decode cX8_part 1 = .ok (.iload_n 1, 1) := by decide +kernel
theorem dX8_part_2 : decode cX8_part 2 = .ok (.invokevirtual 174, 3) := by decide +kernel
theorem dX8_part_5 : decode cX8_part 5 = .ok (.istore_n 2, 1) := by decide +kernel
theorem dX8_part_6 : decode cX8_part 6 = .ok (.aload_n 0, 1) := by decide +kernel
theorem dX8_part_7 : decode cX8_part 7 = .ok (.getfield 36, 3) := by decide +kernel
theorem dX8_part_10 : decode cX8_part 10 = .ok (.aload_n 0, 1) := by decide +kernel
theorem dX8_part_11 : decode cX8_part 11 = .ok (.getfield 26, 3) := by decide +kernel
theorem dX8_part_14 : decode cX8_part 14 = .ok (.invokevirtual 104, 3) := by decide +kernel
theorem dX8_part_17 : decode cX8_part 17 = .ok (.aload_n 0, 1) := by decide +kernel
theorem dX8_part_18 : decode cX8_part 18 = .ok (.getfield 26, 3) := by decide +kernel
theorem dX8_part_21 : decode cX8_part 21 = .ok (.getfield 169, 3) := by decide +kernel
theorem dX8_part_24 : decode cX8_part 24 = .ok (.iload_n 1, 1) := by decide +kernel
theorem dX8_part_25 : decode cX8_part 25 = .ok (.iconst (-1), 1) := by decide +kernel
theorem dX8_part_26 : decode cX8_part 26 = .ok (.iastore, 1) := by decide +kernel
theorem dX8_part_27 : decode cX8_part 27 = .ok (.aload_n 0, 1) := by decide +kernel
theorem dX8_part_28 : decode cX8_part 28 = .ok (.getfield 26, 3) := by decide +kernel
theorem dX8_part_31 : decode cX8_part 31 = .ok (.getfield 169, 3) := by decide +kernel
theorem dX8_part_34 : decode cX8_part 34 = .ok (.iload_n 2, 1) := by decide +kernel
theorem dX8_part_35 : decode cX8_part 35 = .ok (.iconst (-1), 1) := by decide +kernel
theorem dX8_part_36 : decode cX8_part 36 = .ok (.iastore, 1) := by decide +kernel
theorem dX8_part_37 : decode cX8_part 37 = .ok (.iload_n 2, 1) := by decide +kernel
theorem dX8_part_38 : decode cX8_part 38 = .ok (.ireturn, 1) := by decide +kernel
theorem c_X8_part {a0 : Nat} {a1 : Int32} : CWp S N d MX8_part [.ref a0, .int a1] I J P Q ↔ Wp S N d MX8_part 0 [some (.ref a0), some (.int a1), none] [] I J P Q := by
  rw [cwp_iff]
  exact ⟨fun h => h.2, fun h => ⟨Nat.le_of_ble_eq_true rfl, h⟩⟩
theorem e_X8_part_0 {w : Nat} {x1 x2 : Option Value} : Wp S N d MX8_part 0 [some (.ref w), x1, x2] [] I J P Q ↔ Wp S N d MX8_part 1 [some (.ref w), x1, x2] [.ref w] I J P Q := wp_lod (len := 1) rfl rfl rfl rfl dX8_part_0
theorem e_X8_part_1 {v0 : Nat} {w : Int32} {x0 x2 : Option Value} : Wp S N d MX8_part 1 [x0, some (.int w), x2] [.ref v0] I J P Q ↔ Wp S N d MX8_part 2 [x0, some (.int w), x2] [.int w, .ref v0] I J P Q := wp_lod (len := 1) rfl rfl rfl rfl dX8_part_1
theorem e_X8_part_2 {v0 : Int32} {v1 : Nat} {x0 x1 x2 : Option Value} : Wp S N (d + 1) MX8_part 2 [x0, x1, x2] [.int v0, .ref v1] I J P Q ↔ S v1 = 8 ∧ CWp S N d MX8_requirePartner [.ref v1, .int v0] I J P (fun r I1 J1 P1 => Wp S N (d + 1) MX8_part 5 [x0, x1, x2] (r.toList ++ []) I1 J1 P1 Q) := wp_callV (M' := MX8_requirePartner) (As := [.int v0]) rfl rfl rfl rfl (by decide) (Nat.le_of_ble_eq_true rfl) dX8_part_2
theorem e_X8_part_5 {v0 : Int32} {x0 x1 x2 : Option Value} : Wp S N d MX8_part 5 [x0, x1, x2] [.int v0] I J P Q ↔ Wp S N d MX8_part 6 [x0, kl x1, some (.int v0)] [] I J P Q := wp_sto (len := 1) rfl rfl rfl rfl (Nat.le_of_ble_eq_true rfl) rfl dX8_part_5
theorem e_X8_part_6 {w : Nat} {x1 x2 : Option Value} : Wp S N d MX8_part 6 [some (.ref w), x1, x2] [] I J P Q ↔ Wp S N d MX8_part 7 [some (.ref w), x1, x2] [.ref w] I J P Q := wp_lod (len := 1) rfl rfl rfl rfl dX8_part_6
theorem e_X8_part_7 {v0 : Nat} {x0 x1 x2 : Option Value} : Wp S N d MX8_part 7 [x0, x1, x2] [.ref v0] I J P Q ↔ S v0 = 8 ∧ Wp S N d MX8_part 10 [x0, x1, x2] [va_rf (P v0 5)] I J P Q := wp_getf rfl rfl rfl rfl dX8_part_7
theorem e_X8_part_10 {v0 : Nat} {w : Nat} {x1 x2 : Option Value} : Wp S N d MX8_part 10 [some (.ref w), x1, x2] [.ref v0] I J P Q ↔ Wp S N d MX8_part 11 [some (.ref w), x1, x2] [.ref w, .ref v0] I J P Q := wp_lod (len := 1) rfl rfl rfl rfl dX8_part_10
theorem e_X8_part_11 {v0 : Nat} {v1 : Nat} {x0 x1 x2 : Option Value} : Wp S N d MX8_part 11 [x0, x1, x2] [.ref v0, .ref v1] I J P Q ↔ S v0 = 8 ∧ Wp S N d MX8_part 14 [x0, x1, x2] [va_rf (P v0 2), .ref v1] I J P Q := wp_getf rfl rfl rfl rfl dX8_part_11
theorem e_X8_part_14 {v0 : Nat} {v1 : Nat} {x0 x1 x2 : Option Value} : Wp S N (d + 1) MX8_part 14 [x0, x1, x2] [.ref v0, .ref v1] I J P Q ↔ S v1 = 4 ∧ CWp S N d MX4_remember [.ref v1, .ref v0] I J P (fun r I1 J1 P1 => Wp S N (d + 1) MX8_part 17 [x0, x1, x2] (r.toList ++ []) I1 J1 P1 Q) := wp_callV (M' := MX4_remember) (As := [.ref v0]) rfl rfl rfl rfl (by decide) (Nat.le_of_ble_eq_true rfl) dX8_part_14
theorem e_X8_part_17 {w : Nat} {x1 x2 : Option Value} : Wp S N d MX8_part 17 [some (.ref w), x1, x2] [] I J P Q ↔ Wp S N d MX8_part 18 [some (.ref w), x1, x2] [.ref w] I J P Q := wp_lod (len := 1) rfl rfl rfl rfl dX8_part_17
theorem e_X8_part_18 {v0 : Nat} {x0 x1 x2 : Option Value} : Wp S N d MX8_part 18 [x0, x1, x2] [.ref v0] I J P Q ↔ S v0 = 8 ∧ Wp S N d MX8_part 21 [x0, x1, x2] [va_rf (P v0 2)] I J P Q := wp_getf rfl rfl rfl rfl dX8_part_18
theorem e_X8_part_21 {v0 : Nat} {x0 x1 x2 : Option Value} : Wp S N d MX8_part 21 [x0, x1, x2] [.ref v0] I J P Q ↔ S v0 = 5 ∧ Wp S N d MX8_part 24 [x0, x1, x2] [va_rf (P v0 4)] I J P Q := wp_getf rfl rfl rfl rfl dX8_part_21
theorem e_X8_part_24 {v0 : Nat} {w : Int32} {x0 x2 : Option Value} : Wp S N d MX8_part 24 [x0, some (.int w), x2] [.ref v0] I J P Q ↔ Wp S N d MX8_part 25 [x0, some (.int w), x2] [.int w, .ref v0] I J P Q := wp_lod (len := 1) rfl rfl rfl rfl dX8_part_24
theorem e_X8_part_25 {v0 : Int32} {v1 : Nat} {x0 x1 x2 : Option Value} : Wp S N d MX8_part 25 [x0, x1, x2] [.int v0, .ref v1] I J P Q ↔ Wp S N d MX8_part 26 [x0, x1, x2] [.int (-1), .int v0, .ref v1] I J P Q := wp_iconst (by decide) dX8_part_25
theorem e_X8_part_26 {v0 : Int32} {v1 : Int32} {v2 : Nat} {x0 x1 x2 : Option Value} : Wp S N d MX8_part 26 [x0, x1, x2] [.int v0, .int v1, .ref v2] I J P Q ↔ (S v2 = 10 ∧ vp_in v1 (N v2)) ∧ Wp S N d MX8_part 27 [x0, x1, x2] [] (u2 I v2 v1.toNatClampNeg v0) J P Q := wp_ast rfl rfl dX8_part_26
theorem e_X8_part_27 {w : Nat} {x1 x2 : Option Value} : Wp S N d MX8_part 27 [some (.ref w), x1, x2] [] I J P Q ↔ Wp S N d MX8_part 28 [some (.ref w), x1, x2] [.ref w] I J P Q := wp_lod (len := 1) rfl rfl rfl rfl dX8_part_27
theorem e_X8_part_28 {v0 : Nat} {x0 x1 x2 : Option Value} : Wp S N d MX8_part 28 [x0, x1, x2] [.ref v0] I J P Q ↔ S v0 = 8 ∧ Wp S N d MX8_part 31 [x0, x1, x2] [va_rf (P v0 2)] I J P Q := wp_getf rfl rfl rfl rfl dX8_part_28
theorem e_X8_part_31 {v0 : Nat} {x0 x1 x2 : Option Value} : Wp S N d MX8_part 31 [x0, x1, x2] [.ref v0] I J P Q ↔ S v0 = 5 ∧ Wp S N d MX8_part 34 [x0, x1, x2] [va_rf (P v0 4)] I J P Q := wp_getf rfl rfl rfl rfl dX8_part_31
theorem e_X8_part_34 {v0 : Nat} {w : Int32} {x0 x1 : Option Value} : Wp S N d MX8_part 34 [x0, x1, some (.int w)] [.ref v0] I J P Q ↔ Wp S N d MX8_part 35 [x0, x1, some (.int w)] [.int w, .ref v0] I J P Q := wp_lod (len := 1) rfl rfl rfl rfl dX8_part_34
theorem e_X8_part_35 {v0 : Int32} {v1 : Nat} {x0 x1 x2 : Option Value} : Wp S N d MX8_part 35 [x0, x1, x2] [.int v0, .ref v1] I J P Q ↔ Wp S N d MX8_part 36 [x0, x1, x2] [.int (-1), .int v0, .ref v1] I J P Q := wp_iconst (by decide) dX8_part_35
theorem e_X8_part_36 {v0 : Int32} {v1 : Int32} {v2 : Nat} {x0 x1 x2 : Option Value} : Wp S N d MX8_part 36 [x0, x1, x2] [.int v0, .int v1, .ref v2] I J P Q ↔ (S v2 = 10 ∧ vp_in v1 (N v2)) ∧ Wp S N d MX8_part 37 [x0, x1, x2] [] (u2 I v2 v1.toNatClampNeg v0) J P Q := wp_ast rfl rfl dX8_part_36
theorem e_X8_part_37 {w : Int32} {x0 x1 : Option Value} : Wp S N d MX8_part 37 [x0, x1, some (.int w)] [] I J P Q ↔ Wp S N d MX8_part 38 [x0, x1, some (.int w)] [.int w] I J P Q := wp_lod (len := 1) rfl rfl rfl rfl dX8_part_37
theorem e_X8_part_38 {v0 : Int32} {x0 x1 x2 : Option Value} : Wp S N d MX8_part 38 [x0, x1, x2] [.int v0] I J P Q ↔ Q (some (.int v0)) I J P := wp_iret rfl dX8_part_38
theorem dX8_partner_0 : decode cX8_partner 0 = .ok (.aload_n 0, 1) := by decide +kernel
theorem dX8_partner_1 : decode cX8_partner 1 = .ok (.iload_n 1, 1) := by decide +kernel
theorem dX8_partner_2 : decode cX8_partner 2 = .ok (.invokevirtual 174, 3) := by decide +kernel
theorem dX8_partner_5 : decode cX8_partner 5 = .ok (.ireturn, 1) := by decide +kernel
theorem c_X8_partner {a0 : Nat} {a1 : Int32} : CWp S N d MX8_partner [.ref a0, .int a1] I J P Q ↔ Wp S N d MX8_partner 0 [some (.ref a0), some (.int a1)] [] I J P Q := by
  rw [cwp_iff]
  exact ⟨fun h => h.2, fun h => ⟨Nat.le_of_ble_eq_true rfl, h⟩⟩
theorem e_X8_partner_0 {w : Nat} {x1 : Option Value} : Wp S N d MX8_partner 0 [some (.ref w), x1] [] I J P Q ↔ Wp S N d MX8_partner 1 [some (.ref w), x1] [.ref w] I J P Q := wp_lod (len := 1) rfl rfl rfl rfl dX8_partner_0
theorem e_X8_partner_1 {v0 : Nat} {w : Int32} {x0 : Option Value} : Wp S N d MX8_partner 1 [x0, some (.int w)] [.ref v0] I J P Q ↔ Wp S N d MX8_partner 2 [x0, some (.int w)] [.int w, .ref v0] I J P Q := wp_lod (len := 1) rfl rfl rfl rfl dX8_partner_1
theorem e_X8_partner_2 {v0 : Int32} {v1 : Nat} {x0 x1 : Option Value} : Wp S N (d + 1) MX8_partner 2 [x0, x1] [.int v0, .ref v1] I J P Q ↔ S v1 = 8 ∧ CWp S N d MX8_requirePartner [.ref v1, .int v0] I J P (fun r I1 J1 P1 => Wp S N (d + 1) MX8_partner 5 [x0, x1] (r.toList ++ []) I1 J1 P1 Q) := wp_callV (M' := MX8_requirePartner) (As := [.int v0]) rfl rfl rfl rfl (by decide) (Nat.le_of_ble_eq_true rfl) dX8_partner_2
theorem e_X8_partner_5 {v0 : Int32} {x0 x1 : Option Value} : Wp S N d MX8_partner 5 [x0, x1] [.int v0] I J P Q ↔ Q (some (.int v0)) I J P := wp_iret rfl dX8_partner_5
theorem dX8_tax_0 : decode cX8_tax 0 = .ok (.aload_n 0, 1) := by decide +kernel
theorem dX8_tax_1 : decode cX8_tax 1 = .ok (.iload_n 1, 1) := by decide +kernel
theorem dX8_tax_2 : decode cX8_tax 2 = .ok (.bipush 6, 2) := by decide +kernel
theorem dX8_tax_4 : decode cX8_tax 4 = .ok (.invokevirtual 123, 3) := by decide +kernel
theorem dX8_tax_7 : decode cX8_tax 7 = .ok (.aload_n 0, 1) := by decide +kernel
theorem dX8_tax_8 : decode cX8_tax 8 = .ok (.iload_n 1, 1) := by decide +kernel
theorem dX8_tax_9 : decode cX8_tax 9 = .ok (.invokevirtual 178, 3) := by decide +kernel
theorem dX8_tax_12 : decode cX8_tax 12 = .ok (.getfield 182, 3) := by decide +kernel
theorem dX8_tax_15 : decode cX8_tax 15 = .ok (.lreturn, 1) := by decide +kernel
theorem c_X8_tax {a0 : Nat} {a1 : Int32} : CWp S N d MX8_tax [.ref a0, .int a1] I J P Q ↔ Wp S N d MX8_tax 0 [some (.ref a0), some (.int a1)] [] I J P Q := by
  rw [cwp_iff]
  exact ⟨fun h => h.2, fun h => ⟨Nat.le_of_ble_eq_true rfl, h⟩⟩
theorem e_X8_tax_0 {w : Nat} {x1 : Option Value} : Wp S N d MX8_tax 0 [some (.ref w), x1] [] I J P Q ↔ Wp S N d MX8_tax 1 [some (.ref w), x1] [.ref w] I J P Q := wp_lod (len := 1) rfl rfl rfl rfl dX8_tax_0
theorem e_X8_tax_1 {v0 : Nat} {w : Int32} {x0 : Option Value} : Wp S N d MX8_tax 1 [x0, some (.int w)] [.ref v0] I J P Q ↔ Wp S N d MX8_tax 2 [x0, some (.int w)] [.int w, .ref v0] I J P Q := wp_lod (len := 1) rfl rfl rfl rfl dX8_tax_1
theorem e_X8_tax_2 {v0 : Int32} {v1 : Nat} {x0 x1 : Option Value} : Wp S N d MX8_tax 2 [x0, x1] [.int v0, .ref v1] I J P Q ↔ Wp S N d MX8_tax 4 [x0, x1] [.int 6, .int v0, .ref v1] I J P Q := wp_bipush (by decide) dX8_tax_2
theorem e_X8_tax_4 {v0 : Int32} {v1 : Int32} {v2 : Nat} {x0 x1 : Option Value} : Wp S N (d + 1) MX8_tax 4 [x0, x1] [.int v0, .int v1, .ref v2] I J P Q ↔ S v2 = 8 ∧ CWp S N d MX8_requireIndex [.ref v2, .int v1, .int v0] I J P (fun r I1 J1 P1 => Wp S N (d + 1) MX8_tax 7 [x0, x1] (r.toList ++ []) I1 J1 P1 Q) := wp_callV (M' := MX8_requireIndex) (As := [.int v1, .int v0]) rfl rfl rfl rfl (by decide) (Nat.le_of_ble_eq_true rfl) dX8_tax_4
theorem e_X8_tax_7 {w : Nat} {x1 : Option Value} : Wp S N d MX8_tax 7 [some (.ref w), x1] [] I J P Q ↔ Wp S N d MX8_tax 8 [some (.ref w), x1] [.ref w] I J P Q := wp_lod (len := 1) rfl rfl rfl rfl dX8_tax_7
theorem e_X8_tax_8 {v0 : Nat} {w : Int32} {x0 : Option Value} : Wp S N d MX8_tax 8 [x0, some (.int w)] [.ref v0] I J P Q ↔ Wp S N d MX8_tax 9 [x0, some (.int w)] [.int w, .ref v0] I J P Q := wp_lod (len := 1) rfl rfl rfl rfl dX8_tax_8
theorem e_X8_tax_9 {v0 : Int32} {v1 : Nat} {x0 x1 : Option Value} : Wp S N (d + 1) MX8_tax 9 [x0, x1] [.int v0, .ref v1] I J P Q ↔ S v1 = 8 ∧ CWp S N d MX8_assessAlone [.ref v1, .int v0] I J P (fun r I1 J1 P1 => Wp S N (d + 1) MX8_tax 12 [x0, x1] (r.toList ++ []) I1 J1 P1 Q) := wp_callV (M' := MX8_assessAlone) (As := [.int v0]) rfl rfl rfl rfl (by decide) (Nat.le_of_ble_eq_true rfl) dX8_tax_9
theorem e_X8_tax_12 {v0 : Nat} {x0 x1 : Option Value} : Wp S N d MX8_tax 12 [x0, x1] [.ref v0] I J P Q ↔ S v0 = 0 ∧ Wp S N d MX8_tax 15 [x0, x1] [.long (J v0 7)] I J P Q := wp_getf rfl rfl rfl rfl dX8_tax_12
theorem e_X8_tax_15 {v0 : Int64} {x0 x1 : Option Value} : Wp S N d MX8_tax 15 [x0, x1] [.long v0] I J P Q ↔ Q (some (.long v0)) I J P := wp_lret rfl dX8_tax_15
theorem dX8_taxPart_0 : decode cX8_taxPart 0 = .ok (.aload_n 0, 1) := by decide +kernel
theorem dX8_taxPart_1 : decode cX8_taxPart 1 = .ok (.iload_n 1, 1) := by decide +kernel
theorem dX8_taxPart_2 : decode cX8_taxPart 2 = .ok (.bipush 6, 2) := by decide +kernel
theorem dX8_taxPart_4 : decode cX8_taxPart 4 = .ok (.invokevirtual 123, 3) := by decide +kernel
theorem dX8_taxPart_7 : decode cX8_taxPart 7 = .ok (.aload_n 0, 1) := by decide +kernel
theorem dX8_taxPart_8 : decode cX8_taxPart 8 = .ok (.iload_n 2, 1) := by decide +kernel
theorem dX8_taxPart_9 : decode cX8_taxPart 9 = .ok (.iconst 0, 1) := by decide +kernel
theorem dX8_taxPart_10 : decode cX8_taxPart 10 = .ok (.iconst 5, 1) := by decide +kernel
theorem dX8_taxPart_11 : decode cX8_taxPart 11 = .ok (.invokevirtual 61, 3) := by decide +kernel
theorem dX8_taxPart_14 : decode cX8_taxPart 14 = .ok (.aload_n 0, 1) := by decide +kernel
theorem dX8_taxPart_15 : decode cX8_taxPart 15 = .ok (.iload_n 1, 1) := by decide +kernel
theorem dX8_taxPart_16 : decode cX8_taxPart 16 = .ok (.invokevirtual 178, 3) := by decide +kernel
theorem dX8_taxPart_19 : decode cX8_taxPart 19 = .ok (.getfield 186, 3) := by decide +kernel
theorem dX8_taxPart_22 : decode cX8_taxPart 22 = .ok (.iload_n 2, 1) := by decide +kernel
theorem dX8_taxPart_23 : decode cX8_taxPart 23 = .ok (.laload, 1) := by decide +kernel
theorem dX8_taxPart_24 : decode cX8_taxPart 24 = .ok (.lreturn, 1) := by decide +kernel
theorem c_X8_taxPart {a0 : Nat} {a1 : Int32} {a2 : Int32} : CWp S N d MX8_taxPart [.ref a0, .int a1, .int a2] I J P Q ↔ Wp S N d MX8_taxPart 0 [some (.ref a0), some (.int a1), some (.int a2)] [] I J P Q := by
  rw [cwp_iff]
  exact ⟨fun h => h.2, fun h => ⟨Nat.le_of_ble_eq_true rfl, h⟩⟩
theorem e_X8_taxPart_0 {w : Nat} {x1 x2 : Option Value} : Wp S N d MX8_taxPart 0 [some (.ref w), x1, x2] [] I J P Q ↔ Wp S N d MX8_taxPart 1 [some (.ref w), x1, x2] [.ref w] I J P Q := wp_lod (len := 1) rfl rfl rfl rfl dX8_taxPart_0
theorem e_X8_taxPart_1 {v0 : Nat} {w : Int32} {x0 x2 : Option Value} : Wp S N d MX8_taxPart 1 [x0, some (.int w), x2] [.ref v0] I J P Q ↔ Wp S N d MX8_taxPart 2 [x0, some (.int w), x2] [.int w, .ref v0] I J P Q := wp_lod (len := 1) rfl rfl rfl rfl dX8_taxPart_1
theorem e_X8_taxPart_2 {v0 : Int32} {v1 : Nat} {x0 x1 x2 : Option Value} : Wp S N d MX8_taxPart 2 [x0, x1, x2] [.int v0, .ref v1] I J P Q ↔ Wp S N d MX8_taxPart 4 [x0, x1, x2] [.int 6, .int v0, .ref v1] I J P Q := wp_bipush (by decide) dX8_taxPart_2
theorem e_X8_taxPart_4 {v0 : Int32} {v1 : Int32} {v2 : Nat} {x0 x1 x2 : Option Value} : Wp S N (d + 1) MX8_taxPart 4 [x0, x1, x2] [.int v0, .int v1, .ref v2] I J P Q ↔ S v2 = 8 ∧ CWp S N d MX8_requireIndex [.ref v2, .int v1, .int v0] I J P (fun r I1 J1 P1 => Wp S N (d + 1) MX8_taxPart 7 [x0, x1, x2] (r.toList ++ []) I1 J1 P1 Q) := wp_callV (M' := MX8_requireIndex) (As := [.int v1, .int v0]) rfl rfl rfl rfl (by decide) (Nat.le_of_ble_eq_true rfl) dX8_taxPart_4
theorem e_X8_taxPart_7 {w : Nat} {x1 x2 : Option Value} : Wp S N d MX8_taxPart 7 [some (.ref w), x1, x2] [] I J P Q ↔ Wp S N d MX8_taxPart 8 [some (.ref w), x1, x2] [.ref w] I J P Q := wp_lod (len := 1) rfl rfl rfl rfl dX8_taxPart_7
theorem e_X8_taxPart_8 {v0 : Nat} {w : Int32} {x0 x1 : Option Value} : Wp S N d MX8_taxPart 8 [x0, x1, some (.int w)] [.ref v0] I J P Q ↔ Wp S N d MX8_taxPart 9 [x0, x1, some (.int w)] [.int w, .ref v0] I J P Q := wp_lod (len := 1) rfl rfl rfl rfl dX8_taxPart_8
theorem e_X8_taxPart_9 {v0 : Int32} {v1 : Nat} {x0 x1 x2 : Option Value} : Wp S N d MX8_taxPart 9 [x0, x1, x2] [.int v0, .ref v1] I J P Q ↔ Wp S N d MX8_taxPart 10 [x0, x1, x2] [.int 0, .int v0, .ref v1] I J P Q := wp_iconst (by decide) dX8_taxPart_9
theorem e_X8_taxPart_10 {v0 : Int32} {v1 : Int32} {v2 : Nat} {x0 x1 x2 : Option Value} : Wp S N d MX8_taxPart 10 [x0, x1, x2] [.int v0, .int v1, .ref v2] I J P Q ↔ Wp S N d MX8_taxPart 11 [x0, x1, x2] [.int 5, .int v0, .int v1, .ref v2] I J P Q := wp_iconst (by decide) dX8_taxPart_10
theorem e_X8_taxPart_11 {v0 : Int32} {v1 : Int32} {v2 : Int32} {v3 : Nat} {x0 x1 x2 : Option Value} : Wp S N (d + 1) MX8_taxPart 11 [x0, x1, x2] [.int v0, .int v1, .int v2, .ref v3] I J P Q ↔ S v3 = 8 ∧ CWp S N d MX8_requireRange [.ref v3, .int v2, .int v1, .int v0] I J P (fun r I1 J1 P1 => Wp S N (d + 1) MX8_taxPart 14 [x0, x1, x2] (r.toList ++ []) I1 J1 P1 Q) := wp_callV (M' := MX8_requireRange) (As := [.int v2, .int v1, .int v0]) rfl rfl rfl rfl (by decide) (Nat.le_of_ble_eq_true rfl) dX8_taxPart_11
theorem e_X8_taxPart_14 {w : Nat} {x1 x2 : Option Value} : Wp S N d MX8_taxPart 14 [some (.ref w), x1, x2] [] I J P Q ↔ Wp S N d MX8_taxPart 15 [some (.ref w), x1, x2] [.ref w] I J P Q := wp_lod (len := 1) rfl rfl rfl rfl dX8_taxPart_14
theorem e_X8_taxPart_15 {v0 : Nat} {w : Int32} {x0 x2 : Option Value} : Wp S N d MX8_taxPart 15 [x0, some (.int w), x2] [.ref v0] I J P Q ↔ Wp S N d MX8_taxPart 16 [x0, some (.int w), x2] [.int w, .ref v0] I J P Q := wp_lod (len := 1) rfl rfl rfl rfl dX8_taxPart_15
theorem e_X8_taxPart_16 {v0 : Int32} {v1 : Nat} {x0 x1 x2 : Option Value} : Wp S N (d + 1) MX8_taxPart 16 [x0, x1, x2] [.int v0, .ref v1] I J P Q ↔ S v1 = 8 ∧ CWp S N d MX8_assessAlone [.ref v1, .int v0] I J P (fun r I1 J1 P1 => Wp S N (d + 1) MX8_taxPart 19 [x0, x1, x2] (r.toList ++ []) I1 J1 P1 Q) := wp_callV (M' := MX8_assessAlone) (As := [.int v0]) rfl rfl rfl rfl (by decide) (Nat.le_of_ble_eq_true rfl) dX8_taxPart_16
theorem e_X8_taxPart_19 {v0 : Nat} {x0 x1 x2 : Option Value} : Wp S N d MX8_taxPart 19 [x0, x1, x2] [.ref v0] I J P Q ↔ S v0 = 0 ∧ Wp S N d MX8_taxPart 22 [x0, x1, x2] [va_rf (P v0 5)] I J P Q := wp_getf rfl rfl rfl rfl dX8_taxPart_19
theorem e_X8_taxPart_22 {v0 : Nat} {w : Int32} {x0 x1 : Option Value} : Wp S N d MX8_taxPart 22 [x0, x1, some (.int w)] [.ref v0] I J P Q ↔ Wp S N d MX8_taxPart 23 [x0, x1, some (.int w)] [.int w, .ref v0] I J P Q := wp_lod (len := 1) rfl rfl rfl rfl dX8_taxPart_22
theorem e_X8_taxPart_23 {v0 : Int32} {v1 : Nat} {x0 x1 x2 : Option Value} : Wp S N d MX8_taxPart 23 [x0, x1, x2] [.int v0, .ref v1] I J P Q ↔ (S v1 = 11 ∧ vp_in v0 (N v1)) ∧ Wp S N d MX8_taxPart 24 [x0, x1, x2] [.long (J v1 v0.toNatClampNeg)] I J P Q := wp_ald rfl rfl dX8_taxPart_23
theorem e_X8_taxPart_24 {v0 : Int64} {x0 x1 x2 : Option Value} : Wp S N d MX8_taxPart 24 [x0, x1, x2] [.long v0] I J P Q ↔ Q (some (.long v0)) I J P := wp_lret rfl dX8_taxPart_24
theorem dX8_creditPart_0 : decode cX8_creditPart 0 = .ok (.aload_n 0, 1) := by decide +kernel
theorem dX8_creditPart_1 : decode cX8_creditPart 1 = .ok (.iload_n 1, 1) := by decide +kernel
theorem dX8_creditPart_2 : decode cX8_creditPart 2 = .ok (.bipush 6, 2) := by decide +kernel
theorem dX8_creditPart_4 : decode cX8_creditPart 4 = .ok (.invokevirtual 123, 3) := by decide +kernel
theorem dX8_creditPart_7 : decode cX8_creditPart 7 = .ok (.aload_n 0, 1) := by decide +kernel
theorem dX8_creditPart_8 : decode cX8_creditPart 8 = .ok (.iload_n 2, 1) := by decide +kernel
theorem dX8_creditPart_9 : decode cX8_creditPart 9 = .ok (.aload_n 0, 1) := by decide +kernel
theorem dX8_creditPart_10 : decode cX8_creditPart 10 = .ok (.getfield 26, 3) := by decide +kernel
theorem dX8_creditPart_13 : decode cX8_creditPart 13 = .ok (.getfield 80, 3) := by decide +kernel
theorem dX8_creditPart_16 : decode cX8_creditPart 16 = .ok (.getfield 114, 3) := by decide +kernel
theorem dX8_creditPart_19 : decode cX8_creditPart 19 = .ok (.invokevirtual 123, 3) := by decide +kernel
theorem dX8_creditPart_22 : decode cX8_creditPart 22 = .ok (.aload_n 0, 1) := by decide +kernel
theorem dX8_creditPart_23 : decode cX8_creditPart 23 = .ok (.iload_n 3, 1) := by decide +kernel
theorem dX8_creditPart_24 : decode cX8_creditPart 24 = .ok (.iconst 0, 1) := by decide +kernel
theorem dX8_creditPart_25 : decode cX8_creditPart 25 = .ok (.iconst 4, 1) := by decide +kernel
theorem dX8_creditPart_26 : decode cX8_creditPart 26 = .ok (.invokevirtual 61, 3) := by decide +kernel
theorem dX8_creditPart_29 : decode cX8_creditPart 29 = .ok (.aload_n 0, 1) := by decide +kernel
theorem dX8_creditPart_30 : decode cX8_creditPart 30 = .ok (.iload_n 1, 1) := by decide +kernel
theorem dX8_creditPart_31 : decode cX8_creditPart 31 = .ok (.invokevirtual 178, 3) := by decide +kernel
theorem dX8_creditPart_34 : decode cX8_creditPart 34 = .ok (.getfield 190, 3) := by decide +kernel
theorem dX8_creditPart_37 : decode cX8_creditPart 37 = .ok (.iload_n 2, 1) := by decide +kernel
theorem dX8_creditPart_38 : decode cX8_creditPart 38 = .ok (.aaload, 1) := by decide +kernel
theorem dX8_creditPart_39 : decode cX8_creditPart 39 = .ok (.iload_n 3, 1) := by decide +kernel
theorem dX8_creditPart_40 : decode cX8_creditPart 40 = .ok (.laload, 1) := by decide +kernel
theorem dX8_creditPart_41 : decode cX8_creditPart 41 = .ok (.lreturn, 1) := by decide +kernel
theorem c_X8_creditPart {a0 : Nat} {a1 : Int32} {a2 : Int32} {a3 : Int32} : CWp S N d MX8_creditPart [.ref a0, .int a1, .int a2, .int a3] I J P Q ↔ Wp S N d MX8_creditPart 0 [some (.ref a0), some (.int a1), some (.int a2), some (.int a3)] [] I J P Q := by
  rw [cwp_iff]
  exact ⟨fun h => h.2, fun h => ⟨Nat.le_of_ble_eq_true rfl, h⟩⟩
theorem e_X8_creditPart_0 {w : Nat} {x1 x2 x3 : Option Value} : Wp S N d MX8_creditPart 0 [some (.ref w), x1, x2, x3] [] I J P Q ↔ Wp S N d MX8_creditPart 1 [some (.ref w), x1, x2, x3] [.ref w] I J P Q := wp_lod (len := 1) rfl rfl rfl rfl dX8_creditPart_0
theorem e_X8_creditPart_1 {v0 : Nat} {w : Int32} {x0 x2 x3 : Option Value} : Wp S N d MX8_creditPart 1 [x0, some (.int w), x2, x3] [.ref v0] I J P Q ↔ Wp S N d MX8_creditPart 2 [x0, some (.int w), x2, x3] [.int w, .ref v0] I J P Q := wp_lod (len := 1) rfl rfl rfl rfl dX8_creditPart_1
theorem e_X8_creditPart_2 {v0 : Int32} {v1 : Nat} {x0 x1 x2 x3 : Option Value} : Wp S N d MX8_creditPart 2 [x0, x1, x2, x3] [.int v0, .ref v1] I J P Q ↔ Wp S N d MX8_creditPart 4 [x0, x1, x2, x3] [.int 6, .int v0, .ref v1] I J P Q := wp_bipush (by decide) dX8_creditPart_2
theorem e_X8_creditPart_4 {v0 : Int32} {v1 : Int32} {v2 : Nat} {x0 x1 x2 x3 : Option Value} : Wp S N (d + 1) MX8_creditPart 4 [x0, x1, x2, x3] [.int v0, .int v1, .ref v2] I J P Q ↔ S v2 = 8 ∧ CWp S N d MX8_requireIndex [.ref v2, .int v1, .int v0] I J P (fun r I1 J1 P1 => Wp S N (d + 1) MX8_creditPart 7 [x0, x1, x2, x3] (r.toList ++ []) I1 J1 P1 Q) := wp_callV (M' := MX8_requireIndex) (As := [.int v1, .int v0]) rfl rfl rfl rfl (by decide) (Nat.le_of_ble_eq_true rfl) dX8_creditPart_4
theorem e_X8_creditPart_7 {w : Nat} {x1 x2 x3 : Option Value} : Wp S N d MX8_creditPart 7 [some (.ref w), x1, x2, x3] [] I J P Q ↔ Wp S N d MX8_creditPart 8 [some (.ref w), x1, x2, x3] [.ref w] I J P Q := wp_lod (len := 1) rfl rfl rfl rfl dX8_creditPart_7
theorem e_X8_creditPart_8 {v0 : Nat} {w : Int32} {x0 x1 x3 : Option Value} : Wp S N d MX8_creditPart 8 [x0, x1, some (.int w), x3] [.ref v0] I J P Q ↔ Wp S N d MX8_creditPart 9 [x0, x1, some (.int w), x3] [.int w, .ref v0] I J P Q := wp_lod (len := 1) rfl rfl rfl rfl dX8_creditPart_8
theorem e_X8_creditPart_9 {v0 : Int32} {v1 : Nat} {w : Nat} {x1 x2 x3 : Option Value} : Wp S N d MX8_creditPart 9 [some (.ref w), x1, x2, x3] [.int v0, .ref v1] I J P Q ↔ Wp S N d MX8_creditPart 10 [some (.ref w), x1, x2, x3] [.ref w, .int v0, .ref v1] I J P Q := wp_lod (len := 1) rfl rfl rfl rfl dX8_creditPart_9
theorem e_X8_creditPart_10 {v0 : Nat} {v1 : Int32} {v2 : Nat} {x0 x1 x2 x3 : Option Value} : Wp S N d MX8_creditPart 10 [x0, x1, x2, x3] [.ref v0, .int v1, .ref v2] I J P Q ↔ S v0 = 8 ∧ Wp S N d MX8_creditPart 13 [x0, x1, x2, x3] [va_rf (P v0 2), .int v1, .ref v2] I J P Q := wp_getf rfl rfl rfl rfl dX8_creditPart_10
theorem e_X8_creditPart_13 {v0 : Nat} {v1 : Int32} {v2 : Nat} {x0 x1 x2 x3 : Option Value} : Wp S N d MX8_creditPart 13 [x0, x1, x2, x3] [.ref v0, .int v1, .ref v2] I J P Q ↔ S v0 = 5 ∧ Wp S N d MX8_creditPart 16 [x0, x1, x2, x3] [va_rf (P v0 0), .int v1, .ref v2] I J P Q := wp_getf rfl rfl rfl rfl dX8_creditPart_13
theorem e_X8_creditPart_16 {v0 : Nat} {v1 : Int32} {v2 : Nat} {x0 x1 x2 x3 : Option Value} : Wp S N d MX8_creditPart 16 [x0, x1, x2, x3] [.ref v0, .int v1, .ref v2] I J P Q ↔ S v0 = 7 ∧ Wp S N d MX8_creditPart 19 [x0, x1, x2, x3] [.int (I v0 7), .int v1, .ref v2] I J P Q := wp_getf rfl rfl rfl rfl dX8_creditPart_16
theorem e_X8_creditPart_19 {v0 : Int32} {v1 : Int32} {v2 : Nat} {x0 x1 x2 x3 : Option Value} : Wp S N (d + 1) MX8_creditPart 19 [x0, x1, x2, x3] [.int v0, .int v1, .ref v2] I J P Q ↔ S v2 = 8 ∧ CWp S N d MX8_requireIndex [.ref v2, .int v1, .int v0] I J P (fun r I1 J1 P1 => Wp S N (d + 1) MX8_creditPart 22 [x0, x1, x2, x3] (r.toList ++ []) I1 J1 P1 Q) := wp_callV (M' := MX8_requireIndex) (As := [.int v1, .int v0]) rfl rfl rfl rfl (by decide) (Nat.le_of_ble_eq_true rfl) dX8_creditPart_19
theorem e_X8_creditPart_22 {w : Nat} {x1 x2 x3 : Option Value} : Wp S N d MX8_creditPart 22 [some (.ref w), x1, x2, x3] [] I J P Q ↔ Wp S N d MX8_creditPart 23 [some (.ref w), x1, x2, x3] [.ref w] I J P Q := wp_lod (len := 1) rfl rfl rfl rfl dX8_creditPart_22
theorem e_X8_creditPart_23 {v0 : Nat} {w : Int32} {x0 x1 x2 : Option Value} : Wp S N d MX8_creditPart 23 [x0, x1, x2, some (.int w)] [.ref v0] I J P Q ↔ Wp S N d MX8_creditPart 24 [x0, x1, x2, some (.int w)] [.int w, .ref v0] I J P Q := wp_lod (len := 1) rfl rfl rfl rfl dX8_creditPart_23
theorem e_X8_creditPart_24 {v0 : Int32} {v1 : Nat} {x0 x1 x2 x3 : Option Value} : Wp S N d MX8_creditPart 24 [x0, x1, x2, x3] [.int v0, .ref v1] I J P Q ↔ Wp S N d MX8_creditPart 25 [x0, x1, x2, x3] [.int 0, .int v0, .ref v1] I J P Q := wp_iconst (by decide) dX8_creditPart_24
theorem e_X8_creditPart_25 {v0 : Int32} {v1 : Int32} {v2 : Nat} {x0 x1 x2 x3 : Option Value} : Wp S N d MX8_creditPart 25 [x0, x1, x2, x3] [.int v0, .int v1, .ref v2] I J P Q ↔ Wp S N d MX8_creditPart 26 [x0, x1, x2, x3] [.int 4, .int v0, .int v1, .ref v2] I J P Q := wp_iconst (by decide) dX8_creditPart_25
theorem e_X8_creditPart_26 {v0 : Int32} {v1 : Int32} {v2 : Int32} {v3 : Nat} {x0 x1 x2 x3 : Option Value} : Wp S N (d + 1) MX8_creditPart 26 [x0, x1, x2, x3] [.int v0, .int v1, .int v2, .ref v3] I J P Q ↔ S v3 = 8 ∧ CWp S N d MX8_requireRange [.ref v3, .int v2, .int v1, .int v0] I J P (fun r I1 J1 P1 => Wp S N (d + 1) MX8_creditPart 29 [x0, x1, x2, x3] (r.toList ++ []) I1 J1 P1 Q) := wp_callV (M' := MX8_requireRange) (As := [.int v2, .int v1, .int v0]) rfl rfl rfl rfl (by decide) (Nat.le_of_ble_eq_true rfl) dX8_creditPart_26
theorem e_X8_creditPart_29 {w : Nat} {x1 x2 x3 : Option Value} : Wp S N d MX8_creditPart 29 [some (.ref w), x1, x2, x3] [] I J P Q ↔ Wp S N d MX8_creditPart 30 [some (.ref w), x1, x2, x3] [.ref w] I J P Q := wp_lod (len := 1) rfl rfl rfl rfl dX8_creditPart_29
theorem e_X8_creditPart_30 {v0 : Nat} {w : Int32} {x0 x2 x3 : Option Value} : Wp S N d MX8_creditPart 30 [x0, some (.int w), x2, x3] [.ref v0] I J P Q ↔ Wp S N d MX8_creditPart 31 [x0, some (.int w), x2, x3] [.int w, .ref v0] I J P Q := wp_lod (len := 1) rfl rfl rfl rfl dX8_creditPart_30
theorem e_X8_creditPart_31 {v0 : Int32} {v1 : Nat} {x0 x1 x2 x3 : Option Value} : Wp S N (d + 1) MX8_creditPart 31 [x0, x1, x2, x3] [.int v0, .ref v1] I J P Q ↔ S v1 = 8 ∧ CWp S N d MX8_assessAlone [.ref v1, .int v0] I J P (fun r I1 J1 P1 => Wp S N (d + 1) MX8_creditPart 34 [x0, x1, x2, x3] (r.toList ++ []) I1 J1 P1 Q) := wp_callV (M' := MX8_assessAlone) (As := [.int v0]) rfl rfl rfl rfl (by decide) (Nat.le_of_ble_eq_true rfl) dX8_creditPart_31
theorem e_X8_creditPart_34 {v0 : Nat} {x0 x1 x2 x3 : Option Value} : Wp S N d MX8_creditPart 34 [x0, x1, x2, x3] [.ref v0] I J P Q ↔ S v0 = 0 ∧ Wp S N d MX8_creditPart 37 [x0, x1, x2, x3] [va_rf (P v0 6)] I J P Q := wp_getf rfl rfl rfl rfl dX8_creditPart_34
theorem e_X8_creditPart_37 {v0 : Nat} {w : Int32} {x0 x1 x3 : Option Value} : Wp S N d MX8_creditPart 37 [x0, x1, some (.int w), x3] [.ref v0] I J P Q ↔ Wp S N d MX8_creditPart 38 [x0, x1, some (.int w), x3] [.int w, .ref v0] I J P Q := wp_lod (len := 1) rfl rfl rfl rfl dX8_creditPart_37
theorem e_X8_creditPart_38 {v0 : Int32} {v1 : Nat} {x0 x1 x2 x3 : Option Value} : Wp S N d MX8_creditPart 38 [x0, x1, x2, x3] [.int v0, .ref v1] I J P Q ↔ ((S v1 = 12 ∨ S v1 = 13 ∨ S v1 = 14) ∧ vp_in v0 (N v1)) ∧ Wp S N d MX8_creditPart 39 [x0, x1, x2, x3] [va_rf (P v1 v0.toNatClampNeg)] I J P Q := wp_ald rfl rfl dX8_creditPart_38
theorem e_X8_creditPart_39 {v0 : Nat} {w : Int32} {x0 x1 x2 : Option Value} : Wp S N d MX8_creditPart 39 [x0, x1, x2, some (.int w)] [.ref v0] I J P Q ↔ Wp S N d MX8_creditPart 40 [x0, x1, x2, some (.int w)] [.int w, .ref v0] I J P Q := wp_lod (len := 1) rfl rfl rfl rfl dX8_creditPart_39
theorem e_X8_creditPart_40 {v0 : Int32} {v1 : Nat} {x0 x1 x2 x3 : Option Value} : Wp S N d MX8_creditPart 40 [x0, x1, x2, x3] [.int v0, .ref v1] I J P Q ↔ (S v1 = 11 ∧ vp_in v0 (N v1)) ∧ Wp S N d MX8_creditPart 41 [x0, x1, x2, x3] [.long (J v1 v0.toNatClampNeg)] I J P Q := wp_ald rfl rfl dX8_creditPart_40
theorem e_X8_creditPart_41 {v0 : Int64} {x0 x1 x2 x3 : Option Value} : Wp S N d MX8_creditPart 41 [x0, x1, x2, x3] [.long v0] I J P Q ↔ Q (some (.long v0)) I J P := wp_lret rfl dX8_creditPart_41
theorem dX8_carried_0 : decode cX8_carried 0 = .ok (.aload_n 0, 1) := by decide +kernel
theorem dX8_carried_1 : decode cX8_carried 1 = .ok (.iload_n 1, 1) := by decide +kernel
theorem dX8_carried_2 : decode cX8_carried 2 = .ok (.bipush 6, 2) := by decide +kernel
theorem dX8_carried_4 : decode cX8_carried 4 = .ok (.invokevirtual 123, 3) := by decide +kernel
theorem dX8_carried_7 : decode cX8_carried 7 = .ok (.aload_n 0, 1) := by decide +kernel
theorem dX8_carried_8 : decode cX8_carried 8 = .ok (.iload_n 2, 1) := by decide +kernel
theorem dX8_carried_9 : decode cX8_carried 9 = .ok (.aload_n 0, 1) := by decide +kernel
theorem dX8_carried_10 : decode cX8_carried 10 = .ok (.getfield 26, 3) := by decide +kernel
theorem dX8_carried_13 : decode cX8_carried 13 = .ok (.getfield 80, 3) := by decide +kernel
theorem dX8_carried_16 : decode cX8_carried 16 = .ok (.getfield 114, 3) := by decide +kernel
theorem dX8_carried_19 : decode cX8_carried 19 = .ok (.invokevirtual 123, 3) := by decide +kernel
theorem dX8_carried_22 : decode cX8_carried 22 = .ok (.aload_n 0, 1) := by decide +kernel
theorem dX8_carried_23 : decode cX8_carried 23 = .ok (.getfield 26, 3) := by decide +kernel
theorem dX8_carried_26 : decode cX8_carried 26 = .ok (.getfield 80, 3) := by decide +kernel
theorem dX8_carried_29 : decode cX8_carried 29 = .ok (.getfield 142, 3) := by decide +kernel
theorem dX8_carried_32 : decode cX8_carried 32 = .ok (.iload_n 2, 1) := by decide +kernel
theorem dX8_carried_33 : decode cX8_carried 33 = .ok (.aaload, 1) := by decide +kernel
theorem dX8_carried_34 : decode cX8_carried 34 = .ok (.getfield 194, 3) := by decide +kernel
theorem dX8_carried_37 : decode cX8_carried 37 = .ok (.iload_n 1, 1) := by decide +kernel
theorem dX8_carried_38 : decode cX8_carried 38 = .ok (.laload, 1) := by decide +kernel
theorem dX8_carried_39 : decode cX8_carried 39 = .ok (.lreturn, 1) := by decide +kernel
theorem c_X8_carried {a0 : Nat} {a1 : Int32} {a2 : Int32} : CWp S N d MX8_carried [.ref a0, .int a1, .int a2] I J P Q ↔ Wp S N d MX8_carried 0 [some (.ref a0), some (.int a1), some (.int a2)] [] I J P Q := by
  rw [cwp_iff]
  exact ⟨fun h => h.2, fun h => ⟨Nat.le_of_ble_eq_true rfl, h⟩⟩
theorem e_X8_carried_0 {w : Nat} {x1 x2 : Option Value} : Wp S N d MX8_carried 0 [some (.ref w), x1, x2] [] I J P Q ↔ Wp S N d MX8_carried 1 [some (.ref w), x1, x2] [.ref w] I J P Q := wp_lod (len := 1) rfl rfl rfl rfl dX8_carried_0
theorem e_X8_carried_1 {v0 : Nat} {w : Int32} {x0 x2 : Option Value} : Wp S N d MX8_carried 1 [x0, some (.int w), x2] [.ref v0] I J P Q ↔ Wp S N d MX8_carried 2 [x0, some (.int w), x2] [.int w, .ref v0] I J P Q := wp_lod (len := 1) rfl rfl rfl rfl dX8_carried_1
theorem e_X8_carried_2 {v0 : Int32} {v1 : Nat} {x0 x1 x2 : Option Value} : Wp S N d MX8_carried 2 [x0, x1, x2] [.int v0, .ref v1] I J P Q ↔ Wp S N d MX8_carried 4 [x0, x1, x2] [.int 6, .int v0, .ref v1] I J P Q := wp_bipush (by decide) dX8_carried_2
theorem e_X8_carried_4 {v0 : Int32} {v1 : Int32} {v2 : Nat} {x0 x1 x2 : Option Value} : Wp S N (d + 1) MX8_carried 4 [x0, x1, x2] [.int v0, .int v1, .ref v2] I J P Q ↔ S v2 = 8 ∧ CWp S N d MX8_requireIndex [.ref v2, .int v1, .int v0] I J P (fun r I1 J1 P1 => Wp S N (d + 1) MX8_carried 7 [x0, x1, x2] (r.toList ++ []) I1 J1 P1 Q) := wp_callV (M' := MX8_requireIndex) (As := [.int v1, .int v0]) rfl rfl rfl rfl (by decide) (Nat.le_of_ble_eq_true rfl) dX8_carried_4
theorem e_X8_carried_7 {w : Nat} {x1 x2 : Option Value} : Wp S N d MX8_carried 7 [some (.ref w), x1, x2] [] I J P Q ↔ Wp S N d MX8_carried 8 [some (.ref w), x1, x2] [.ref w] I J P Q := wp_lod (len := 1) rfl rfl rfl rfl dX8_carried_7
theorem e_X8_carried_8 {v0 : Nat} {w : Int32} {x0 x1 : Option Value} : Wp S N d MX8_carried 8 [x0, x1, some (.int w)] [.ref v0] I J P Q ↔ Wp S N d MX8_carried 9 [x0, x1, some (.int w)] [.int w, .ref v0] I J P Q := wp_lod (len := 1) rfl rfl rfl rfl dX8_carried_8
theorem e_X8_carried_9 {v0 : Int32} {v1 : Nat} {w : Nat} {x1 x2 : Option Value} : Wp S N d MX8_carried 9 [some (.ref w), x1, x2] [.int v0, .ref v1] I J P Q ↔ Wp S N d MX8_carried 10 [some (.ref w), x1, x2] [.ref w, .int v0, .ref v1] I J P Q := wp_lod (len := 1) rfl rfl rfl rfl dX8_carried_9
theorem e_X8_carried_10 {v0 : Nat} {v1 : Int32} {v2 : Nat} {x0 x1 x2 : Option Value} : Wp S N d MX8_carried 10 [x0, x1, x2] [.ref v0, .int v1, .ref v2] I J P Q ↔ S v0 = 8 ∧ Wp S N d MX8_carried 13 [x0, x1, x2] [va_rf (P v0 2), .int v1, .ref v2] I J P Q := wp_getf rfl rfl rfl rfl dX8_carried_10
theorem e_X8_carried_13 {v0 : Nat} {v1 : Int32} {v2 : Nat} {x0 x1 x2 : Option Value} : Wp S N d MX8_carried 13 [x0, x1, x2] [.ref v0, .int v1, .ref v2] I J P Q ↔ S v0 = 5 ∧ Wp S N d MX8_carried 16 [x0, x1, x2] [va_rf (P v0 0), .int v1, .ref v2] I J P Q := wp_getf rfl rfl rfl rfl dX8_carried_13
theorem e_X8_carried_16 {v0 : Nat} {v1 : Int32} {v2 : Nat} {x0 x1 x2 : Option Value} : Wp S N d MX8_carried 16 [x0, x1, x2] [.ref v0, .int v1, .ref v2] I J P Q ↔ S v0 = 7 ∧ Wp S N d MX8_carried 19 [x0, x1, x2] [.int (I v0 7), .int v1, .ref v2] I J P Q := wp_getf rfl rfl rfl rfl dX8_carried_16
theorem e_X8_carried_19 {v0 : Int32} {v1 : Int32} {v2 : Nat} {x0 x1 x2 : Option Value} : Wp S N (d + 1) MX8_carried 19 [x0, x1, x2] [.int v0, .int v1, .ref v2] I J P Q ↔ S v2 = 8 ∧ CWp S N d MX8_requireIndex [.ref v2, .int v1, .int v0] I J P (fun r I1 J1 P1 => Wp S N (d + 1) MX8_carried 22 [x0, x1, x2] (r.toList ++ []) I1 J1 P1 Q) := wp_callV (M' := MX8_requireIndex) (As := [.int v1, .int v0]) rfl rfl rfl rfl (by decide) (Nat.le_of_ble_eq_true rfl) dX8_carried_19
theorem e_X8_carried_22 {w : Nat} {x1 x2 : Option Value} : Wp S N d MX8_carried 22 [some (.ref w), x1, x2] [] I J P Q ↔ Wp S N d MX8_carried 23 [some (.ref w), x1, x2] [.ref w] I J P Q := wp_lod (len := 1) rfl rfl rfl rfl dX8_carried_22
theorem e_X8_carried_23 {v0 : Nat} {x0 x1 x2 : Option Value} : Wp S N d MX8_carried 23 [x0, x1, x2] [.ref v0] I J P Q ↔ S v0 = 8 ∧ Wp S N d MX8_carried 26 [x0, x1, x2] [va_rf (P v0 2)] I J P Q := wp_getf rfl rfl rfl rfl dX8_carried_23
theorem e_X8_carried_26 {v0 : Nat} {x0 x1 x2 : Option Value} : Wp S N d MX8_carried 26 [x0, x1, x2] [.ref v0] I J P Q ↔ S v0 = 5 ∧ Wp S N d MX8_carried 29 [x0, x1, x2] [va_rf (P v0 0)] I J P Q := wp_getf rfl rfl rfl rfl dX8_carried_26
theorem e_X8_carried_29 {v0 : Nat} {x0 x1 x2 : Option Value} : Wp S N d MX8_carried 29 [x0, x1, x2] [.ref v0] I J P Q ↔ S v0 = 7 ∧ Wp S N d MX8_carried 32 [x0, x1, x2] [va_rf (P v0 8)] I J P Q := wp_getf rfl rfl rfl rfl dX8_carried_29
theorem e_X8_carried_32 {v0 : Nat} {w : Int32} {x0 x1 : Option Value} : Wp S N d MX8_carried 32 [x0, x1, some (.int w)] [.ref v0] I J P Q ↔ Wp S N d MX8_carried 33 [x0, x1, some (.int w)] [.int w, .ref v0] I J P Q := wp_lod (len := 1) rfl rfl rfl rfl dX8_carried_32
theorem e_X8_carried_33 {v0 : Int32} {v1 : Nat} {x0 x1 x2 : Option Value} : Wp S N d MX8_carried 33 [x0, x1, x2] [.int v0, .ref v1] I J P Q ↔ ((S v1 = 12 ∨ S v1 = 13 ∨ S v1 = 14) ∧ vp_in v0 (N v1)) ∧ Wp S N d MX8_carried 34 [x0, x1, x2] [va_rf (P v1 v0.toNatClampNeg)] I J P Q := wp_ald rfl rfl dX8_carried_33
theorem e_X8_carried_34 {v0 : Nat} {x0 x1 x2 : Option Value} : Wp S N d MX8_carried 34 [x0, x1, x2] [.ref v0] I J P Q ↔ S v0 = 2 ∧ Wp S N d MX8_carried 37 [x0, x1, x2] [va_rf (P v0 1)] I J P Q := wp_getf rfl rfl rfl rfl dX8_carried_34
theorem e_X8_carried_37 {v0 : Nat} {w : Int32} {x0 x2 : Option Value} : Wp S N d MX8_carried 37 [x0, some (.int w), x2] [.ref v0] I J P Q ↔ Wp S N d MX8_carried 38 [x0, some (.int w), x2] [.int w, .ref v0] I J P Q := wp_lod (len := 1) rfl rfl rfl rfl dX8_carried_37
theorem e_X8_carried_38 {v0 : Int32} {v1 : Nat} {x0 x1 x2 : Option Value} : Wp S N d MX8_carried 38 [x0, x1, x2] [.int v0, .ref v1] I J P Q ↔ (S v1 = 11 ∧ vp_in v0 (N v1)) ∧ Wp S N d MX8_carried 39 [x0, x1, x2] [.long (J v1 v0.toNatClampNeg)] I J P Q := wp_ald rfl rfl dX8_carried_38
theorem e_X8_carried_39 {v0 : Int64} {x0 x1 x2 : Option Value} : Wp S N d MX8_carried 39 [x0, x1, x2] [.long v0] I J P Q ↔ Q (some (.long v0)) I J P := wp_lret rfl dX8_carried_39
theorem dX8_jointTax_0 : decode cX8_jointTax 0 = .ok (.aload_n 0, 1) := by decide +kernel
theorem dX8_jointTax_1 : decode cX8_jointTax 1 = .ok (.getfield 50, 3) := by decide +kernel
theorem dX8_jointTax_4 : decode cX8_jointTax 4 = .ok (.aload_n 0, 1) := by decide +kernel
theorem dX8_jointTax_5 : decode cX8_jointTax 5 = .ok (.getfield 26, 3) := by decide +kernel
theorem dX8_jointTax_8 : decode cX8_jointTax 8 = .ok (.iload_n 1, 1) := by decide +kernel
theorem dX8_jointTax_9 : decode cX8_jointTax 9 = .ok (.aload_n 0, 1) := by decide +kernel
theorem dX8_jointTax_10 : decode cX8_jointTax 10 = .ok (.iload_n 1, 1) := by decide +kernel
theorem dX8_jointTax_11 : decode cX8_jointTax 11 = .ok (.invokevirtual 174, 3) := by decide +kernel
theorem dX8_jointTax_14 : decode cX8_jointTax 14 = .ok (.invokevirtual 197, 3) := by decide +kernel
theorem dX8_jointTax_17 : decode cX8_jointTax 17 = .ok (.aload_n 0, 1) := by decide +kernel
theorem dX8_jointTax_18 : decode cX8_jointTax 18 = .ok (.getfield 50, 3) := by decide +kernel
theorem dX8_jointTax_21 : decode cX8_jointTax 21 = .ok (.getfield 201, 3) := by decide +kernel
theorem dX8_jointTax_24 : decode cX8_jointTax 24 = .ok (.lreturn, 1) := by decide +kernel
theorem c_X8_jointTax {a0 : Nat} {a1 : Int32} : CWp S N d MX8_jointTax [.ref a0, .int a1] I J P Q ↔ Wp S N d MX8_jointTax 0 [some (.ref a0), some (.int a1)] [] I J P Q := by
  rw [cwp_iff]
  exact ⟨fun h => h.2, fun h => ⟨Nat.le_of_ble_eq_true rfl, h⟩⟩
theorem e_X8_jointTax_0 {w : Nat} {x1 : Option Value} : Wp S N d MX8_jointTax 0 [some (.ref w), x1] [] I J P Q ↔ Wp S N d MX8_jointTax 1 [some (.ref w), x1] [.ref w] I J P Q := wp_lod (len := 1) rfl rfl rfl rfl dX8_jointTax_0
theorem e_X8_jointTax_1 {v0 : Nat} {x0 x1 : Option Value} : Wp S N d MX8_jointTax 1 [x0, x1] [.ref v0] I J P Q ↔ S v0 = 8 ∧ Wp S N d MX8_jointTax 4 [x0, x1] [va_rf (P v0 7)] I J P Q := wp_getf rfl rfl rfl rfl dX8_jointTax_1
theorem e_X8_jointTax_4 {v0 : Nat} {w : Nat} {x1 : Option Value} : Wp S N d MX8_jointTax 4 [some (.ref w), x1] [.ref v0] I J P Q ↔ Wp S N d MX8_jointTax 5 [some (.ref w), x1] [.ref w, .ref v0] I J P Q := wp_lod (len := 1) rfl rfl rfl rfl dX8_jointTax_4
theorem e_X8_jointTax_5 {v0 : Nat} {v1 : Nat} {x0 x1 : Option Value} : Wp S N d MX8_jointTax 5 [x0, x1] [.ref v0, .ref v1] I J P Q ↔ S v0 = 8 ∧ Wp S N d MX8_jointTax 8 [x0, x1] [va_rf (P v0 2), .ref v1] I J P Q := wp_getf rfl rfl rfl rfl dX8_jointTax_5
theorem e_X8_jointTax_8 {v0 : Nat} {v1 : Nat} {w : Int32} {x0 : Option Value} : Wp S N d MX8_jointTax 8 [x0, some (.int w)] [.ref v0, .ref v1] I J P Q ↔ Wp S N d MX8_jointTax 9 [x0, some (.int w)] [.int w, .ref v0, .ref v1] I J P Q := wp_lod (len := 1) rfl rfl rfl rfl dX8_jointTax_8
theorem e_X8_jointTax_9 {v0 : Int32} {v1 : Nat} {v2 : Nat} {w : Nat} {x1 : Option Value} : Wp S N d MX8_jointTax 9 [some (.ref w), x1] [.int v0, .ref v1, .ref v2] I J P Q ↔ Wp S N d MX8_jointTax 10 [some (.ref w), x1] [.ref w, .int v0, .ref v1, .ref v2] I J P Q := wp_lod (len := 1) rfl rfl rfl rfl dX8_jointTax_9
theorem e_X8_jointTax_10 {v0 : Nat} {v1 : Int32} {v2 : Nat} {v3 : Nat} {w : Int32} {x0 : Option Value} : Wp S N d MX8_jointTax 10 [x0, some (.int w)] [.ref v0, .int v1, .ref v2, .ref v3] I J P Q ↔ Wp S N d MX8_jointTax 11 [x0, some (.int w)] [.int w, .ref v0, .int v1, .ref v2, .ref v3] I J P Q := wp_lod (len := 1) rfl rfl rfl rfl dX8_jointTax_10
theorem e_X8_jointTax_11 {v0 : Int32} {v1 : Nat} {v2 : Int32} {v3 : Nat} {v4 : Nat} {x0 x1 : Option Value} : Wp S N (d + 1) MX8_jointTax 11 [x0, x1] [.int v0, .ref v1, .int v2, .ref v3, .ref v4] I J P Q ↔ S v1 = 8 ∧ CWp S N d MX8_requirePartner [.ref v1, .int v0] I J P (fun r I1 J1 P1 => Wp S N (d + 1) MX8_jointTax 14 [x0, x1] (r.toList ++ [.int v2, .ref v3, .ref v4]) I1 J1 P1 Q) := wp_callV (M' := MX8_requirePartner) (As := [.int v0]) rfl rfl rfl rfl (by decide) (Nat.le_of_ble_eq_true rfl) dX8_jointTax_11
theorem e_X8_jointTax_14 {v0 : Int32} {v1 : Int32} {v2 : Nat} {v3 : Nat} {x0 x1 : Option Value} : Wp S N (d + 1) MX8_jointTax 14 [x0, x1] [.int v0, .int v1, .ref v2, .ref v3] I J P Q ↔ S v3 = 1 ∧ CWp S N d MX1_settle [.ref v3, .ref v2, .int v1, .int v0] I J P (fun r I1 J1 P1 => Wp S N (d + 1) MX8_jointTax 17 [x0, x1] (r.toList ++ []) I1 J1 P1 Q) := wp_callV (M' := MX1_settle) (As := [.ref v2, .int v1, .int v0]) rfl rfl rfl rfl (by decide) (Nat.le_of_ble_eq_true rfl) dX8_jointTax_14
theorem e_X8_jointTax_17 {w : Nat} {x1 : Option Value} : Wp S N d MX8_jointTax 17 [some (.ref w), x1] [] I J P Q ↔ Wp S N d MX8_jointTax 18 [some (.ref w), x1] [.ref w] I J P Q := wp_lod (len := 1) rfl rfl rfl rfl dX8_jointTax_17
theorem e_X8_jointTax_18 {v0 : Nat} {x0 x1 : Option Value} : Wp S N d MX8_jointTax 18 [x0, x1] [.ref v0] I J P Q ↔ S v0 = 8 ∧ Wp S N d MX8_jointTax 21 [x0, x1] [va_rf (P v0 7)] I J P Q := wp_getf rfl rfl rfl rfl dX8_jointTax_18
theorem e_X8_jointTax_21 {v0 : Nat} {x0 x1 : Option Value} : Wp S N d MX8_jointTax 21 [x0, x1] [.ref v0] I J P Q ↔ S v0 = 1 ∧ Wp S N d MX8_jointTax 24 [x0, x1] [.long (J v0 4)] I J P Q := wp_getf rfl rfl rfl rfl dX8_jointTax_21
theorem e_X8_jointTax_24 {v0 : Int64} {x0 x1 : Option Value} : Wp S N d MX8_jointTax 24 [x0, x1] [.long v0] I J P Q ↔ Q (some (.long v0)) I J P := wp_lret rfl dX8_jointTax_24
theorem dX8_separateTax_0 : decode cX8_separateTax 0 = .ok (.aload_n 0, 1) := by decide +kernel
theorem dX8_separateTax_1 : decode cX8_separateTax 1 = .ok (.getfield 50, 3) := by decide +kernel
theorem dX8_separateTax_4 : decode cX8_separateTax 4 = .ok (.aload_n 0, 1) := by decide +kernel
theorem dX8_separateTax_5 : decode cX8_separateTax 5 = .ok (.getfield 26, 3) := by decide +kernel
theorem dX8_separateTax_8 : decode cX8_separateTax 8 = .ok (.iload_n 1, 1) := by decide +kernel
theorem dX8_separateTax_9 : decode cX8_separateTax 9 = .ok (.aload_n 0, 1) := by decide +kernel
theorem dX8_separateTax_10 : decode cX8_separateTax 10 = .ok (.iload_n 1, 1) := by decide +kernel
theorem dX8_separateTax_11 : decode cX8_separateTax 11 = .ok (.invokevirtual 174, 3) := by decide +kernel
theorem dX8_separateTax_14 : decode cX8_separateTax 14 = .ok (.invokevirtual 197, 3) := by decide +kernel
theorem dX8_separateTax_17 : decode cX8_separateTax 17 = .ok (.aload_n 0, 1) := by decide +kernel
theorem dX8_separateTax_18 : decode cX8_separateTax 18 = .ok (.getfield 50, 3) := by decide +kernel
theorem dX8_separateTax_21 : decode cX8_separateTax 21 = .ok (.getfield 204, 3) := by decide +kernel
theorem dX8_separateTax_24 : decode cX8_separateTax 24 = .ok (.lreturn, 1) := by decide +kernel
theorem c_X8_separateTax {a0 : Nat} {a1 : Int32} : CWp S N d MX8_separateTax [.ref a0, .int a1] I J P Q ↔ Wp S N d MX8_separateTax 0 [some (.ref a0), some (.int a1)] [] I J P Q := by
  rw [cwp_iff]
  exact ⟨fun h => h.2, fun h => ⟨Nat.le_of_ble_eq_true rfl, h⟩⟩
theorem e_X8_separateTax_0 {w : Nat} {x1 : Option Value} : Wp S N d MX8_separateTax 0 [some (.ref w), x1] [] I J P Q ↔ Wp S N d MX8_separateTax 1 [some (.ref w), x1] [.ref w] I J P Q := wp_lod (len := 1) rfl rfl rfl rfl dX8_separateTax_0
theorem e_X8_separateTax_1 {v0 : Nat} {x0 x1 : Option Value} : Wp S N d MX8_separateTax 1 [x0, x1] [.ref v0] I J P Q ↔ S v0 = 8 ∧ Wp S N d MX8_separateTax 4 [x0, x1] [va_rf (P v0 7)] I J P Q := wp_getf rfl rfl rfl rfl dX8_separateTax_1
theorem e_X8_separateTax_4 {v0 : Nat} {w : Nat} {x1 : Option Value} : Wp S N d MX8_separateTax 4 [some (.ref w), x1] [.ref v0] I J P Q ↔ Wp S N d MX8_separateTax 5 [some (.ref w), x1] [.ref w, .ref v0] I J P Q := wp_lod (len := 1) rfl rfl rfl rfl dX8_separateTax_4
theorem e_X8_separateTax_5 {v0 : Nat} {v1 : Nat} {x0 x1 : Option Value} : Wp S N d MX8_separateTax 5 [x0, x1] [.ref v0, .ref v1] I J P Q ↔ S v0 = 8 ∧ Wp S N d MX8_separateTax 8 [x0, x1] [va_rf (P v0 2), .ref v1] I J P Q := wp_getf rfl rfl rfl rfl dX8_separateTax_5
theorem e_X8_separateTax_8 {v0 : Nat} {v1 : Nat} {w : Int32} {x0 : Option Value} : Wp S N d MX8_separateTax 8 [x0, some (.int w)] [.ref v0, .ref v1] I J P Q ↔ Wp S N d MX8_separateTax 9 [x0, some (.int w)] [.int w, .ref v0, .ref v1] I J P Q := wp_lod (len := 1) rfl rfl rfl rfl dX8_separateTax_8
theorem e_X8_separateTax_9 {v0 : Int32} {v1 : Nat} {v2 : Nat} {w : Nat} {x1 : Option Value} : Wp S N d MX8_separateTax 9 [some (.ref w), x1] [.int v0, .ref v1, .ref v2] I J P Q ↔ Wp S N d MX8_separateTax 10 [some (.ref w), x1] [.ref w, .int v0, .ref v1, .ref v2] I J P Q := wp_lod (len := 1) rfl rfl rfl rfl dX8_separateTax_9
theorem e_X8_separateTax_10 {v0 : Nat} {v1 : Int32} {v2 : Nat} {v3 : Nat} {w : Int32} {x0 : Option Value} : Wp S N d MX8_separateTax 10 [x0, some (.int w)] [.ref v0, .int v1, .ref v2, .ref v3] I J P Q ↔ Wp S N d MX8_separateTax 11 [x0, some (.int w)] [.int w, .ref v0, .int v1, .ref v2, .ref v3] I J P Q := wp_lod (len := 1) rfl rfl rfl rfl dX8_separateTax_10
theorem e_X8_separateTax_11 {v0 : Int32} {v1 : Nat} {v2 : Int32} {v3 : Nat} {v4 : Nat} {x0 x1 : Option Value} : Wp S N (d + 1) MX8_separateTax 11 [x0, x1] [.int v0, .ref v1, .int v2, .ref v3, .ref v4] I J P Q ↔ S v1 = 8 ∧ CWp S N d MX8_requirePartner [.ref v1, .int v0] I J P (fun r I1 J1 P1 => Wp S N (d + 1) MX8_separateTax 14 [x0, x1] (r.toList ++ [.int v2, .ref v3, .ref v4]) I1 J1 P1 Q) := wp_callV (M' := MX8_requirePartner) (As := [.int v0]) rfl rfl rfl rfl (by decide) (Nat.le_of_ble_eq_true rfl) dX8_separateTax_11
theorem e_X8_separateTax_14 {v0 : Int32} {v1 : Int32} {v2 : Nat} {v3 : Nat} {x0 x1 : Option Value} : Wp S N (d + 1) MX8_separateTax 14 [x0, x1] [.int v0, .int v1, .ref v2, .ref v3] I J P Q ↔ S v3 = 1 ∧ CWp S N d MX1_settle [.ref v3, .ref v2, .int v1, .int v0] I J P (fun r I1 J1 P1 => Wp S N (d + 1) MX8_separateTax 17 [x0, x1] (r.toList ++ []) I1 J1 P1 Q) := wp_callV (M' := MX1_settle) (As := [.ref v2, .int v1, .int v0]) rfl rfl rfl rfl (by decide) (Nat.le_of_ble_eq_true rfl) dX8_separateTax_14
theorem e_X8_separateTax_17 {w : Nat} {x1 : Option Value} : Wp S N d MX8_separateTax 17 [some (.ref w), x1] [] I J P Q ↔ Wp S N d MX8_separateTax 18 [some (.ref w), x1] [.ref w] I J P Q := wp_lod (len := 1) rfl rfl rfl rfl dX8_separateTax_17
theorem e_X8_separateTax_18 {v0 : Nat} {x0 x1 : Option Value} : Wp S N d MX8_separateTax 18 [x0, x1] [.ref v0] I J P Q ↔ S v0 = 8 ∧ Wp S N d MX8_separateTax 21 [x0, x1] [va_rf (P v0 7)] I J P Q := wp_getf rfl rfl rfl rfl dX8_separateTax_18
theorem e_X8_separateTax_21 {v0 : Nat} {x0 x1 : Option Value} : Wp S N d MX8_separateTax 21 [x0, x1] [.ref v0] I J P Q ↔ S v0 = 1 ∧ Wp S N d MX8_separateTax 24 [x0, x1] [.long (J v0 5)] I J P Q := wp_getf rfl rfl rfl rfl dX8_separateTax_21
theorem e_X8_separateTax_24 {v0 : Int64} {x0 x1 : Option Value} : Wp S N d MX8_separateTax 24 [x0, x1] [.long v0] I J P Q ↔ Q (some (.long v0)) I J P := wp_lret rfl dX8_separateTax_24
theorem dX8_division_0 : decode cX8_division 0 = .ok (.aload_n 0, 1) := by decide +kernel
theorem dX8_division_1 : decode cX8_division 1 = .ok (.getfield 50, 3) := by decide +kernel
theorem dX8_division_4 : decode cX8_division 4 = .ok (.aload_n 0, 1) := by decide +kernel
theorem dX8_division_5 : decode cX8_division 5 = .ok (.getfield 26, 3) := by decide +kernel
theorem dX8_division_8 : decode cX8_division 8 = .ok (.iload_n 1, 1) := by decide +kernel
theorem dX8_division_9 : decode cX8_division 9 = .ok (.aload_n 0, 1) := by decide +kernel
theorem dX8_division_10 : decode cX8_division 10 = .ok (.iload_n 1, 1) := by decide +kernel
theorem dX8_division_11 : decode cX8_division 11 = .ok (.invokevirtual 174, 3) := by decide +kernel
theorem dX8_division_14 : decode cX8_division 14 = .ok (.invokevirtual 197, 3) := by decide +kernel
theorem dX8_division_17 : decode cX8_division 17 = .ok (.aload_n 0, 1) := by decide +kernel
theorem dX8_division_18 : decode cX8_division 18 = .ok (.getfield 50, 3) := by decide +kernel
theorem dX8_division_21 : decode cX8_division 21 = .ok (.getfield 207, 3) := by decide +kernel
theorem dX8_division_24 : decode cX8_division 24 = .ok (.ireturn, 1) := by decide +kernel
theorem c_X8_division {a0 : Nat} {a1 : Int32} : CWp S N d MX8_division [.ref a0, .int a1] I J P Q ↔ Wp S N d MX8_division 0 [some (.ref a0), some (.int a1)] [] I J P Q := by
  rw [cwp_iff]
  exact ⟨fun h => h.2, fun h => ⟨Nat.le_of_ble_eq_true rfl, h⟩⟩
theorem e_X8_division_0 {w : Nat} {x1 : Option Value} : Wp S N d MX8_division 0 [some (.ref w), x1] [] I J P Q ↔ Wp S N d MX8_division 1 [some (.ref w), x1] [.ref w] I J P Q := wp_lod (len := 1) rfl rfl rfl rfl dX8_division_0
theorem e_X8_division_1 {v0 : Nat} {x0 x1 : Option Value} : Wp S N d MX8_division 1 [x0, x1] [.ref v0] I J P Q ↔ S v0 = 8 ∧ Wp S N d MX8_division 4 [x0, x1] [va_rf (P v0 7)] I J P Q := wp_getf rfl rfl rfl rfl dX8_division_1
theorem e_X8_division_4 {v0 : Nat} {w : Nat} {x1 : Option Value} : Wp S N d MX8_division 4 [some (.ref w), x1] [.ref v0] I J P Q ↔ Wp S N d MX8_division 5 [some (.ref w), x1] [.ref w, .ref v0] I J P Q := wp_lod (len := 1) rfl rfl rfl rfl dX8_division_4
theorem e_X8_division_5 {v0 : Nat} {v1 : Nat} {x0 x1 : Option Value} : Wp S N d MX8_division 5 [x0, x1] [.ref v0, .ref v1] I J P Q ↔ S v0 = 8 ∧ Wp S N d MX8_division 8 [x0, x1] [va_rf (P v0 2), .ref v1] I J P Q := wp_getf rfl rfl rfl rfl dX8_division_5
theorem e_X8_division_8 {v0 : Nat} {v1 : Nat} {w : Int32} {x0 : Option Value} : Wp S N d MX8_division 8 [x0, some (.int w)] [.ref v0, .ref v1] I J P Q ↔ Wp S N d MX8_division 9 [x0, some (.int w)] [.int w, .ref v0, .ref v1] I J P Q := wp_lod (len := 1) rfl rfl rfl rfl dX8_division_8
theorem e_X8_division_9 {v0 : Int32} {v1 : Nat} {v2 : Nat} {w : Nat} {x1 : Option Value} : Wp S N d MX8_division 9 [some (.ref w), x1] [.int v0, .ref v1, .ref v2] I J P Q ↔ Wp S N d MX8_division 10 [some (.ref w), x1] [.ref w, .int v0, .ref v1, .ref v2] I J P Q := wp_lod (len := 1) rfl rfl rfl rfl dX8_division_9
theorem e_X8_division_10 {v0 : Nat} {v1 : Int32} {v2 : Nat} {v3 : Nat} {w : Int32} {x0 : Option Value} : Wp S N d MX8_division 10 [x0, some (.int w)] [.ref v0, .int v1, .ref v2, .ref v3] I J P Q ↔ Wp S N d MX8_division 11 [x0, some (.int w)] [.int w, .ref v0, .int v1, .ref v2, .ref v3] I J P Q := wp_lod (len := 1) rfl rfl rfl rfl dX8_division_10
theorem e_X8_division_11 {v0 : Int32} {v1 : Nat} {v2 : Int32} {v3 : Nat} {v4 : Nat} {x0 x1 : Option Value} : Wp S N (d + 1) MX8_division 11 [x0, x1] [.int v0, .ref v1, .int v2, .ref v3, .ref v4] I J P Q ↔ S v1 = 8 ∧ CWp S N d MX8_requirePartner [.ref v1, .int v0] I J P (fun r I1 J1 P1 => Wp S N (d + 1) MX8_division 14 [x0, x1] (r.toList ++ [.int v2, .ref v3, .ref v4]) I1 J1 P1 Q) := wp_callV (M' := MX8_requirePartner) (As := [.int v0]) rfl rfl rfl rfl (by decide) (Nat.le_of_ble_eq_true rfl) dX8_division_11
theorem e_X8_division_14 {v0 : Int32} {v1 : Int32} {v2 : Nat} {v3 : Nat} {x0 x1 : Option Value} : Wp S N (d + 1) MX8_division 14 [x0, x1] [.int v0, .int v1, .ref v2, .ref v3] I J P Q ↔ S v3 = 1 ∧ CWp S N d MX1_settle [.ref v3, .ref v2, .int v1, .int v0] I J P (fun r I1 J1 P1 => Wp S N (d + 1) MX8_division 17 [x0, x1] (r.toList ++ []) I1 J1 P1 Q) := wp_callV (M' := MX1_settle) (As := [.ref v2, .int v1, .int v0]) rfl rfl rfl rfl (by decide) (Nat.le_of_ble_eq_true rfl) dX8_division_14
theorem e_X8_division_17 {w : Nat} {x1 : Option Value} : Wp S N d MX8_division 17 [some (.ref w), x1] [] I J P Q ↔ Wp S N d MX8_division 18 [some (.ref w), x1] [.ref w] I J P Q := wp_lod (len := 1) rfl rfl rfl rfl dX8_division_17
theorem e_X8_division_18 {v0 : Nat} {x0 x1 : Option Value} : Wp S N d MX8_division 18 [x0, x1] [.ref v0] I J P Q ↔ S v0 = 8 ∧ Wp S N d MX8_division 21 [x0, x1] [va_rf (P v0 7)] I J P Q := wp_getf rfl rfl rfl rfl dX8_division_18
theorem e_X8_division_21 {v0 : Nat} {x0 x1 : Option Value} : Wp S N d MX8_division 21 [x0, x1] [.ref v0] I J P Q ↔ S v0 = 1 ∧ Wp S N d MX8_division 24 [x0, x1] [.int (I v0 6)] I J P Q := wp_getf rfl rfl rfl rfl dX8_division_21
theorem e_X8_division_24 {v0 : Int32} {x0 x1 : Option Value} : Wp S N d MX8_division 24 [x0, x1] [.int v0] I J P Q ↔ Q (some (.int v0)) I J P := wp_iret rfl dX8_division_24
theorem dX8_choosesJoint_0 : decode cX8_choosesJoint 0 = .ok (.aload_n 0, 1) := by decide +kernel
theorem dX8_choosesJoint_1 : decode cX8_choosesJoint 1 = .ok (.getfield 50, 3) := by decide +kernel
theorem dX8_choosesJoint_4 : decode cX8_choosesJoint 4 = .ok (.aload_n 0, 1) := by decide +kernel
theorem dX8_choosesJoint_5 : decode cX8_choosesJoint 5 = .ok (.getfield 26, 3) := by decide +kernel
theorem dX8_choosesJoint_8 : decode cX8_choosesJoint 8 = .ok (.iload_n 1, 1) := by decide +kernel
theorem dX8_choosesJoint_9 : decode cX8_choosesJoint 9 = .ok (.aload_n 0, 1) := by decide +kernel
theorem dX8_choosesJoint_10 : decode cX8_choosesJoint 10 = .ok (.iload_n 1, 1) := by decide +kernel
theorem dX8_choosesJoint_11 : decode cX8_choosesJoint 11 = .ok (.invokevirtual 174, 3) := by decide +kernel
theorem dX8_choosesJoint_14 : decode cX8_choosesJoint 14 = .ok (.invokevirtual 197, 3) := by decide +kernel
theorem dX8_choosesJoint_17 : decode cX8_choosesJoint 17 = .ok (.aload_n 0, 1) := by decide +kernel
theorem dX8_choosesJoint_18 : decode cX8_choosesJoint 18 = .ok (.getfield 50, 3) := by decide +kernel
theorem dX8_choosesJoint_21 : decode cX8_choosesJoint 21 = .ok (.invokevirtual 210, 3) := by decide +kernel
theorem dX8_choosesJoint_24 : decode cX8_choosesJoint 24 = .ok (.ireturn, 1) := by decide +kernel
theorem c_X8_choosesJoint {a0 : Nat} {a1 : Int32} : CWp S N d MX8_choosesJoint [.ref a0, .int a1] I J P Q ↔ Wp S N d MX8_choosesJoint 0 [some (.ref a0), some (.int a1)] [] I J P Q := by
  rw [cwp_iff]
  exact ⟨fun h => h.2, fun h => ⟨Nat.le_of_ble_eq_true rfl, h⟩⟩
theorem e_X8_choosesJoint_0 {w : Nat} {x1 : Option Value} : Wp S N d MX8_choosesJoint 0 [some (.ref w), x1] [] I J P Q ↔ Wp S N d MX8_choosesJoint 1 [some (.ref w), x1] [.ref w] I J P Q := wp_lod (len := 1) rfl rfl rfl rfl dX8_choosesJoint_0
theorem e_X8_choosesJoint_1 {v0 : Nat} {x0 x1 : Option Value} : Wp S N d MX8_choosesJoint 1 [x0, x1] [.ref v0] I J P Q ↔ S v0 = 8 ∧ Wp S N d MX8_choosesJoint 4 [x0, x1] [va_rf (P v0 7)] I J P Q := wp_getf rfl rfl rfl rfl dX8_choosesJoint_1
theorem e_X8_choosesJoint_4 {v0 : Nat} {w : Nat} {x1 : Option Value} : Wp S N d MX8_choosesJoint 4 [some (.ref w), x1] [.ref v0] I J P Q ↔ Wp S N d MX8_choosesJoint 5 [some (.ref w), x1] [.ref w, .ref v0] I J P Q := wp_lod (len := 1) rfl rfl rfl rfl dX8_choosesJoint_4
theorem e_X8_choosesJoint_5 {v0 : Nat} {v1 : Nat} {x0 x1 : Option Value} : Wp S N d MX8_choosesJoint 5 [x0, x1] [.ref v0, .ref v1] I J P Q ↔ S v0 = 8 ∧ Wp S N d MX8_choosesJoint 8 [x0, x1] [va_rf (P v0 2), .ref v1] I J P Q := wp_getf rfl rfl rfl rfl dX8_choosesJoint_5
theorem e_X8_choosesJoint_8 {v0 : Nat} {v1 : Nat} {w : Int32} {x0 : Option Value} : Wp S N d MX8_choosesJoint 8 [x0, some (.int w)] [.ref v0, .ref v1] I J P Q ↔ Wp S N d MX8_choosesJoint 9 [x0, some (.int w)] [.int w, .ref v0, .ref v1] I J P Q := wp_lod (len := 1) rfl rfl rfl rfl dX8_choosesJoint_8
theorem e_X8_choosesJoint_9 {v0 : Int32} {v1 : Nat} {v2 : Nat} {w : Nat} {x1 : Option Value} : Wp S N d MX8_choosesJoint 9 [some (.ref w), x1] [.int v0, .ref v1, .ref v2] I J P Q ↔ Wp S N d MX8_choosesJoint 10 [some (.ref w), x1] [.ref w, .int v0, .ref v1, .ref v2] I J P Q := wp_lod (len := 1) rfl rfl rfl rfl dX8_choosesJoint_9
theorem e_X8_choosesJoint_10 {v0 : Nat} {v1 : Int32} {v2 : Nat} {v3 : Nat} {w : Int32} {x0 : Option Value} : Wp S N d MX8_choosesJoint 10 [x0, some (.int w)] [.ref v0, .int v1, .ref v2, .ref v3] I J P Q ↔ Wp S N d MX8_choosesJoint 11 [x0, some (.int w)] [.int w, .ref v0, .int v1, .ref v2, .ref v3] I J P Q := wp_lod (len := 1) rfl rfl rfl rfl dX8_choosesJoint_10
theorem e_X8_choosesJoint_11 {v0 : Int32} {v1 : Nat} {v2 : Int32} {v3 : Nat} {v4 : Nat} {x0 x1 : Option Value} : Wp S N (d + 1) MX8_choosesJoint 11 [x0, x1] [.int v0, .ref v1, .int v2, .ref v3, .ref v4] I J P Q ↔ S v1 = 8 ∧ CWp S N d MX8_requirePartner [.ref v1, .int v0] I J P (fun r I1 J1 P1 => Wp S N (d + 1) MX8_choosesJoint 14 [x0, x1] (r.toList ++ [.int v2, .ref v3, .ref v4]) I1 J1 P1 Q) := wp_callV (M' := MX8_requirePartner) (As := [.int v0]) rfl rfl rfl rfl (by decide) (Nat.le_of_ble_eq_true rfl) dX8_choosesJoint_11
theorem e_X8_choosesJoint_14 {v0 : Int32} {v1 : Int32} {v2 : Nat} {v3 : Nat} {x0 x1 : Option Value} : Wp S N (d + 1) MX8_choosesJoint 14 [x0, x1] [.int v0, .int v1, .ref v2, .ref v3] I J P Q ↔ S v3 = 1 ∧ CWp S N d MX1_settle [.ref v3, .ref v2, .int v1, .int v0] I J P (fun r I1 J1 P1 => Wp S N (d + 1) MX8_choosesJoint 17 [x0, x1] (r.toList ++ []) I1 J1 P1 Q) := wp_callV (M' := MX1_settle) (As := [.ref v2, .int v1, .int v0]) rfl rfl rfl rfl (by decide) (Nat.le_of_ble_eq_true rfl) dX8_choosesJoint_14
theorem e_X8_choosesJoint_17 {w : Nat} {x1 : Option Value} : Wp S N d MX8_choosesJoint 17 [some (.ref w), x1] [] I J P Q ↔ Wp S N d MX8_choosesJoint 18 [some (.ref w), x1] [.ref w] I J P Q := wp_lod (len := 1) rfl rfl rfl rfl dX8_choosesJoint_17
theorem e_X8_choosesJoint_18 {v0 : Nat} {x0 x1 : Option Value} : Wp S N d MX8_choosesJoint 18 [x0, x1] [.ref v0] I J P Q ↔ S v0 = 8 ∧ Wp S N d MX8_choosesJoint 21 [x0, x1] [va_rf (P v0 7)] I J P Q := wp_getf rfl rfl rfl rfl dX8_choosesJoint_18
theorem e_X8_choosesJoint_21 {v0 : Nat} {x0 x1 : Option Value} : Wp S N (d + 1) MX8_choosesJoint 21 [x0, x1] [.ref v0] I J P Q ↔ S v0 = 1 ∧ CWp S N d MX1_prefersTogether [.ref v0] I J P (fun r I1 J1 P1 => Wp S N (d + 1) MX8_choosesJoint 24 [x0, x1] (r.toList ++ []) I1 J1 P1 Q) := wp_callV (M' := MX1_prefersTogether) (As := []) rfl rfl rfl rfl (by decide) (Nat.le_of_ble_eq_true rfl) dX8_choosesJoint_21
theorem e_X8_choosesJoint_24 {v0 : Int32} (hb : isB v0) {x0 x1 : Option Value} : Wp S N d MX8_choosesJoint 24 [x0, x1] [.int v0] I J P Q ↔ Q (some (.int v0)) I J P := wp_zret rfl dX8_choosesJoint_24 hb
theorem dX8_householdTax_0 : decode cX8_householdTax 0 = .ok (.aload_n 0, 1) := by decide +kernel
theorem dX8_householdTax_1 : decode cX8_householdTax 1 = .ok (.iload_n 1, 1) := by decide +kernel
theorem dX8_householdTax_2 : decode cX8_householdTax 2 = .ok (.bipush 6, 2) := by decide +kernel
theorem dX8_householdTax_4 : decode cX8_householdTax 4 = .ok (.invokevirtual 123, 3) := by decide +kernel
theorem dX8_householdTax_7 : decode cX8_householdTax 7 = .ok (.aload_n 0, 1) := by decide +kernel
theorem dX8_householdTax_8 : decode cX8_householdTax 8 = .ok (.iload_n 1, 1) := by decide +kernel
theorem dX8_householdTax_9 : decode cX8_householdTax 9 = .ok (.invokevirtual 214, 3) := by decide +kernel
theorem dX8_householdTax_12 : decode cX8_householdTax 12 = .ok (.lreturn, 1) := by decide +kernel
theorem c_X8_householdTax {a0 : Nat} {a1 : Int32} : CWp S N d MX8_householdTax [.ref a0, .int a1] I J P Q ↔ Wp S N d MX8_householdTax 0 [some (.ref a0), some (.int a1)] [] I J P Q := by
  rw [cwp_iff]
  exact ⟨fun h => h.2, fun h => ⟨Nat.le_of_ble_eq_true rfl, h⟩⟩
theorem e_X8_householdTax_0 {w : Nat} {x1 : Option Value} : Wp S N d MX8_householdTax 0 [some (.ref w), x1] [] I J P Q ↔ Wp S N d MX8_householdTax 1 [some (.ref w), x1] [.ref w] I J P Q := wp_lod (len := 1) rfl rfl rfl rfl dX8_householdTax_0
theorem e_X8_householdTax_1 {v0 : Nat} {w : Int32} {x0 : Option Value} : Wp S N d MX8_householdTax 1 [x0, some (.int w)] [.ref v0] I J P Q ↔ Wp S N d MX8_householdTax 2 [x0, some (.int w)] [.int w, .ref v0] I J P Q := wp_lod (len := 1) rfl rfl rfl rfl dX8_householdTax_1
theorem e_X8_householdTax_2 {v0 : Int32} {v1 : Nat} {x0 x1 : Option Value} : Wp S N d MX8_householdTax 2 [x0, x1] [.int v0, .ref v1] I J P Q ↔ Wp S N d MX8_householdTax 4 [x0, x1] [.int 6, .int v0, .ref v1] I J P Q := wp_bipush (by decide) dX8_householdTax_2
theorem e_X8_householdTax_4 {v0 : Int32} {v1 : Int32} {v2 : Nat} {x0 x1 : Option Value} : Wp S N (d + 1) MX8_householdTax 4 [x0, x1] [.int v0, .int v1, .ref v2] I J P Q ↔ S v2 = 8 ∧ CWp S N d MX8_requireIndex [.ref v2, .int v1, .int v0] I J P (fun r I1 J1 P1 => Wp S N (d + 1) MX8_householdTax 7 [x0, x1] (r.toList ++ []) I1 J1 P1 Q) := wp_callV (M' := MX8_requireIndex) (As := [.int v1, .int v0]) rfl rfl rfl rfl (by decide) (Nat.le_of_ble_eq_true rfl) dX8_householdTax_4
theorem e_X8_householdTax_7 {w : Nat} {x1 : Option Value} : Wp S N d MX8_householdTax 7 [some (.ref w), x1] [] I J P Q ↔ Wp S N d MX8_householdTax 8 [some (.ref w), x1] [.ref w] I J P Q := wp_lod (len := 1) rfl rfl rfl rfl dX8_householdTax_7
theorem e_X8_householdTax_8 {v0 : Nat} {w : Int32} {x0 : Option Value} : Wp S N d MX8_householdTax 8 [x0, some (.int w)] [.ref v0] I J P Q ↔ Wp S N d MX8_householdTax 9 [x0, some (.int w)] [.int w, .ref v0] I J P Q := wp_lod (len := 1) rfl rfl rfl rfl dX8_householdTax_8
theorem e_X8_householdTax_9 {v0 : Int32} {v1 : Nat} {x0 x1 : Option Value} : Wp S N (d + 1) MX8_householdTax 9 [x0, x1] [.int v0, .ref v1] I J P Q ↔ S v1 = 8 ∧ CWp S N d MX8_chosenTax [.ref v1, .int v0] I J P (fun r I1 J1 P1 => Wp S N (d + 1) MX8_householdTax 12 [x0, x1] (r.toList ++ []) I1 J1 P1 Q) := wp_callV (M' := MX8_chosenTax) (As := [.int v0]) rfl rfl rfl rfl (by decide) (Nat.le_of_ble_eq_true rfl) dX8_householdTax_9
theorem e_X8_householdTax_12 {v0 : Int64} {x0 x1 : Option Value} : Wp S N d MX8_householdTax 12 [x0, x1] [.long v0] I J P Q ↔ Q (some (.long v0)) I J P := wp_lret rfl dX8_householdTax_12
theorem dX8_totalTax_0 : decode cX8_totalTax 0 = .ok (.lconst 0, 1) := by decide +kernel
theorem dX8_totalTax_1 : decode cX8_totalTax 1 = .ok (.lstore_n 1, 1) := by decide +kernel
theorem dX8_totalTax_2 : decode cX8_totalTax 2 = .ok (.iconst 0, 1) := by decide +kernel
theorem dX8_totalTax_3 : decode cX8_totalTax 3 = .ok (.istore_n 3, 1) := by decide +kernel
theorem dX8_totalTax_4 : decode cX8_totalTax 4 = .ok (.iload_n 3, 1) := by decide +kernel
theorem dX8_totalTax_5 : decode cX8_totalTax 5 = .ok (.bipush 6, 2) := by decide +kernel
theorem dX8_totalTax_7 : decode cX8_totalTax 7 = .ok (.if_icmp .ge 25, 3) := by decide +kernel
theorem dX8_totalTax_10 : decode cX8_totalTax 10 = .ok (.aload_n 0, 1) := by decide +kernel
theorem dX8_totalTax_11 : decode cX8_totalTax 11 = .ok (.iload_n 3, 1) := by decide +kernel
theorem dX8_totalTax_12 : decode cX8_totalTax 12 = .ok (.invokevirtual 218, 3) := by decide +kernel
theorem dX8_totalTax_15 : decode cX8_totalTax 15 = .ok (.ifCond .ne 11, 3) := by decide +kernel
theorem dX8_totalTax_18 : decode cX8_totalTax 18 = .ok (.lload_n 1, 1) := by decide +kernel
theorem dX8_totalTax_19 : decode cX8_totalTax 19 = .ok (.aload_n 0, 1) := by decide +kernel
theorem dX8_totalTax_20 : decode cX8_totalTax 20 = .ok (.iload_n 3, 1) := by decide +kernel
theorem dX8_totalTax_21 : decode cX8_totalTax 21 = .ok (.invokevirtual 214, 3) := by decide +kernel
theorem dX8_totalTax_24 : decode cX8_totalTax 24 = .ok (.ladd, 1) := by decide +kernel
theorem dX8_totalTax_25 : decode cX8_totalTax 25 = .ok (.lstore_n 1, 1) := by decide +kernel
theorem dX8_totalTax_26 : decode cX8_totalTax 26 = .ok (.iinc 3 1, 3) := by decide +kernel
theorem dX8_totalTax_29 : decode cX8_totalTax 29 = .ok (.goto (-25), 3) := by decide +kernel
theorem dX8_totalTax_32 : decode cX8_totalTax 32 = .ok (.lload_n 1, 1) := by decide +kernel
theorem dX8_totalTax_33 : decode cX8_totalTax 33 = .ok (.lreturn, 1) := by decide +kernel
theorem c_X8_totalTax {a0 : Nat} : CWp S N d MX8_totalTax [.ref a0] I J P Q ↔ Wp S N d MX8_totalTax 0 [some (.ref a0), none, none, none] [] I J P Q := by
  rw [cwp_iff]
  exact ⟨fun h => h.2, fun h => ⟨Nat.le_of_ble_eq_true rfl, h⟩⟩
theorem e_X8_totalTax_0  {x0 x1 x2 x3 : Option Value} : Wp S N d MX8_totalTax 0 [x0, x1, x2, x3] [] I J P Q ↔ Wp S N d MX8_totalTax 1 [x0, x1, x2, x3] [.long 0] I J P Q := wp_lconst (by decide) dX8_totalTax_0
theorem e_X8_totalTax_1 {v0 : Int64} {x0 x1 x2 x3 : Option Value} : Wp S N d MX8_totalTax 1 [x0, x1, x2, x3] [.long v0] I J P Q ↔ Wp S N d MX8_totalTax 2 [kl x0, some (.long v0), none, x3] [] I J P Q := wp_sto (len := 1) rfl rfl rfl rfl (Nat.le_of_ble_eq_true rfl) rfl dX8_totalTax_1
theorem e_X8_totalTax_2  {x0 x1 x2 x3 : Option Value} : Wp S N d MX8_totalTax 2 [x0, x1, x2, x3] [] I J P Q ↔ Wp S N d MX8_totalTax 3 [x0, x1, x2, x3] [.int 0] I J P Q := wp_iconst (by decide) dX8_totalTax_2
theorem e_X8_totalTax_3 {v0 : Int32} {x0 x1 x2 x3 : Option Value} : Wp S N d MX8_totalTax 3 [x0, x1, x2, x3] [.int v0] I J P Q ↔ Wp S N d MX8_totalTax 4 [x0, x1, kl x2, some (.int v0)] [] I J P Q := wp_sto (len := 1) rfl rfl rfl rfl (Nat.le_of_ble_eq_true rfl) rfl dX8_totalTax_3
theorem e_X8_totalTax_4 {w : Int32} {x0 x1 x2 : Option Value} : Wp S N d MX8_totalTax 4 [x0, x1, x2, some (.int w)] [] I J P Q ↔ Wp S N d MX8_totalTax 5 [x0, x1, x2, some (.int w)] [.int w] I J P Q := wp_lod (len := 1) rfl rfl rfl rfl dX8_totalTax_4
theorem e_X8_totalTax_5 {v0 : Int32} {x0 x1 x2 x3 : Option Value} : Wp S N d MX8_totalTax 5 [x0, x1, x2, x3] [.int v0] I J P Q ↔ Wp S N d MX8_totalTax 7 [x0, x1, x2, x3] [.int 6, .int v0] I J P Q := wp_bipush (by decide) dX8_totalTax_5
theorem e_X8_totalTax_7 {v0 : Int32} {v1 : Int32} {x0 x1 x2 x3 : Option Value} : Wp S N d MX8_totalTax 7 [x0, x1, x2, x3] [.int v0, .int v1] I J P Q ↔ (v0 ≤ v1 → Wp S N d MX8_totalTax 32 [x0, x1, x2, x3] [] I J P Q) ∧ (¬ v0 ≤ v1 → Wp S N d MX8_totalTax 10 [x0, x1, x2, x3] [] I J P Q) := wp_br rfl rfl (by decide) dX8_totalTax_7
theorem e_X8_totalTax_10 {w : Nat} {x1 x2 x3 : Option Value} : Wp S N d MX8_totalTax 10 [some (.ref w), x1, x2, x3] [] I J P Q ↔ Wp S N d MX8_totalTax 11 [some (.ref w), x1, x2, x3] [.ref w] I J P Q := wp_lod (len := 1) rfl rfl rfl rfl dX8_totalTax_10
theorem e_X8_totalTax_11 {v0 : Nat} {w : Int32} {x0 x1 x2 : Option Value} : Wp S N d MX8_totalTax 11 [x0, x1, x2, some (.int w)] [.ref v0] I J P Q ↔ Wp S N d MX8_totalTax 12 [x0, x1, x2, some (.int w)] [.int w, .ref v0] I J P Q := wp_lod (len := 1) rfl rfl rfl rfl dX8_totalTax_11
theorem e_X8_totalTax_12 {v0 : Int32} {v1 : Nat} {x0 x1 x2 x3 : Option Value} : Wp S N (d + 1) MX8_totalTax 12 [x0, x1, x2, x3] [.int v0, .ref v1] I J P Q ↔ S v1 = 8 ∧ CWp S N d MX8_isSecond [.ref v1, .int v0] I J P (fun r I1 J1 P1 => Wp S N (d + 1) MX8_totalTax 15 [x0, x1, x2, x3] (r.toList ++ []) I1 J1 P1 Q) := wp_callV (M' := MX8_isSecond) (As := [.int v0]) rfl rfl rfl rfl (by decide) (Nat.le_of_ble_eq_true rfl) dX8_totalTax_12
theorem e_X8_totalTax_15 {v0 : Int32} {x0 x1 x2 x3 : Option Value} : Wp S N d MX8_totalTax 15 [x0, x1, x2, x3] [.int v0] I J P Q ↔ (¬ v0 = 0 → Wp S N d MX8_totalTax 26 [x0, x1, x2, x3] [] I J P Q) ∧ (v0 = 0 → Wp S N d MX8_totalTax 18 [x0, x1, x2, x3] [] I J P Q) := wp_brn rfl rfl (by decide) dX8_totalTax_15
theorem e_X8_totalTax_18 {w : Int64} {x0 x2 x3 : Option Value} : Wp S N d MX8_totalTax 18 [x0, some (.long w), x2, x3] [] I J P Q ↔ Wp S N d MX8_totalTax 19 [x0, some (.long w), x2, x3] [.long w] I J P Q := wp_lod (len := 1) rfl rfl rfl rfl dX8_totalTax_18
theorem e_X8_totalTax_19 {v0 : Int64} {w : Nat} {x1 x2 x3 : Option Value} : Wp S N d MX8_totalTax 19 [some (.ref w), x1, x2, x3] [.long v0] I J P Q ↔ Wp S N d MX8_totalTax 20 [some (.ref w), x1, x2, x3] [.ref w, .long v0] I J P Q := wp_lod (len := 1) rfl rfl rfl rfl dX8_totalTax_19
theorem e_X8_totalTax_20 {v0 : Nat} {v1 : Int64} {w : Int32} {x0 x1 x2 : Option Value} : Wp S N d MX8_totalTax 20 [x0, x1, x2, some (.int w)] [.ref v0, .long v1] I J P Q ↔ Wp S N d MX8_totalTax 21 [x0, x1, x2, some (.int w)] [.int w, .ref v0, .long v1] I J P Q := wp_lod (len := 1) rfl rfl rfl rfl dX8_totalTax_20
theorem e_X8_totalTax_21 {v0 : Int32} {v1 : Nat} {v2 : Int64} {x0 x1 x2 x3 : Option Value} : Wp S N (d + 1) MX8_totalTax 21 [x0, x1, x2, x3] [.int v0, .ref v1, .long v2] I J P Q ↔ S v1 = 8 ∧ CWp S N d MX8_chosenTax [.ref v1, .int v0] I J P (fun r I1 J1 P1 => Wp S N (d + 1) MX8_totalTax 24 [x0, x1, x2, x3] (r.toList ++ [.long v2]) I1 J1 P1 Q) := wp_callV (M' := MX8_chosenTax) (As := [.int v0]) rfl rfl rfl rfl (by decide) (Nat.le_of_ble_eq_true rfl) dX8_totalTax_21
theorem e_X8_totalTax_24 {v0 : Int64} {v1 : Int64} {x0 x1 x2 x3 : Option Value} : Wp S N d MX8_totalTax 24 [x0, x1, x2, x3] [.long v0, .long v1] I J P Q ↔ Wp S N d MX8_totalTax 25 [x0, x1, x2, x3] [.long (v1 + v0)] I J P Q := wp_alu (len := 1) rfl rfl rfl dX8_totalTax_24
theorem e_X8_totalTax_25 {v0 : Int64} {x0 x1 x2 x3 : Option Value} : Wp S N d MX8_totalTax 25 [x0, x1, x2, x3] [.long v0] I J P Q ↔ Wp S N d MX8_totalTax 26 [kl x0, some (.long v0), none, x3] [] I J P Q := wp_sto (len := 1) rfl rfl rfl rfl (Nat.le_of_ble_eq_true rfl) rfl dX8_totalTax_25
theorem e_X8_totalTax_26 {w : Int32} {x0 x1 x2 : Option Value} : Wp S N d MX8_totalTax 26 [x0, x1, x2, some (.int w)] [] I J P Q ↔ Wp S N d MX8_totalTax 29 [x0, x1, kl x2, some (.int (w + 1))] [] I J P Q := wp_inc rfl rfl dX8_totalTax_26
theorem e_X8_totalTax_29  {x0 x1 x2 x3 : Option Value} : Wp S N d MX8_totalTax 29 [x0, x1, x2, x3] [] I J P Q ↔ Wp S N d MX8_totalTax 4 [x0, x1, x2, x3] [] I J P Q := wp_go (len := 3) rfl (fun _ _ => rfl) rfl (by decide) dX8_totalTax_29
theorem e_X8_totalTax_32 {w : Int64} {x0 x2 x3 : Option Value} : Wp S N d MX8_totalTax 32 [x0, some (.long w), x2, x3] [] I J P Q ↔ Wp S N d MX8_totalTax 33 [x0, some (.long w), x2, x3] [.long w] I J P Q := wp_lod (len := 1) rfl rfl rfl rfl dX8_totalTax_32
theorem e_X8_totalTax_33 {v0 : Int64} {x0 x1 x2 x3 : Option Value} : Wp S N d MX8_totalTax 33 [x0, x1, x2, x3] [.long v0] I J P Q ↔ Q (some (.long v0)) I J P := wp_lret rfl dX8_totalTax_33
theorem dX8_closeYear_0 : decode cX8_closeYear 0 = .ok (.aload_n 0, 1) := by decide +kernel
theorem dX8_closeYear_1 : decode cX8_closeYear 1 = .ok (.getfield 36, 3) := by decide +kernel
theorem dX8_closeYear_4 : decode cX8_closeYear 4 = .ok (.aload_n 0, 1) := by decide +kernel
theorem dX8_closeYear_5 : decode cX8_closeYear 5 = .ok (.getfield 26, 3) := by decide +kernel
theorem dX8_closeYear_8 : decode cX8_closeYear 8 = .ok (.invokevirtual 104, 3) := by decide +kernel
theorem dX8_closeYear_11 : decode cX8_closeYear 11 = .ok (.iconst 0, 1) := by decide +kernel
theorem dX8_closeYear_12 : decode cX8_closeYear 12 = .ok (.istore_n 1, 1) := by decide +kernel
theorem dX8_closeYear_13 : decode cX8_closeYear 13 = .ok (.iload_n 1, 1) := by decide +kernel
theorem dX8_closeYear_14 : decode cX8_closeYear 14 = .ok (.bipush 6, 2) := by decide +kernel
theorem dX8_closeYear_16 : decode cX8_closeYear 16 = .ok (.if_icmp .ge 81, 3) := by decide +kernel
theorem dX8_closeYear_19 : decode cX8_closeYear 19 = .ok (.aload_n 0, 1) := by decide +kernel
theorem dX8_closeYear_20 : decode cX8_closeYear 20 = .ok (.getfield 26, 3) := by decide +kernel
theorem dX8_closeYear_23 : decode cX8_closeYear 23 = .ok (.getfield 169, 3) := by decide +kernel
theorem dX8_closeYear_26 : decode cX8_closeYear 26 = .ok (.iload_n 1, 1) := by decide +kernel
theorem dX8_closeYear_27 : decode cX8_closeYear 27 = .ok (.iaload, 1) := by decide +kernel
theorem dX8_closeYear_28 : decode cX8_closeYear 28 = .ok (.iconst (-1), 1) := by decide +kernel
theorem dX8_closeYear_29 : decode cX8_closeYear 29 = .ok (.if_icmp .ne 22, 3) := by decide +kernel
theorem dX8_closeYear_32 : decode cX8_closeYear 32 = .ok (.aload_n 0, 1) := by decide +kernel
theorem dX8_closeYear_33 : decode cX8_closeYear 33 = .ok (.getfield 26, 3) := by decide +kernel
theorem dX8_closeYear_36 : decode cX8_closeYear 36 = .ok (.getfield 80, 3) := by decide +kernel
theorem dX8_closeYear_39 : decode cX8_closeYear 39 = .ok (.iload_n 1, 1) := by decide +kernel
theorem dX8_closeYear_40 : decode cX8_closeYear 40 = .ok (.aload_n 0, 1) := by decide +kernel
theorem dX8_closeYear_41 : decode cX8_closeYear 41 = .ok (.iload_n 1, 1) := by decide +kernel
theorem dX8_closeYear_42 : decode cX8_closeYear 42 = .ok (.invokevirtual 178, 3) := by decide +kernel
theorem dX8_closeYear_45 : decode cX8_closeYear 45 = .ok (.invokevirtual 222, 3) := by decide +kernel
theorem dX8_closeYear_48 : decode cX8_closeYear 48 = .ok (.goto 43, 3) := by decide +kernel
theorem dX8_closeYear_51 : decode cX8_closeYear 51 = .ok (.aload_n 0, 1) := by decide +kernel
theorem dX8_closeYear_52 : decode cX8_closeYear 52 = .ok (.iload_n 1, 1) := by decide +kernel
theorem dX8_closeYear_53 : decode cX8_closeYear 53 = .ok (.invokevirtual 218, 3) := by decide +kernel
theorem dX8_closeYear_56 : decode cX8_closeYear 56 = .ok (.ifCond .ne 35, 3) := by decide +kernel
theorem dX8_closeYear_59 : decode cX8_closeYear 59 = .ok (.aload_n 0, 1) := by decide +kernel
theorem dX8_closeYear_60 : decode cX8_closeYear 60 = .ok (.getfield 50, 3) := by decide +kernel
theorem dX8_closeYear_63 : decode cX8_closeYear 63 = .ok (.aload_n 0, 1) := by decide +kernel
theorem dX8_closeYear_64 : decode cX8_closeYear 64 = .ok (.getfield 26, 3) := by decide +kernel
theorem dX8_closeYear_67 : decode cX8_closeYear 67 = .ok (.iload_n 1, 1) := by decide +kernel
theorem dX8_closeYear_68 : decode cX8_closeYear 68 = .ok (.aload_n 0, 1) := by decide +kernel
theorem dX8_closeYear_69 : decode cX8_closeYear 69 = .ok (.getfield 26, 3) := by decide +kernel
theorem dX8_closeYear_72 : decode cX8_closeYear 72 = .ok (.getfield 169, 3) := by decide +kernel
theorem dX8_closeYear_75 : decode cX8_closeYear 75 = .ok (.iload_n 1, 1) := by decide +kernel
theorem dX8_closeYear_76 : decode cX8_closeYear 76 = .ok (.iaload, 1) := by decide +kernel
theorem dX8_closeYear_77 : decode cX8_closeYear 77 = .ok (.invokevirtual 197, 3) := by decide +kernel
theorem dX8_closeYear_80 : decode cX8_closeYear 80 = .ok (.aload_n 0, 1) := by decide +kernel
theorem dX8_closeYear_81 : decode cX8_closeYear 81 = .ok (.getfield 50, 3) := by decide +kernel
theorem dX8_closeYear_84 : decode cX8_closeYear 84 = .ok (.aload_n 0, 1) := by decide +kernel
theorem dX8_closeYear_85 : decode cX8_closeYear 85 = .ok (.getfield 26, 3) := by decide +kernel
theorem dX8_closeYear_88 : decode cX8_closeYear 88 = .ok (.invokevirtual 226, 3) := by decide +kernel
theorem dX8_closeYear_91 : decode cX8_closeYear 91 = .ok (.iinc 1 1, 3) := by decide +kernel
theorem dX8_closeYear_94 : decode cX8_closeYear 94 = .ok (.goto (-81), 3) := by decide +kernel
theorem dX8_closeYear_97 : decode cX8_closeYear 97 = .ok (.aload_n 0, 1) := by decide +kernel
theorem dX8_closeYear_98 : decode cX8_closeYear 98 = .ok (.getfield 26, 3) := by decide +kernel
theorem dX8_closeYear_101 : decode cX8_closeYear 101 = .ok (.dup, 1) := by decide +kernel
theorem dX8_closeYear_102 : decode cX8_closeYear 102 = .ok (.getfield 229, 3) := by decide +kernel
theorem dX8_closeYear_105 : decode cX8_closeYear 105 = .ok (.iconst 1, 1) := by decide +kernel
theorem dX8_closeYear_106 : decode cX8_closeYear 106 = .ok (.iadd, 1) := by decide +kernel
theorem dX8_closeYear_107 : decode cX8_closeYear 107 = .ok (.putfield 229, 3) := by decide +kernel
theorem dX8_closeYear_110 : decode cX8_closeYear 110 = .ok (.aload_n 0, 1) := by decide +kernel
theorem dX8_closeYear_111 : decode cX8_closeYear 111 = .ok (.getfield 26, 3) := by decide +kernel
theorem dX8_closeYear_114 : decode cX8_closeYear 114 = .ok (.getfield 229, 3) := by decide +kernel
theorem dX8_closeYear_117 : decode cX8_closeYear 117 = .ok (.ireturn, 1) := by decide +kernel
theorem c_X8_closeYear {a0 : Nat} : CWp S N d MX8_closeYear [.ref a0] I J P Q ↔ Wp S N d MX8_closeYear 0 [some (.ref a0), none] [] I J P Q := by
  rw [cwp_iff]
  exact ⟨fun h => h.2, fun h => ⟨Nat.le_of_ble_eq_true rfl, h⟩⟩
theorem e_X8_closeYear_0 {w : Nat} {x1 : Option Value} : Wp S N d MX8_closeYear 0 [some (.ref w), x1] [] I J P Q ↔ Wp S N d MX8_closeYear 1 [some (.ref w), x1] [.ref w] I J P Q := wp_lod (len := 1) rfl rfl rfl rfl dX8_closeYear_0
theorem e_X8_closeYear_1 {v0 : Nat} {x0 x1 : Option Value} : Wp S N d MX8_closeYear 1 [x0, x1] [.ref v0] I J P Q ↔ S v0 = 8 ∧ Wp S N d MX8_closeYear 4 [x0, x1] [va_rf (P v0 5)] I J P Q := wp_getf rfl rfl rfl rfl dX8_closeYear_1
theorem e_X8_closeYear_4 {v0 : Nat} {w : Nat} {x1 : Option Value} : Wp S N d MX8_closeYear 4 [some (.ref w), x1] [.ref v0] I J P Q ↔ Wp S N d MX8_closeYear 5 [some (.ref w), x1] [.ref w, .ref v0] I J P Q := wp_lod (len := 1) rfl rfl rfl rfl dX8_closeYear_4
theorem e_X8_closeYear_5 {v0 : Nat} {v1 : Nat} {x0 x1 : Option Value} : Wp S N d MX8_closeYear 5 [x0, x1] [.ref v0, .ref v1] I J P Q ↔ S v0 = 8 ∧ Wp S N d MX8_closeYear 8 [x0, x1] [va_rf (P v0 2), .ref v1] I J P Q := wp_getf rfl rfl rfl rfl dX8_closeYear_5
theorem e_X8_closeYear_8 {v0 : Nat} {v1 : Nat} {x0 x1 : Option Value} : Wp S N (d + 1) MX8_closeYear 8 [x0, x1] [.ref v0, .ref v1] I J P Q ↔ S v1 = 4 ∧ CWp S N d MX4_remember [.ref v1, .ref v0] I J P (fun r I1 J1 P1 => Wp S N (d + 1) MX8_closeYear 11 [x0, x1] (r.toList ++ []) I1 J1 P1 Q) := wp_callV (M' := MX4_remember) (As := [.ref v0]) rfl rfl rfl rfl (by decide) (Nat.le_of_ble_eq_true rfl) dX8_closeYear_8
theorem e_X8_closeYear_11  {x0 x1 : Option Value} : Wp S N d MX8_closeYear 11 [x0, x1] [] I J P Q ↔ Wp S N d MX8_closeYear 12 [x0, x1] [.int 0] I J P Q := wp_iconst (by decide) dX8_closeYear_11
theorem e_X8_closeYear_12 {v0 : Int32} {x0 x1 : Option Value} : Wp S N d MX8_closeYear 12 [x0, x1] [.int v0] I J P Q ↔ Wp S N d MX8_closeYear 13 [kl x0, some (.int v0)] [] I J P Q := wp_sto (len := 1) rfl rfl rfl rfl (Nat.le_of_ble_eq_true rfl) rfl dX8_closeYear_12
theorem e_X8_closeYear_13 {w : Int32} {x0 : Option Value} : Wp S N d MX8_closeYear 13 [x0, some (.int w)] [] I J P Q ↔ Wp S N d MX8_closeYear 14 [x0, some (.int w)] [.int w] I J P Q := wp_lod (len := 1) rfl rfl rfl rfl dX8_closeYear_13
theorem e_X8_closeYear_14 {v0 : Int32} {x0 x1 : Option Value} : Wp S N d MX8_closeYear 14 [x0, x1] [.int v0] I J P Q ↔ Wp S N d MX8_closeYear 16 [x0, x1] [.int 6, .int v0] I J P Q := wp_bipush (by decide) dX8_closeYear_14
theorem e_X8_closeYear_16 {v0 : Int32} {v1 : Int32} {x0 x1 : Option Value} : Wp S N d MX8_closeYear 16 [x0, x1] [.int v0, .int v1] I J P Q ↔ (v0 ≤ v1 → Wp S N d MX8_closeYear 97 [x0, x1] [] I J P Q) ∧ (¬ v0 ≤ v1 → Wp S N d MX8_closeYear 19 [x0, x1] [] I J P Q) := wp_br rfl rfl (by decide) dX8_closeYear_16
theorem e_X8_closeYear_19 {w : Nat} {x1 : Option Value} : Wp S N d MX8_closeYear 19 [some (.ref w), x1] [] I J P Q ↔ Wp S N d MX8_closeYear 20 [some (.ref w), x1] [.ref w] I J P Q := wp_lod (len := 1) rfl rfl rfl rfl dX8_closeYear_19
theorem e_X8_closeYear_20 {v0 : Nat} {x0 x1 : Option Value} : Wp S N d MX8_closeYear 20 [x0, x1] [.ref v0] I J P Q ↔ S v0 = 8 ∧ Wp S N d MX8_closeYear 23 [x0, x1] [va_rf (P v0 2)] I J P Q := wp_getf rfl rfl rfl rfl dX8_closeYear_20
theorem e_X8_closeYear_23 {v0 : Nat} {x0 x1 : Option Value} : Wp S N d MX8_closeYear 23 [x0, x1] [.ref v0] I J P Q ↔ S v0 = 5 ∧ Wp S N d MX8_closeYear 26 [x0, x1] [va_rf (P v0 4)] I J P Q := wp_getf rfl rfl rfl rfl dX8_closeYear_23
theorem e_X8_closeYear_26 {v0 : Nat} {w : Int32} {x0 : Option Value} : Wp S N d MX8_closeYear 26 [x0, some (.int w)] [.ref v0] I J P Q ↔ Wp S N d MX8_closeYear 27 [x0, some (.int w)] [.int w, .ref v0] I J P Q := wp_lod (len := 1) rfl rfl rfl rfl dX8_closeYear_26
theorem e_X8_closeYear_27 {v0 : Int32} {v1 : Nat} {x0 x1 : Option Value} : Wp S N d MX8_closeYear 27 [x0, x1] [.int v0, .ref v1] I J P Q ↔ (S v1 = 10 ∧ vp_in v0 (N v1)) ∧ Wp S N d MX8_closeYear 28 [x0, x1] [.int (I v1 v0.toNatClampNeg)] I J P Q := wp_ald rfl rfl dX8_closeYear_27
theorem e_X8_closeYear_28 {v0 : Int32} {x0 x1 : Option Value} : Wp S N d MX8_closeYear 28 [x0, x1] [.int v0] I J P Q ↔ Wp S N d MX8_closeYear 29 [x0, x1] [.int (-1), .int v0] I J P Q := wp_iconst (by decide) dX8_closeYear_28
theorem e_X8_closeYear_29 {v0 : Int32} {v1 : Int32} {x0 x1 : Option Value} : Wp S N d MX8_closeYear 29 [x0, x1] [.int v0, .int v1] I J P Q ↔ (¬ v1 = v0 → Wp S N d MX8_closeYear 51 [x0, x1] [] I J P Q) ∧ (v1 = v0 → Wp S N d MX8_closeYear 32 [x0, x1] [] I J P Q) := wp_brn rfl rfl (by decide) dX8_closeYear_29
theorem e_X8_closeYear_32 {w : Nat} {x1 : Option Value} : Wp S N d MX8_closeYear 32 [some (.ref w), x1] [] I J P Q ↔ Wp S N d MX8_closeYear 33 [some (.ref w), x1] [.ref w] I J P Q := wp_lod (len := 1) rfl rfl rfl rfl dX8_closeYear_32
theorem e_X8_closeYear_33 {v0 : Nat} {x0 x1 : Option Value} : Wp S N d MX8_closeYear 33 [x0, x1] [.ref v0] I J P Q ↔ S v0 = 8 ∧ Wp S N d MX8_closeYear 36 [x0, x1] [va_rf (P v0 2)] I J P Q := wp_getf rfl rfl rfl rfl dX8_closeYear_33
theorem e_X8_closeYear_36 {v0 : Nat} {x0 x1 : Option Value} : Wp S N d MX8_closeYear 36 [x0, x1] [.ref v0] I J P Q ↔ S v0 = 5 ∧ Wp S N d MX8_closeYear 39 [x0, x1] [va_rf (P v0 0)] I J P Q := wp_getf rfl rfl rfl rfl dX8_closeYear_36
theorem e_X8_closeYear_39 {v0 : Nat} {w : Int32} {x0 : Option Value} : Wp S N d MX8_closeYear 39 [x0, some (.int w)] [.ref v0] I J P Q ↔ Wp S N d MX8_closeYear 40 [x0, some (.int w)] [.int w, .ref v0] I J P Q := wp_lod (len := 1) rfl rfl rfl rfl dX8_closeYear_39
theorem e_X8_closeYear_40 {v0 : Int32} {v1 : Nat} {w : Nat} {x1 : Option Value} : Wp S N d MX8_closeYear 40 [some (.ref w), x1] [.int v0, .ref v1] I J P Q ↔ Wp S N d MX8_closeYear 41 [some (.ref w), x1] [.ref w, .int v0, .ref v1] I J P Q := wp_lod (len := 1) rfl rfl rfl rfl dX8_closeYear_40
theorem e_X8_closeYear_41 {v0 : Nat} {v1 : Int32} {v2 : Nat} {w : Int32} {x0 : Option Value} : Wp S N d MX8_closeYear 41 [x0, some (.int w)] [.ref v0, .int v1, .ref v2] I J P Q ↔ Wp S N d MX8_closeYear 42 [x0, some (.int w)] [.int w, .ref v0, .int v1, .ref v2] I J P Q := wp_lod (len := 1) rfl rfl rfl rfl dX8_closeYear_41
theorem e_X8_closeYear_42 {v0 : Int32} {v1 : Nat} {v2 : Int32} {v3 : Nat} {x0 x1 : Option Value} : Wp S N (d + 1) MX8_closeYear 42 [x0, x1] [.int v0, .ref v1, .int v2, .ref v3] I J P Q ↔ S v1 = 8 ∧ CWp S N d MX8_assessAlone [.ref v1, .int v0] I J P (fun r I1 J1 P1 => Wp S N (d + 1) MX8_closeYear 45 [x0, x1] (r.toList ++ [.int v2, .ref v3]) I1 J1 P1 Q) := wp_callV (M' := MX8_assessAlone) (As := [.int v0]) rfl rfl rfl rfl (by decide) (Nat.le_of_ble_eq_true rfl) dX8_closeYear_42
theorem e_X8_closeYear_45 {v0 : Nat} {v1 : Int32} {v2 : Nat} {x0 x1 : Option Value} : Wp S N (d + 1) MX8_closeYear 45 [x0, x1] [.ref v0, .int v1, .ref v2] I J P Q ↔ S v2 = 7 ∧ CWp S N d MX7_carryOn [.ref v2, .int v1, .ref v0] I J P (fun r I1 J1 P1 => Wp S N (d + 1) MX8_closeYear 48 [x0, x1] (r.toList ++ []) I1 J1 P1 Q) := wp_callV (M' := MX7_carryOn) (As := [.int v1, .ref v0]) rfl rfl rfl rfl (by decide) (Nat.le_of_ble_eq_true rfl) dX8_closeYear_45
theorem e_X8_closeYear_48  {x0 x1 : Option Value} : Wp S N d MX8_closeYear 48 [x0, x1] [] I J P Q ↔ Wp S N d MX8_closeYear 91 [x0, x1] [] I J P Q := wp_go (len := 3) rfl (fun _ _ => rfl) rfl (by decide) dX8_closeYear_48
theorem e_X8_closeYear_51 {w : Nat} {x1 : Option Value} : Wp S N d MX8_closeYear 51 [some (.ref w), x1] [] I J P Q ↔ Wp S N d MX8_closeYear 52 [some (.ref w), x1] [.ref w] I J P Q := wp_lod (len := 1) rfl rfl rfl rfl dX8_closeYear_51
theorem e_X8_closeYear_52 {v0 : Nat} {w : Int32} {x0 : Option Value} : Wp S N d MX8_closeYear 52 [x0, some (.int w)] [.ref v0] I J P Q ↔ Wp S N d MX8_closeYear 53 [x0, some (.int w)] [.int w, .ref v0] I J P Q := wp_lod (len := 1) rfl rfl rfl rfl dX8_closeYear_52
theorem e_X8_closeYear_53 {v0 : Int32} {v1 : Nat} {x0 x1 : Option Value} : Wp S N (d + 1) MX8_closeYear 53 [x0, x1] [.int v0, .ref v1] I J P Q ↔ S v1 = 8 ∧ CWp S N d MX8_isSecond [.ref v1, .int v0] I J P (fun r I1 J1 P1 => Wp S N (d + 1) MX8_closeYear 56 [x0, x1] (r.toList ++ []) I1 J1 P1 Q) := wp_callV (M' := MX8_isSecond) (As := [.int v0]) rfl rfl rfl rfl (by decide) (Nat.le_of_ble_eq_true rfl) dX8_closeYear_53
theorem e_X8_closeYear_56 {v0 : Int32} {x0 x1 : Option Value} : Wp S N d MX8_closeYear 56 [x0, x1] [.int v0] I J P Q ↔ (¬ v0 = 0 → Wp S N d MX8_closeYear 91 [x0, x1] [] I J P Q) ∧ (v0 = 0 → Wp S N d MX8_closeYear 59 [x0, x1] [] I J P Q) := wp_brn rfl rfl (by decide) dX8_closeYear_56
theorem e_X8_closeYear_59 {w : Nat} {x1 : Option Value} : Wp S N d MX8_closeYear 59 [some (.ref w), x1] [] I J P Q ↔ Wp S N d MX8_closeYear 60 [some (.ref w), x1] [.ref w] I J P Q := wp_lod (len := 1) rfl rfl rfl rfl dX8_closeYear_59
theorem e_X8_closeYear_60 {v0 : Nat} {x0 x1 : Option Value} : Wp S N d MX8_closeYear 60 [x0, x1] [.ref v0] I J P Q ↔ S v0 = 8 ∧ Wp S N d MX8_closeYear 63 [x0, x1] [va_rf (P v0 7)] I J P Q := wp_getf rfl rfl rfl rfl dX8_closeYear_60
theorem e_X8_closeYear_63 {v0 : Nat} {w : Nat} {x1 : Option Value} : Wp S N d MX8_closeYear 63 [some (.ref w), x1] [.ref v0] I J P Q ↔ Wp S N d MX8_closeYear 64 [some (.ref w), x1] [.ref w, .ref v0] I J P Q := wp_lod (len := 1) rfl rfl rfl rfl dX8_closeYear_63
theorem e_X8_closeYear_64 {v0 : Nat} {v1 : Nat} {x0 x1 : Option Value} : Wp S N d MX8_closeYear 64 [x0, x1] [.ref v0, .ref v1] I J P Q ↔ S v0 = 8 ∧ Wp S N d MX8_closeYear 67 [x0, x1] [va_rf (P v0 2), .ref v1] I J P Q := wp_getf rfl rfl rfl rfl dX8_closeYear_64
theorem e_X8_closeYear_67 {v0 : Nat} {v1 : Nat} {w : Int32} {x0 : Option Value} : Wp S N d MX8_closeYear 67 [x0, some (.int w)] [.ref v0, .ref v1] I J P Q ↔ Wp S N d MX8_closeYear 68 [x0, some (.int w)] [.int w, .ref v0, .ref v1] I J P Q := wp_lod (len := 1) rfl rfl rfl rfl dX8_closeYear_67
theorem e_X8_closeYear_68 {v0 : Int32} {v1 : Nat} {v2 : Nat} {w : Nat} {x1 : Option Value} : Wp S N d MX8_closeYear 68 [some (.ref w), x1] [.int v0, .ref v1, .ref v2] I J P Q ↔ Wp S N d MX8_closeYear 69 [some (.ref w), x1] [.ref w, .int v0, .ref v1, .ref v2] I J P Q := wp_lod (len := 1) rfl rfl rfl rfl dX8_closeYear_68
theorem e_X8_closeYear_69 {v0 : Nat} {v1 : Int32} {v2 : Nat} {v3 : Nat} {x0 x1 : Option Value} : Wp S N d MX8_closeYear 69 [x0, x1] [.ref v0, .int v1, .ref v2, .ref v3] I J P Q ↔ S v0 = 8 ∧ Wp S N d MX8_closeYear 72 [x0, x1] [va_rf (P v0 2), .int v1, .ref v2, .ref v3] I J P Q := wp_getf rfl rfl rfl rfl dX8_closeYear_69
theorem e_X8_closeYear_72 {v0 : Nat} {v1 : Int32} {v2 : Nat} {v3 : Nat} {x0 x1 : Option Value} : Wp S N d MX8_closeYear 72 [x0, x1] [.ref v0, .int v1, .ref v2, .ref v3] I J P Q ↔ S v0 = 5 ∧ Wp S N d MX8_closeYear 75 [x0, x1] [va_rf (P v0 4), .int v1, .ref v2, .ref v3] I J P Q := wp_getf rfl rfl rfl rfl dX8_closeYear_72
theorem e_X8_closeYear_75 {v0 : Nat} {v1 : Int32} {v2 : Nat} {v3 : Nat} {w : Int32} {x0 : Option Value} : Wp S N d MX8_closeYear 75 [x0, some (.int w)] [.ref v0, .int v1, .ref v2, .ref v3] I J P Q ↔ Wp S N d MX8_closeYear 76 [x0, some (.int w)] [.int w, .ref v0, .int v1, .ref v2, .ref v3] I J P Q := wp_lod (len := 1) rfl rfl rfl rfl dX8_closeYear_75
theorem e_X8_closeYear_76 {v0 : Int32} {v1 : Nat} {v2 : Int32} {v3 : Nat} {v4 : Nat} {x0 x1 : Option Value} : Wp S N d MX8_closeYear 76 [x0, x1] [.int v0, .ref v1, .int v2, .ref v3, .ref v4] I J P Q ↔ (S v1 = 10 ∧ vp_in v0 (N v1)) ∧ Wp S N d MX8_closeYear 77 [x0, x1] [.int (I v1 v0.toNatClampNeg), .int v2, .ref v3, .ref v4] I J P Q := wp_ald rfl rfl dX8_closeYear_76
theorem e_X8_closeYear_77 {v0 : Int32} {v1 : Int32} {v2 : Nat} {v3 : Nat} {x0 x1 : Option Value} : Wp S N (d + 1) MX8_closeYear 77 [x0, x1] [.int v0, .int v1, .ref v2, .ref v3] I J P Q ↔ S v3 = 1 ∧ CWp S N d MX1_settle [.ref v3, .ref v2, .int v1, .int v0] I J P (fun r I1 J1 P1 => Wp S N (d + 1) MX8_closeYear 80 [x0, x1] (r.toList ++ []) I1 J1 P1 Q) := wp_callV (M' := MX1_settle) (As := [.ref v2, .int v1, .int v0]) rfl rfl rfl rfl (by decide) (Nat.le_of_ble_eq_true rfl) dX8_closeYear_77
theorem e_X8_closeYear_80 {w : Nat} {x1 : Option Value} : Wp S N d MX8_closeYear 80 [some (.ref w), x1] [] I J P Q ↔ Wp S N d MX8_closeYear 81 [some (.ref w), x1] [.ref w] I J P Q := wp_lod (len := 1) rfl rfl rfl rfl dX8_closeYear_80
theorem e_X8_closeYear_81 {v0 : Nat} {x0 x1 : Option Value} : Wp S N d MX8_closeYear 81 [x0, x1] [.ref v0] I J P Q ↔ S v0 = 8 ∧ Wp S N d MX8_closeYear 84 [x0, x1] [va_rf (P v0 7)] I J P Q := wp_getf rfl rfl rfl rfl dX8_closeYear_81
theorem e_X8_closeYear_84 {v0 : Nat} {w : Nat} {x1 : Option Value} : Wp S N d MX8_closeYear 84 [some (.ref w), x1] [.ref v0] I J P Q ↔ Wp S N d MX8_closeYear 85 [some (.ref w), x1] [.ref w, .ref v0] I J P Q := wp_lod (len := 1) rfl rfl rfl rfl dX8_closeYear_84
theorem e_X8_closeYear_85 {v0 : Nat} {v1 : Nat} {x0 x1 : Option Value} : Wp S N d MX8_closeYear 85 [x0, x1] [.ref v0, .ref v1] I J P Q ↔ S v0 = 8 ∧ Wp S N d MX8_closeYear 88 [x0, x1] [va_rf (P v0 2), .ref v1] I J P Q := wp_getf rfl rfl rfl rfl dX8_closeYear_85
theorem e_X8_closeYear_88 {v0 : Nat} {v1 : Nat} {x0 x1 : Option Value} : Wp S N (d + 1) MX8_closeYear 88 [x0, x1] [.ref v0, .ref v1] I J P Q ↔ S v1 = 1 ∧ CWp S N d MX1_carryBoth [.ref v1, .ref v0] I J P (fun r I1 J1 P1 => Wp S N (d + 1) MX8_closeYear 91 [x0, x1] (r.toList ++ []) I1 J1 P1 Q) := wp_callV (M' := MX1_carryBoth) (As := [.ref v0]) rfl rfl rfl rfl (by decide) (Nat.le_of_ble_eq_true rfl) dX8_closeYear_88
theorem e_X8_closeYear_91 {w : Int32} {x0 : Option Value} : Wp S N d MX8_closeYear 91 [x0, some (.int w)] [] I J P Q ↔ Wp S N d MX8_closeYear 94 [kl x0, some (.int (w + 1))] [] I J P Q := wp_inc rfl rfl dX8_closeYear_91
theorem e_X8_closeYear_94  {x0 x1 : Option Value} : Wp S N d MX8_closeYear 94 [x0, x1] [] I J P Q ↔ Wp S N d MX8_closeYear 13 [x0, x1] [] I J P Q := wp_go (len := 3) rfl (fun _ _ => rfl) rfl (by decide) dX8_closeYear_94
theorem e_X8_closeYear_97 {w : Nat} {x1 : Option Value} : Wp S N d MX8_closeYear 97 [some (.ref w), x1] [] I J P Q ↔ Wp S N d MX8_closeYear 98 [some (.ref w), x1] [.ref w] I J P Q := wp_lod (len := 1) rfl rfl rfl rfl dX8_closeYear_97
theorem e_X8_closeYear_98 {v0 : Nat} {x0 x1 : Option Value} : Wp S N d MX8_closeYear 98 [x0, x1] [.ref v0] I J P Q ↔ S v0 = 8 ∧ Wp S N d MX8_closeYear 101 [x0, x1] [va_rf (P v0 2)] I J P Q := wp_getf rfl rfl rfl rfl dX8_closeYear_98
theorem e_X8_closeYear_101 {v0 : Nat} {x0 x1 : Option Value} : Wp S N d MX8_closeYear 101 [x0, x1] [.ref v0] I J P Q ↔ Wp S N d MX8_closeYear 102 [x0, x1] [.ref v0, .ref v0] I J P Q := wp_alu (len := 1) rfl rfl rfl dX8_closeYear_101
theorem e_X8_closeYear_102 {v0 : Nat} {v1 : Nat} {x0 x1 : Option Value} : Wp S N d MX8_closeYear 102 [x0, x1] [.ref v0, .ref v1] I J P Q ↔ S v0 = 5 ∧ Wp S N d MX8_closeYear 105 [x0, x1] [.int (I v0 5), .ref v1] I J P Q := wp_getf rfl rfl rfl rfl dX8_closeYear_102
theorem e_X8_closeYear_105 {v0 : Int32} {v1 : Nat} {x0 x1 : Option Value} : Wp S N d MX8_closeYear 105 [x0, x1] [.int v0, .ref v1] I J P Q ↔ Wp S N d MX8_closeYear 106 [x0, x1] [.int 1, .int v0, .ref v1] I J P Q := wp_iconst (by decide) dX8_closeYear_105
theorem e_X8_closeYear_106 {v0 : Int32} {v1 : Int32} {v2 : Nat} {x0 x1 : Option Value} : Wp S N d MX8_closeYear 106 [x0, x1] [.int v0, .int v1, .ref v2] I J P Q ↔ Wp S N d MX8_closeYear 107 [x0, x1] [.int (v1 + v0), .ref v2] I J P Q := wp_alu (len := 1) rfl rfl rfl dX8_closeYear_106
theorem e_X8_closeYear_107 {v0 : Int32} {v1 : Nat} {x0 x1 : Option Value} : Wp S N d MX8_closeYear 107 [x0, x1] [.int v0, .ref v1] I J P Q ↔ S v1 = 5 ∧ Wp S N d MX8_closeYear 110 [x0, x1] [] (u2 I v1 5 v0) J P Q := wp_putI rfl rfl rfl rfl dX8_closeYear_107
theorem e_X8_closeYear_110 {w : Nat} {x1 : Option Value} : Wp S N d MX8_closeYear 110 [some (.ref w), x1] [] I J P Q ↔ Wp S N d MX8_closeYear 111 [some (.ref w), x1] [.ref w] I J P Q := wp_lod (len := 1) rfl rfl rfl rfl dX8_closeYear_110
theorem e_X8_closeYear_111 {v0 : Nat} {x0 x1 : Option Value} : Wp S N d MX8_closeYear 111 [x0, x1] [.ref v0] I J P Q ↔ S v0 = 8 ∧ Wp S N d MX8_closeYear 114 [x0, x1] [va_rf (P v0 2)] I J P Q := wp_getf rfl rfl rfl rfl dX8_closeYear_111
theorem e_X8_closeYear_114 {v0 : Nat} {x0 x1 : Option Value} : Wp S N d MX8_closeYear 114 [x0, x1] [.ref v0] I J P Q ↔ S v0 = 5 ∧ Wp S N d MX8_closeYear 117 [x0, x1] [.int (I v0 5)] I J P Q := wp_getf rfl rfl rfl rfl dX8_closeYear_114
theorem e_X8_closeYear_117 {v0 : Int32} {x0 x1 : Option Value} : Wp S N d MX8_closeYear 117 [x0, x1] [.int v0] I J P Q ↔ Q (some (.int v0)) I J P := wp_iret rfl dX8_closeYear_117
theorem dX8_years_0 : decode cX8_years 0 = .ok (.aload_n 0, 1) := by decide +kernel
theorem dX8_years_1 : decode cX8_years 1 = .ok (.getfield 26, 3) := by decide +kernel
theorem dX8_years_4 : decode cX8_years 4 = .ok (.getfield 229, 3) := by decide +kernel
theorem dX8_years_7 : decode cX8_years 7 = .ok (.ireturn, 1) := by decide +kernel
theorem c_X8_years {a0 : Nat} : CWp S N d MX8_years [.ref a0] I J P Q ↔ Wp S N d MX8_years 0 [some (.ref a0)] [] I J P Q := by
  rw [cwp_iff]
  exact ⟨fun h => h.2, fun h => ⟨Nat.le_of_ble_eq_true rfl, h⟩⟩
theorem e_X8_years_0 {w : Nat} : Wp S N d MX8_years 0 [some (.ref w)] [] I J P Q ↔ Wp S N d MX8_years 1 [some (.ref w)] [.ref w] I J P Q := wp_lod (len := 1) rfl rfl rfl rfl dX8_years_0
theorem e_X8_years_1 {v0 : Nat} {x0 : Option Value} : Wp S N d MX8_years 1 [x0] [.ref v0] I J P Q ↔ S v0 = 8 ∧ Wp S N d MX8_years 4 [x0] [va_rf (P v0 2)] I J P Q := wp_getf rfl rfl rfl rfl dX8_years_1
theorem e_X8_years_4 {v0 : Nat} {x0 : Option Value} : Wp S N d MX8_years 4 [x0] [.ref v0] I J P Q ↔ S v0 = 5 ∧ Wp S N d MX8_years 7 [x0] [.int (I v0 5)] I J P Q := wp_getf rfl rfl rfl rfl dX8_years_4
theorem e_X8_years_7 {v0 : Int32} {x0 : Option Value} : Wp S N d MX8_years 7 [x0] [.int v0] I J P Q ↔ Q (some (.int v0)) I J P := wp_iret rfl dX8_years_7
theorem dX8_curve_0 : decode cX8_curve 0 = .ok (.aload_n 0, 1) := by decide +kernel
theorem dX8_curve_1 : decode cX8_curve 1 = .ok (.iload_n 1, 1) := by decide +kernel
theorem dX8_curve_2 : decode cX8_curve 2 = .ok (.bipush 6, 2) := by decide +kernel
theorem dX8_curve_4 : decode cX8_curve 4 = .ok (.invokevirtual 123, 3) := by decide +kernel
theorem dX8_curve_7 : decode cX8_curve 7 = .ok (.aload_n 0, 1) := by decide +kernel
theorem dX8_curve_8 : decode cX8_curve 8 = .ok (.iload_n 2, 1) := by decide +kernel
theorem dX8_curve_9 : decode cX8_curve 9 = .ok (.iconst 0, 1) := by decide +kernel
theorem dX8_curve_10 : decode cX8_curve 10 = .ok (.sipush 9999, 3) := by decide +kernel
theorem dX8_curve_13 : decode cX8_curve 13 = .ok (.invokevirtual 61, 3) := by decide +kernel
theorem dX8_curve_16 : decode cX8_curve 16 = .ok (.aload_n 0, 1) := by decide +kernel
theorem dX8_curve_17 : decode cX8_curve 17 = .ok (.getfield 57, 3) := by decide +kernel
theorem dX8_curve_20 : decode cX8_curve 20 = .ok (.aload_n 0, 1) := by decide +kernel
theorem dX8_curve_21 : decode cX8_curve 21 = .ok (.getfield 26, 3) := by decide +kernel
theorem dX8_curve_24 : decode cX8_curve 24 = .ok (.iload_n 1, 1) := by decide +kernel
theorem dX8_curve_25 : decode cX8_curve 25 = .ok (.invokevirtual 232, 3) := by decide +kernel
theorem dX8_curve_28 : decode cX8_curve 28 = .ok (.aload_n 0, 1) := by decide +kernel
theorem dX8_curve_29 : decode cX8_curve 29 = .ok (.getfield 57, 3) := by decide +kernel
theorem dX8_curve_32 : decode cX8_curve 32 = .ok (.aload_n 0, 1) := by decide +kernel
theorem dX8_curve_33 : decode cX8_curve 33 = .ok (.getfield 26, 3) := by decide +kernel
theorem dX8_curve_36 : decode cX8_curve 36 = .ok (.getfield 80, 3) := by decide +kernel
theorem dX8_curve_39 : decode cX8_curve 39 = .ok (.iload_n 2, 1) := by decide +kernel
theorem dX8_curve_40 : decode cX8_curve 40 = .ok (.invokevirtual 236, 3) := by decide +kernel
theorem dX8_curve_43 : decode cX8_curve 43 = .ok (.lreturn, 1) := by decide +kernel
theorem c_X8_curve {a0 : Nat} {a1 : Int32} {a2 : Int32} : CWp S N d MX8_curve [.ref a0, .int a1, .int a2] I J P Q ↔ Wp S N d MX8_curve 0 [some (.ref a0), some (.int a1), some (.int a2)] [] I J P Q := by
  rw [cwp_iff]
  exact ⟨fun h => h.2, fun h => ⟨Nat.le_of_ble_eq_true rfl, h⟩⟩
theorem e_X8_curve_0 {w : Nat} {x1 x2 : Option Value} : Wp S N d MX8_curve 0 [some (.ref w), x1, x2] [] I J P Q ↔ Wp S N d MX8_curve 1 [some (.ref w), x1, x2] [.ref w] I J P Q := wp_lod (len := 1) rfl rfl rfl rfl dX8_curve_0
theorem e_X8_curve_1 {v0 : Nat} {w : Int32} {x0 x2 : Option Value} : Wp S N d MX8_curve 1 [x0, some (.int w), x2] [.ref v0] I J P Q ↔ Wp S N d MX8_curve 2 [x0, some (.int w), x2] [.int w, .ref v0] I J P Q := wp_lod (len := 1) rfl rfl rfl rfl dX8_curve_1
theorem e_X8_curve_2 {v0 : Int32} {v1 : Nat} {x0 x1 x2 : Option Value} : Wp S N d MX8_curve 2 [x0, x1, x2] [.int v0, .ref v1] I J P Q ↔ Wp S N d MX8_curve 4 [x0, x1, x2] [.int 6, .int v0, .ref v1] I J P Q := wp_bipush (by decide) dX8_curve_2
theorem e_X8_curve_4 {v0 : Int32} {v1 : Int32} {v2 : Nat} {x0 x1 x2 : Option Value} : Wp S N (d + 1) MX8_curve 4 [x0, x1, x2] [.int v0, .int v1, .ref v2] I J P Q ↔ S v2 = 8 ∧ CWp S N d MX8_requireIndex [.ref v2, .int v1, .int v0] I J P (fun r I1 J1 P1 => Wp S N (d + 1) MX8_curve 7 [x0, x1, x2] (r.toList ++ []) I1 J1 P1 Q) := wp_callV (M' := MX8_requireIndex) (As := [.int v1, .int v0]) rfl rfl rfl rfl (by decide) (Nat.le_of_ble_eq_true rfl) dX8_curve_4
theorem e_X8_curve_7 {w : Nat} {x1 x2 : Option Value} : Wp S N d MX8_curve 7 [some (.ref w), x1, x2] [] I J P Q ↔ Wp S N d MX8_curve 8 [some (.ref w), x1, x2] [.ref w] I J P Q := wp_lod (len := 1) rfl rfl rfl rfl dX8_curve_7
theorem e_X8_curve_8 {v0 : Nat} {w : Int32} {x0 x1 : Option Value} : Wp S N d MX8_curve 8 [x0, x1, some (.int w)] [.ref v0] I J P Q ↔ Wp S N d MX8_curve 9 [x0, x1, some (.int w)] [.int w, .ref v0] I J P Q := wp_lod (len := 1) rfl rfl rfl rfl dX8_curve_8
theorem e_X8_curve_9 {v0 : Int32} {v1 : Nat} {x0 x1 x2 : Option Value} : Wp S N d MX8_curve 9 [x0, x1, x2] [.int v0, .ref v1] I J P Q ↔ Wp S N d MX8_curve 10 [x0, x1, x2] [.int 0, .int v0, .ref v1] I J P Q := wp_iconst (by decide) dX8_curve_9
theorem e_X8_curve_10 {v0 : Int32} {v1 : Int32} {v2 : Nat} {x0 x1 x2 : Option Value} : Wp S N d MX8_curve 10 [x0, x1, x2] [.int v0, .int v1, .ref v2] I J P Q ↔ Wp S N d MX8_curve 13 [x0, x1, x2] [.int 9999, .int v0, .int v1, .ref v2] I J P Q := wp_sipush (by decide) dX8_curve_10
theorem e_X8_curve_13 {v0 : Int32} {v1 : Int32} {v2 : Int32} {v3 : Nat} {x0 x1 x2 : Option Value} : Wp S N (d + 1) MX8_curve 13 [x0, x1, x2] [.int v0, .int v1, .int v2, .ref v3] I J P Q ↔ S v3 = 8 ∧ CWp S N d MX8_requireRange [.ref v3, .int v2, .int v1, .int v0] I J P (fun r I1 J1 P1 => Wp S N (d + 1) MX8_curve 16 [x0, x1, x2] (r.toList ++ []) I1 J1 P1 Q) := wp_callV (M' := MX8_requireRange) (As := [.int v2, .int v1, .int v0]) rfl rfl rfl rfl (by decide) (Nat.le_of_ble_eq_true rfl) dX8_curve_13
theorem e_X8_curve_16 {w : Nat} {x1 x2 : Option Value} : Wp S N d MX8_curve 16 [some (.ref w), x1, x2] [] I J P Q ↔ Wp S N d MX8_curve 17 [some (.ref w), x1, x2] [.ref w] I J P Q := wp_lod (len := 1) rfl rfl rfl rfl dX8_curve_16
theorem e_X8_curve_17 {v0 : Nat} {x0 x1 x2 : Option Value} : Wp S N d MX8_curve 17 [x0, x1, x2] [.ref v0] I J P Q ↔ S v0 = 8 ∧ Wp S N d MX8_curve 20 [x0, x1, x2] [va_rf (P v0 8)] I J P Q := wp_getf rfl rfl rfl rfl dX8_curve_17
theorem e_X8_curve_20 {v0 : Nat} {w : Nat} {x1 x2 : Option Value} : Wp S N d MX8_curve 20 [some (.ref w), x1, x2] [.ref v0] I J P Q ↔ Wp S N d MX8_curve 21 [some (.ref w), x1, x2] [.ref w, .ref v0] I J P Q := wp_lod (len := 1) rfl rfl rfl rfl dX8_curve_20
theorem e_X8_curve_21 {v0 : Nat} {v1 : Nat} {x0 x1 x2 : Option Value} : Wp S N d MX8_curve 21 [x0, x1, x2] [.ref v0, .ref v1] I J P Q ↔ S v0 = 8 ∧ Wp S N d MX8_curve 24 [x0, x1, x2] [va_rf (P v0 2), .ref v1] I J P Q := wp_getf rfl rfl rfl rfl dX8_curve_21
theorem e_X8_curve_24 {v0 : Nat} {v1 : Nat} {w : Int32} {x0 x2 : Option Value} : Wp S N d MX8_curve 24 [x0, some (.int w), x2] [.ref v0, .ref v1] I J P Q ↔ Wp S N d MX8_curve 25 [x0, some (.int w), x2] [.int w, .ref v0, .ref v1] I J P Q := wp_lod (len := 1) rfl rfl rfl rfl dX8_curve_24
theorem e_X8_curve_25 {v0 : Int32} {v1 : Nat} {v2 : Nat} {x0 x1 x2 : Option Value} : Wp S N (d + 1) MX8_curve 25 [x0, x1, x2] [.int v0, .ref v1, .ref v2] I J P Q ↔ S v2 = 3 ∧ CWp S N d MX3_turnTo [.ref v2, .ref v1, .int v0] I J P (fun r I1 J1 P1 => Wp S N (d + 1) MX8_curve 28 [x0, x1, x2] (r.toList ++ []) I1 J1 P1 Q) := wp_callV (M' := MX3_turnTo) (As := [.ref v1, .int v0]) rfl rfl rfl rfl (by decide) (Nat.le_of_ble_eq_true rfl) dX8_curve_25
theorem e_X8_curve_28 {w : Nat} {x1 x2 : Option Value} : Wp S N d MX8_curve 28 [some (.ref w), x1, x2] [] I J P Q ↔ Wp S N d MX8_curve 29 [some (.ref w), x1, x2] [.ref w] I J P Q := wp_lod (len := 1) rfl rfl rfl rfl dX8_curve_28
theorem e_X8_curve_29 {v0 : Nat} {x0 x1 x2 : Option Value} : Wp S N d MX8_curve 29 [x0, x1, x2] [.ref v0] I J P Q ↔ S v0 = 8 ∧ Wp S N d MX8_curve 32 [x0, x1, x2] [va_rf (P v0 8)] I J P Q := wp_getf rfl rfl rfl rfl dX8_curve_29
theorem e_X8_curve_32 {v0 : Nat} {w : Nat} {x1 x2 : Option Value} : Wp S N d MX8_curve 32 [some (.ref w), x1, x2] [.ref v0] I J P Q ↔ Wp S N d MX8_curve 33 [some (.ref w), x1, x2] [.ref w, .ref v0] I J P Q := wp_lod (len := 1) rfl rfl rfl rfl dX8_curve_32
theorem e_X8_curve_33 {v0 : Nat} {v1 : Nat} {x0 x1 x2 : Option Value} : Wp S N d MX8_curve 33 [x0, x1, x2] [.ref v0, .ref v1] I J P Q ↔ S v0 = 8 ∧ Wp S N d MX8_curve 36 [x0, x1, x2] [va_rf (P v0 2), .ref v1] I J P Q := wp_getf rfl rfl rfl rfl dX8_curve_33
theorem e_X8_curve_36 {v0 : Nat} {v1 : Nat} {x0 x1 x2 : Option Value} : Wp S N d MX8_curve 36 [x0, x1, x2] [.ref v0, .ref v1] I J P Q ↔ S v0 = 5 ∧ Wp S N d MX8_curve 39 [x0, x1, x2] [va_rf (P v0 0), .ref v1] I J P Q := wp_getf rfl rfl rfl rfl dX8_curve_36
theorem e_X8_curve_39 {v0 : Nat} {v1 : Nat} {w : Int32} {x0 x1 : Option Value} : Wp S N d MX8_curve 39 [x0, x1, some (.int w)] [.ref v0, .ref v1] I J P Q ↔ Wp S N d MX8_curve 40 [x0, x1, some (.int w)] [.int w, .ref v0, .ref v1] I J P Q := wp_lod (len := 1) rfl rfl rfl rfl dX8_curve_39
theorem e_X8_curve_40 {v0 : Int32} {v1 : Nat} {v2 : Nat} {x0 x1 x2 : Option Value} : Wp S N (d + 1) MX8_curve 40 [x0, x1, x2] [.int v0, .ref v1, .ref v2] I J P Q ↔ S v2 = 3 ∧ CWp S N d MX3_taxAt [.ref v2, .ref v1, .int v0] I J P (fun r I1 J1 P1 => Wp S N (d + 1) MX8_curve 43 [x0, x1, x2] (r.toList ++ []) I1 J1 P1 Q) := wp_callV (M' := MX3_taxAt) (As := [.ref v1, .int v0]) rfl rfl rfl rfl (by decide) (Nat.le_of_ble_eq_true rfl) dX8_curve_40
theorem e_X8_curve_43 {v0 : Int64} {x0 x1 x2 : Option Value} : Wp S N d MX8_curve 43 [x0, x1, x2] [.long v0] I J P Q ↔ Q (some (.long v0)) I J P := wp_lret rfl dX8_curve_43
theorem dX8_marginalRate_0 : decode cX8_marginalRate 0 = .ok (.aload_n 0, 1) := by decide +kernel
theorem dX8_marginalRate_1 : decode cX8_marginalRate 1 = .ok (.iload_n 1, 1) := by decide +kernel
theorem dX8_marginalRate_2 : decode cX8_marginalRate 2 = .ok (.bipush 6, 2) := by decide +kernel
theorem dX8_marginalRate_4 : decode cX8_marginalRate 4 = .ok (.invokevirtual 123, 3) := by decide +kernel
theorem dX8_marginalRate_7 : decode cX8_marginalRate 7 = .ok (.aload_n 0, 1) := by decide +kernel
theorem dX8_marginalRate_8 : decode cX8_marginalRate 8 = .ok (.iload_n 2, 1) := by decide +kernel
theorem dX8_marginalRate_9 : decode cX8_marginalRate 9 = .ok (.iconst 0, 1) := by decide +kernel
theorem dX8_marginalRate_10 : decode cX8_marginalRate 10 = .ok (.sipush 9998, 3) := by decide +kernel
theorem dX8_marginalRate_13 : decode cX8_marginalRate 13 = .ok (.invokevirtual 61, 3) := by decide +kernel
theorem dX8_marginalRate_16 : decode cX8_marginalRate 16 = .ok (.aload_n 0, 1) := by decide +kernel
theorem dX8_marginalRate_17 : decode cX8_marginalRate 17 = .ok (.getfield 57, 3) := by decide +kernel
theorem dX8_marginalRate_20 : decode cX8_marginalRate 20 = .ok (.aload_n 0, 1) := by decide +kernel
theorem dX8_marginalRate_21 : decode cX8_marginalRate 21 = .ok (.getfield 26, 3) := by decide +kernel
theorem dX8_marginalRate_24 : decode cX8_marginalRate 24 = .ok (.iload_n 1, 1) := by decide +kernel
theorem dX8_marginalRate_25 : decode cX8_marginalRate 25 = .ok (.invokevirtual 232, 3) := by decide +kernel
theorem dX8_marginalRate_28 : decode cX8_marginalRate 28 = .ok (.aload_n 0, 1) := by decide +kernel
theorem dX8_marginalRate_29 : decode cX8_marginalRate 29 = .ok (.getfield 57, 3) := by decide +kernel
theorem dX8_marginalRate_32 : decode cX8_marginalRate 32 = .ok (.aload_n 0, 1) := by decide +kernel
theorem dX8_marginalRate_33 : decode cX8_marginalRate 33 = .ok (.getfield 26, 3) := by decide +kernel
theorem dX8_marginalRate_36 : decode cX8_marginalRate 36 = .ok (.getfield 80, 3) := by decide +kernel
theorem dX8_marginalRate_39 : decode cX8_marginalRate 39 = .ok (.iload_n 2, 1) := by decide +kernel
theorem dX8_marginalRate_40 : decode cX8_marginalRate 40 = .ok (.iconst 1, 1) := by decide +kernel
theorem dX8_marginalRate_41 : decode cX8_marginalRate 41 = .ok (.iadd, 1) := by decide +kernel
theorem dX8_marginalRate_42 : decode cX8_marginalRate 42 = .ok (.invokevirtual 236, 3) := by decide +kernel
theorem dX8_marginalRate_45 : decode cX8_marginalRate 45 = .ok (.aload_n 0, 1) := by decide +kernel
theorem dX8_marginalRate_46 : decode cX8_marginalRate 46 = .ok (.getfield 57, 3) := by decide +kernel
theorem dX8_marginalRate_49 : decode cX8_marginalRate 49 = .ok (.aload_n 0, 1) := by decide +kernel
theorem dX8_marginalRate_50 : decode cX8_marginalRate 50 = .ok (.getfield 26, 3) := by decide +kernel
theorem dX8_marginalRate_53 : decode cX8_marginalRate 53 = .ok (.getfield 80, 3) := by decide +kernel
theorem dX8_marginalRate_56 : decode cX8_marginalRate 56 = .ok (.iload_n 2, 1) := by decide +kernel
theorem dX8_marginalRate_57 : decode cX8_marginalRate 57 = .ok (.invokevirtual 236, 3) := by decide +kernel
theorem dX8_marginalRate_60 : decode cX8_marginalRate 60 = .ok (.lsub, 1) := by decide +kernel
theorem dX8_marginalRate_61 : decode cX8_marginalRate 61 = .ok (.lreturn, 1) := by decide +kernel
theorem c_X8_marginalRate {a0 : Nat} {a1 : Int32} {a2 : Int32} : CWp S N d MX8_marginalRate [.ref a0, .int a1, .int a2] I J P Q ↔ Wp S N d MX8_marginalRate 0 [some (.ref a0), some (.int a1), some (.int a2)] [] I J P Q := by
  rw [cwp_iff]
  exact ⟨fun h => h.2, fun h => ⟨Nat.le_of_ble_eq_true rfl, h⟩⟩
theorem e_X8_marginalRate_0 {w : Nat} {x1 x2 : Option Value} : Wp S N d MX8_marginalRate 0 [some (.ref w), x1, x2] [] I J P Q ↔ Wp S N d MX8_marginalRate 1 [some (.ref w), x1, x2] [.ref w] I J P Q := wp_lod (len := 1) rfl rfl rfl rfl dX8_marginalRate_0
theorem e_X8_marginalRate_1 {v0 : Nat} {w : Int32} {x0 x2 : Option Value} : Wp S N d MX8_marginalRate 1 [x0, some (.int w), x2] [.ref v0] I J P Q ↔ Wp S N d MX8_marginalRate 2 [x0, some (.int w), x2] [.int w, .ref v0] I J P Q := wp_lod (len := 1) rfl rfl rfl rfl dX8_marginalRate_1
theorem e_X8_marginalRate_2 {v0 : Int32} {v1 : Nat} {x0 x1 x2 : Option Value} : Wp S N d MX8_marginalRate 2 [x0, x1, x2] [.int v0, .ref v1] I J P Q ↔ Wp S N d MX8_marginalRate 4 [x0, x1, x2] [.int 6, .int v0, .ref v1] I J P Q := wp_bipush (by decide) dX8_marginalRate_2
theorem e_X8_marginalRate_4 {v0 : Int32} {v1 : Int32} {v2 : Nat} {x0 x1 x2 : Option Value} : Wp S N (d + 1) MX8_marginalRate 4 [x0, x1, x2] [.int v0, .int v1, .ref v2] I J P Q ↔ S v2 = 8 ∧ CWp S N d MX8_requireIndex [.ref v2, .int v1, .int v0] I J P (fun r I1 J1 P1 => Wp S N (d + 1) MX8_marginalRate 7 [x0, x1, x2] (r.toList ++ []) I1 J1 P1 Q) := wp_callV (M' := MX8_requireIndex) (As := [.int v1, .int v0]) rfl rfl rfl rfl (by decide) (Nat.le_of_ble_eq_true rfl) dX8_marginalRate_4
theorem e_X8_marginalRate_7 {w : Nat} {x1 x2 : Option Value} : Wp S N d MX8_marginalRate 7 [some (.ref w), x1, x2] [] I J P Q ↔ Wp S N d MX8_marginalRate 8 [some (.ref w), x1, x2] [.ref w] I J P Q := wp_lod (len := 1) rfl rfl rfl rfl dX8_marginalRate_7
theorem e_X8_marginalRate_8 {v0 : Nat} {w : Int32} {x0 x1 : Option Value} : Wp S N d MX8_marginalRate 8 [x0, x1, some (.int w)] [.ref v0] I J P Q ↔ Wp S N d MX8_marginalRate 9 [x0, x1, some (.int w)] [.int w, .ref v0] I J P Q := wp_lod (len := 1) rfl rfl rfl rfl dX8_marginalRate_8
theorem e_X8_marginalRate_9 {v0 : Int32} {v1 : Nat} {x0 x1 x2 : Option Value} : Wp S N d MX8_marginalRate 9 [x0, x1, x2] [.int v0, .ref v1] I J P Q ↔ Wp S N d MX8_marginalRate 10 [x0, x1, x2] [.int 0, .int v0, .ref v1] I J P Q := wp_iconst (by decide) dX8_marginalRate_9
theorem e_X8_marginalRate_10 {v0 : Int32} {v1 : Int32} {v2 : Nat} {x0 x1 x2 : Option Value} : Wp S N d MX8_marginalRate 10 [x0, x1, x2] [.int v0, .int v1, .ref v2] I J P Q ↔ Wp S N d MX8_marginalRate 13 [x0, x1, x2] [.int 9998, .int v0, .int v1, .ref v2] I J P Q := wp_sipush (by decide) dX8_marginalRate_10
theorem e_X8_marginalRate_13 {v0 : Int32} {v1 : Int32} {v2 : Int32} {v3 : Nat} {x0 x1 x2 : Option Value} : Wp S N (d + 1) MX8_marginalRate 13 [x0, x1, x2] [.int v0, .int v1, .int v2, .ref v3] I J P Q ↔ S v3 = 8 ∧ CWp S N d MX8_requireRange [.ref v3, .int v2, .int v1, .int v0] I J P (fun r I1 J1 P1 => Wp S N (d + 1) MX8_marginalRate 16 [x0, x1, x2] (r.toList ++ []) I1 J1 P1 Q) := wp_callV (M' := MX8_requireRange) (As := [.int v2, .int v1, .int v0]) rfl rfl rfl rfl (by decide) (Nat.le_of_ble_eq_true rfl) dX8_marginalRate_13
theorem e_X8_marginalRate_16 {w : Nat} {x1 x2 : Option Value} : Wp S N d MX8_marginalRate 16 [some (.ref w), x1, x2] [] I J P Q ↔ Wp S N d MX8_marginalRate 17 [some (.ref w), x1, x2] [.ref w] I J P Q := wp_lod (len := 1) rfl rfl rfl rfl dX8_marginalRate_16
theorem e_X8_marginalRate_17 {v0 : Nat} {x0 x1 x2 : Option Value} : Wp S N d MX8_marginalRate 17 [x0, x1, x2] [.ref v0] I J P Q ↔ S v0 = 8 ∧ Wp S N d MX8_marginalRate 20 [x0, x1, x2] [va_rf (P v0 8)] I J P Q := wp_getf rfl rfl rfl rfl dX8_marginalRate_17
theorem e_X8_marginalRate_20 {v0 : Nat} {w : Nat} {x1 x2 : Option Value} : Wp S N d MX8_marginalRate 20 [some (.ref w), x1, x2] [.ref v0] I J P Q ↔ Wp S N d MX8_marginalRate 21 [some (.ref w), x1, x2] [.ref w, .ref v0] I J P Q := wp_lod (len := 1) rfl rfl rfl rfl dX8_marginalRate_20
theorem e_X8_marginalRate_21 {v0 : Nat} {v1 : Nat} {x0 x1 x2 : Option Value} : Wp S N d MX8_marginalRate 21 [x0, x1, x2] [.ref v0, .ref v1] I J P Q ↔ S v0 = 8 ∧ Wp S N d MX8_marginalRate 24 [x0, x1, x2] [va_rf (P v0 2), .ref v1] I J P Q := wp_getf rfl rfl rfl rfl dX8_marginalRate_21
theorem e_X8_marginalRate_24 {v0 : Nat} {v1 : Nat} {w : Int32} {x0 x2 : Option Value} : Wp S N d MX8_marginalRate 24 [x0, some (.int w), x2] [.ref v0, .ref v1] I J P Q ↔ Wp S N d MX8_marginalRate 25 [x0, some (.int w), x2] [.int w, .ref v0, .ref v1] I J P Q := wp_lod (len := 1) rfl rfl rfl rfl dX8_marginalRate_24
theorem e_X8_marginalRate_25 {v0 : Int32} {v1 : Nat} {v2 : Nat} {x0 x1 x2 : Option Value} : Wp S N (d + 1) MX8_marginalRate 25 [x0, x1, x2] [.int v0, .ref v1, .ref v2] I J P Q ↔ S v2 = 3 ∧ CWp S N d MX3_turnTo [.ref v2, .ref v1, .int v0] I J P (fun r I1 J1 P1 => Wp S N (d + 1) MX8_marginalRate 28 [x0, x1, x2] (r.toList ++ []) I1 J1 P1 Q) := wp_callV (M' := MX3_turnTo) (As := [.ref v1, .int v0]) rfl rfl rfl rfl (by decide) (Nat.le_of_ble_eq_true rfl) dX8_marginalRate_25
theorem e_X8_marginalRate_28 {w : Nat} {x1 x2 : Option Value} : Wp S N d MX8_marginalRate 28 [some (.ref w), x1, x2] [] I J P Q ↔ Wp S N d MX8_marginalRate 29 [some (.ref w), x1, x2] [.ref w] I J P Q := wp_lod (len := 1) rfl rfl rfl rfl dX8_marginalRate_28
theorem e_X8_marginalRate_29 {v0 : Nat} {x0 x1 x2 : Option Value} : Wp S N d MX8_marginalRate 29 [x0, x1, x2] [.ref v0] I J P Q ↔ S v0 = 8 ∧ Wp S N d MX8_marginalRate 32 [x0, x1, x2] [va_rf (P v0 8)] I J P Q := wp_getf rfl rfl rfl rfl dX8_marginalRate_29
theorem e_X8_marginalRate_32 {v0 : Nat} {w : Nat} {x1 x2 : Option Value} : Wp S N d MX8_marginalRate 32 [some (.ref w), x1, x2] [.ref v0] I J P Q ↔ Wp S N d MX8_marginalRate 33 [some (.ref w), x1, x2] [.ref w, .ref v0] I J P Q := wp_lod (len := 1) rfl rfl rfl rfl dX8_marginalRate_32
theorem e_X8_marginalRate_33 {v0 : Nat} {v1 : Nat} {x0 x1 x2 : Option Value} : Wp S N d MX8_marginalRate 33 [x0, x1, x2] [.ref v0, .ref v1] I J P Q ↔ S v0 = 8 ∧ Wp S N d MX8_marginalRate 36 [x0, x1, x2] [va_rf (P v0 2), .ref v1] I J P Q := wp_getf rfl rfl rfl rfl dX8_marginalRate_33
theorem e_X8_marginalRate_36 {v0 : Nat} {v1 : Nat} {x0 x1 x2 : Option Value} : Wp S N d MX8_marginalRate 36 [x0, x1, x2] [.ref v0, .ref v1] I J P Q ↔ S v0 = 5 ∧ Wp S N d MX8_marginalRate 39 [x0, x1, x2] [va_rf (P v0 0), .ref v1] I J P Q := wp_getf rfl rfl rfl rfl dX8_marginalRate_36
theorem e_X8_marginalRate_39 {v0 : Nat} {v1 : Nat} {w : Int32} {x0 x1 : Option Value} : Wp S N d MX8_marginalRate 39 [x0, x1, some (.int w)] [.ref v0, .ref v1] I J P Q ↔ Wp S N d MX8_marginalRate 40 [x0, x1, some (.int w)] [.int w, .ref v0, .ref v1] I J P Q := wp_lod (len := 1) rfl rfl rfl rfl dX8_marginalRate_39
theorem e_X8_marginalRate_40 {v0 : Int32} {v1 : Nat} {v2 : Nat} {x0 x1 x2 : Option Value} : Wp S N d MX8_marginalRate 40 [x0, x1, x2] [.int v0, .ref v1, .ref v2] I J P Q ↔ Wp S N d MX8_marginalRate 41 [x0, x1, x2] [.int 1, .int v0, .ref v1, .ref v2] I J P Q := wp_iconst (by decide) dX8_marginalRate_40
theorem e_X8_marginalRate_41 {v0 : Int32} {v1 : Int32} {v2 : Nat} {v3 : Nat} {x0 x1 x2 : Option Value} : Wp S N d MX8_marginalRate 41 [x0, x1, x2] [.int v0, .int v1, .ref v2, .ref v3] I J P Q ↔ Wp S N d MX8_marginalRate 42 [x0, x1, x2] [.int (v1 + v0), .ref v2, .ref v3] I J P Q := wp_alu (len := 1) rfl rfl rfl dX8_marginalRate_41
theorem e_X8_marginalRate_42 {v0 : Int32} {v1 : Nat} {v2 : Nat} {x0 x1 x2 : Option Value} : Wp S N (d + 1) MX8_marginalRate 42 [x0, x1, x2] [.int v0, .ref v1, .ref v2] I J P Q ↔ S v2 = 3 ∧ CWp S N d MX3_taxAt [.ref v2, .ref v1, .int v0] I J P (fun r I1 J1 P1 => Wp S N (d + 1) MX8_marginalRate 45 [x0, x1, x2] (r.toList ++ []) I1 J1 P1 Q) := wp_callV (M' := MX3_taxAt) (As := [.ref v1, .int v0]) rfl rfl rfl rfl (by decide) (Nat.le_of_ble_eq_true rfl) dX8_marginalRate_42
theorem e_X8_marginalRate_45 {v0 : Int64} {w : Nat} {x1 x2 : Option Value} : Wp S N d MX8_marginalRate 45 [some (.ref w), x1, x2] [.long v0] I J P Q ↔ Wp S N d MX8_marginalRate 46 [some (.ref w), x1, x2] [.ref w, .long v0] I J P Q := wp_lod (len := 1) rfl rfl rfl rfl dX8_marginalRate_45
theorem e_X8_marginalRate_46 {v0 : Nat} {v1 : Int64} {x0 x1 x2 : Option Value} : Wp S N d MX8_marginalRate 46 [x0, x1, x2] [.ref v0, .long v1] I J P Q ↔ S v0 = 8 ∧ Wp S N d MX8_marginalRate 49 [x0, x1, x2] [va_rf (P v0 8), .long v1] I J P Q := wp_getf rfl rfl rfl rfl dX8_marginalRate_46
theorem e_X8_marginalRate_49 {v0 : Nat} {v1 : Int64} {w : Nat} {x1 x2 : Option Value} : Wp S N d MX8_marginalRate 49 [some (.ref w), x1, x2] [.ref v0, .long v1] I J P Q ↔ Wp S N d MX8_marginalRate 50 [some (.ref w), x1, x2] [.ref w, .ref v0, .long v1] I J P Q := wp_lod (len := 1) rfl rfl rfl rfl dX8_marginalRate_49
theorem e_X8_marginalRate_50 {v0 : Nat} {v1 : Nat} {v2 : Int64} {x0 x1 x2 : Option Value} : Wp S N d MX8_marginalRate 50 [x0, x1, x2] [.ref v0, .ref v1, .long v2] I J P Q ↔ S v0 = 8 ∧ Wp S N d MX8_marginalRate 53 [x0, x1, x2] [va_rf (P v0 2), .ref v1, .long v2] I J P Q := wp_getf rfl rfl rfl rfl dX8_marginalRate_50
theorem e_X8_marginalRate_53 {v0 : Nat} {v1 : Nat} {v2 : Int64} {x0 x1 x2 : Option Value} : Wp S N d MX8_marginalRate 53 [x0, x1, x2] [.ref v0, .ref v1, .long v2] I J P Q ↔ S v0 = 5 ∧ Wp S N d MX8_marginalRate 56 [x0, x1, x2] [va_rf (P v0 0), .ref v1, .long v2] I J P Q := wp_getf rfl rfl rfl rfl dX8_marginalRate_53
theorem e_X8_marginalRate_56 {v0 : Nat} {v1 : Nat} {v2 : Int64} {w : Int32} {x0 x1 : Option Value} : Wp S N d MX8_marginalRate 56 [x0, x1, some (.int w)] [.ref v0, .ref v1, .long v2] I J P Q ↔ Wp S N d MX8_marginalRate 57 [x0, x1, some (.int w)] [.int w, .ref v0, .ref v1, .long v2] I J P Q := wp_lod (len := 1) rfl rfl rfl rfl dX8_marginalRate_56
theorem e_X8_marginalRate_57 {v0 : Int32} {v1 : Nat} {v2 : Nat} {v3 : Int64} {x0 x1 x2 : Option Value} : Wp S N (d + 1) MX8_marginalRate 57 [x0, x1, x2] [.int v0, .ref v1, .ref v2, .long v3] I J P Q ↔ S v2 = 3 ∧ CWp S N d MX3_taxAt [.ref v2, .ref v1, .int v0] I J P (fun r I1 J1 P1 => Wp S N (d + 1) MX8_marginalRate 60 [x0, x1, x2] (r.toList ++ [.long v3]) I1 J1 P1 Q) := wp_callV (M' := MX3_taxAt) (As := [.ref v1, .int v0]) rfl rfl rfl rfl (by decide) (Nat.le_of_ble_eq_true rfl) dX8_marginalRate_57
theorem e_X8_marginalRate_60 {v0 : Int64} {v1 : Int64} {x0 x1 x2 : Option Value} : Wp S N d MX8_marginalRate 60 [x0, x1, x2] [.long v0, .long v1] I J P Q ↔ Wp S N d MX8_marginalRate 61 [x0, x1, x2] [.long (v1 - v0)] I J P Q := wp_alu (len := 1) rfl rfl rfl dX8_marginalRate_60
theorem e_X8_marginalRate_61 {v0 : Int64} {x0 x1 x2 : Option Value} : Wp S N d MX8_marginalRate 61 [x0, x1, x2] [.long v0] I J P Q ↔ Q (some (.long v0)) I J P := wp_lret rfl dX8_marginalRate_61
theorem dX8_kinks_0 : decode cX8_kinks 0 = .ok (.aload_n 0, 1) := by decide +kernel
theorem dX8_kinks_1 : decode cX8_kinks 1 = .ok (.iload_n 1, 1) := by decide +kernel
theorem dX8_kinks_2 : decode cX8_kinks 2 = .ok (.bipush 6, 2) := by decide +kernel
theorem dX8_kinks_4 : decode cX8_kinks 4 = .ok (.invokevirtual 123, 3) := by decide +kernel
theorem dX8_kinks_7 : decode cX8_kinks 7 = .ok (.aload_n 0, 1) := by decide +kernel
theorem dX8_kinks_8 : decode cX8_kinks 8 = .ok (.getfield 57, 3) := by decide +kernel
theorem dX8_kinks_11 : decode cX8_kinks 11 = .ok (.aload_n 0, 1) := by decide +kernel
theorem dX8_kinks_12 : decode cX8_kinks 12 = .ok (.getfield 26, 3) := by decide +kernel
theorem dX8_kinks_15 : decode cX8_kinks 15 = .ok (.iload_n 1, 1) := by decide +kernel
theorem dX8_kinks_16 : decode cX8_kinks 16 = .ok (.invokevirtual 232, 3) := by decide +kernel
theorem dX8_kinks_19 : decode cX8_kinks 19 = .ok (.aload_n 0, 1) := by decide +kernel
theorem dX8_kinks_20 : decode cX8_kinks 20 = .ok (.getfield 57, 3) := by decide +kernel
theorem dX8_kinks_23 : decode cX8_kinks 23 = .ok (.aload_n 0, 1) := by decide +kernel
theorem dX8_kinks_24 : decode cX8_kinks 24 = .ok (.getfield 26, 3) := by decide +kernel
theorem dX8_kinks_27 : decode cX8_kinks 27 = .ok (.getfield 80, 3) := by decide +kernel
theorem dX8_kinks_30 : decode cX8_kinks 30 = .ok (.invokevirtual 240, 3) := by decide +kernel
theorem dX8_kinks_33 : decode cX8_kinks 33 = .ok (.ireturn, 1) := by decide +kernel
theorem c_X8_kinks {a0 : Nat} {a1 : Int32} : CWp S N d MX8_kinks [.ref a0, .int a1] I J P Q ↔ Wp S N d MX8_kinks 0 [some (.ref a0), some (.int a1)] [] I J P Q := by
  rw [cwp_iff]
  exact ⟨fun h => h.2, fun h => ⟨Nat.le_of_ble_eq_true rfl, h⟩⟩
theorem e_X8_kinks_0 {w : Nat} {x1 : Option Value} : Wp S N d MX8_kinks 0 [some (.ref w), x1] [] I J P Q ↔ Wp S N d MX8_kinks 1 [some (.ref w), x1] [.ref w] I J P Q := wp_lod (len := 1) rfl rfl rfl rfl dX8_kinks_0
theorem e_X8_kinks_1 {v0 : Nat} {w : Int32} {x0 : Option Value} : Wp S N d MX8_kinks 1 [x0, some (.int w)] [.ref v0] I J P Q ↔ Wp S N d MX8_kinks 2 [x0, some (.int w)] [.int w, .ref v0] I J P Q := wp_lod (len := 1) rfl rfl rfl rfl dX8_kinks_1
theorem e_X8_kinks_2 {v0 : Int32} {v1 : Nat} {x0 x1 : Option Value} : Wp S N d MX8_kinks 2 [x0, x1] [.int v0, .ref v1] I J P Q ↔ Wp S N d MX8_kinks 4 [x0, x1] [.int 6, .int v0, .ref v1] I J P Q := wp_bipush (by decide) dX8_kinks_2
theorem e_X8_kinks_4 {v0 : Int32} {v1 : Int32} {v2 : Nat} {x0 x1 : Option Value} : Wp S N (d + 1) MX8_kinks 4 [x0, x1] [.int v0, .int v1, .ref v2] I J P Q ↔ S v2 = 8 ∧ CWp S N d MX8_requireIndex [.ref v2, .int v1, .int v0] I J P (fun r I1 J1 P1 => Wp S N (d + 1) MX8_kinks 7 [x0, x1] (r.toList ++ []) I1 J1 P1 Q) := wp_callV (M' := MX8_requireIndex) (As := [.int v1, .int v0]) rfl rfl rfl rfl (by decide) (Nat.le_of_ble_eq_true rfl) dX8_kinks_4
theorem e_X8_kinks_7 {w : Nat} {x1 : Option Value} : Wp S N d MX8_kinks 7 [some (.ref w), x1] [] I J P Q ↔ Wp S N d MX8_kinks 8 [some (.ref w), x1] [.ref w] I J P Q := wp_lod (len := 1) rfl rfl rfl rfl dX8_kinks_7
theorem e_X8_kinks_8 {v0 : Nat} {x0 x1 : Option Value} : Wp S N d MX8_kinks 8 [x0, x1] [.ref v0] I J P Q ↔ S v0 = 8 ∧ Wp S N d MX8_kinks 11 [x0, x1] [va_rf (P v0 8)] I J P Q := wp_getf rfl rfl rfl rfl dX8_kinks_8
theorem e_X8_kinks_11 {v0 : Nat} {w : Nat} {x1 : Option Value} : Wp S N d MX8_kinks 11 [some (.ref w), x1] [.ref v0] I J P Q ↔ Wp S N d MX8_kinks 12 [some (.ref w), x1] [.ref w, .ref v0] I J P Q := wp_lod (len := 1) rfl rfl rfl rfl dX8_kinks_11
theorem e_X8_kinks_12 {v0 : Nat} {v1 : Nat} {x0 x1 : Option Value} : Wp S N d MX8_kinks 12 [x0, x1] [.ref v0, .ref v1] I J P Q ↔ S v0 = 8 ∧ Wp S N d MX8_kinks 15 [x0, x1] [va_rf (P v0 2), .ref v1] I J P Q := wp_getf rfl rfl rfl rfl dX8_kinks_12
theorem e_X8_kinks_15 {v0 : Nat} {v1 : Nat} {w : Int32} {x0 : Option Value} : Wp S N d MX8_kinks 15 [x0, some (.int w)] [.ref v0, .ref v1] I J P Q ↔ Wp S N d MX8_kinks 16 [x0, some (.int w)] [.int w, .ref v0, .ref v1] I J P Q := wp_lod (len := 1) rfl rfl rfl rfl dX8_kinks_15
theorem e_X8_kinks_16 {v0 : Int32} {v1 : Nat} {v2 : Nat} {x0 x1 : Option Value} : Wp S N (d + 1) MX8_kinks 16 [x0, x1] [.int v0, .ref v1, .ref v2] I J P Q ↔ S v2 = 3 ∧ CWp S N d MX3_turnTo [.ref v2, .ref v1, .int v0] I J P (fun r I1 J1 P1 => Wp S N (d + 1) MX8_kinks 19 [x0, x1] (r.toList ++ []) I1 J1 P1 Q) := wp_callV (M' := MX3_turnTo) (As := [.ref v1, .int v0]) rfl rfl rfl rfl (by decide) (Nat.le_of_ble_eq_true rfl) dX8_kinks_16
theorem e_X8_kinks_19 {w : Nat} {x1 : Option Value} : Wp S N d MX8_kinks 19 [some (.ref w), x1] [] I J P Q ↔ Wp S N d MX8_kinks 20 [some (.ref w), x1] [.ref w] I J P Q := wp_lod (len := 1) rfl rfl rfl rfl dX8_kinks_19
theorem e_X8_kinks_20 {v0 : Nat} {x0 x1 : Option Value} : Wp S N d MX8_kinks 20 [x0, x1] [.ref v0] I J P Q ↔ S v0 = 8 ∧ Wp S N d MX8_kinks 23 [x0, x1] [va_rf (P v0 8)] I J P Q := wp_getf rfl rfl rfl rfl dX8_kinks_20
theorem e_X8_kinks_23 {v0 : Nat} {w : Nat} {x1 : Option Value} : Wp S N d MX8_kinks 23 [some (.ref w), x1] [.ref v0] I J P Q ↔ Wp S N d MX8_kinks 24 [some (.ref w), x1] [.ref w, .ref v0] I J P Q := wp_lod (len := 1) rfl rfl rfl rfl dX8_kinks_23
theorem e_X8_kinks_24 {v0 : Nat} {v1 : Nat} {x0 x1 : Option Value} : Wp S N d MX8_kinks 24 [x0, x1] [.ref v0, .ref v1] I J P Q ↔ S v0 = 8 ∧ Wp S N d MX8_kinks 27 [x0, x1] [va_rf (P v0 2), .ref v1] I J P Q := wp_getf rfl rfl rfl rfl dX8_kinks_24
theorem e_X8_kinks_27 {v0 : Nat} {v1 : Nat} {x0 x1 : Option Value} : Wp S N d MX8_kinks 27 [x0, x1] [.ref v0, .ref v1] I J P Q ↔ S v0 = 5 ∧ Wp S N d MX8_kinks 30 [x0, x1] [va_rf (P v0 0), .ref v1] I J P Q := wp_getf rfl rfl rfl rfl dX8_kinks_27
theorem e_X8_kinks_30 {v0 : Nat} {v1 : Nat} {x0 x1 : Option Value} : Wp S N (d + 1) MX8_kinks 30 [x0, x1] [.ref v0, .ref v1] I J P Q ↔ S v1 = 3 ∧ CWp S N d MX3_countKinks [.ref v1, .ref v0] I J P (fun r I1 J1 P1 => Wp S N (d + 1) MX8_kinks 33 [x0, x1] (r.toList ++ []) I1 J1 P1 Q) := wp_callV (M' := MX3_countKinks) (As := [.ref v0]) rfl rfl rfl rfl (by decide) (Nat.le_of_ble_eq_true rfl) dX8_kinks_30
theorem e_X8_kinks_33 {v0 : Int32} {x0 x1 : Option Value} : Wp S N d MX8_kinks 33 [x0, x1] [.int v0] I J P Q ↔ Q (some (.int v0)) I J P := wp_iret rfl dX8_kinks_33
theorem dX8_steepest_0 : decode cX8_steepest 0 = .ok (.aload_n 0, 1) := by decide +kernel
theorem dX8_steepest_1 : decode cX8_steepest 1 = .ok (.iload_n 1, 1) := by decide +kernel
theorem dX8_steepest_2 : decode cX8_steepest 2 = .ok (.bipush 6, 2) := by decide +kernel
theorem dX8_steepest_4 : decode cX8_steepest 4 = .ok (.invokevirtual 123, 3) := by decide +kernel
theorem dX8_steepest_7 : decode cX8_steepest 7 = .ok (.aload_n 0, 1) := by decide +kernel
theorem dX8_steepest_8 : decode cX8_steepest 8 = .ok (.getfield 57, 3) := by decide +kernel
theorem dX8_steepest_11 : decode cX8_steepest 11 = .ok (.aload_n 0, 1) := by decide +kernel
theorem dX8_steepest_12 : decode cX8_steepest 12 = .ok (.getfield 26, 3) := by decide +kernel
theorem dX8_steepest_15 : decode cX8_steepest 15 = .ok (.iload_n 1, 1) := by decide +kernel
theorem dX8_steepest_16 : decode cX8_steepest 16 = .ok (.invokevirtual 232, 3) := by decide +kernel
theorem dX8_steepest_19 : decode cX8_steepest 19 = .ok (.aload_n 0, 1) := by decide +kernel
theorem dX8_steepest_20 : decode cX8_steepest 20 = .ok (.getfield 57, 3) := by decide +kernel
theorem dX8_steepest_23 : decode cX8_steepest 23 = .ok (.aload_n 0, 1) := by decide +kernel
theorem dX8_steepest_24 : decode cX8_steepest 24 = .ok (.getfield 26, 3) := by decide +kernel
theorem dX8_steepest_27 : decode cX8_steepest 27 = .ok (.getfield 80, 3) := by decide +kernel
theorem dX8_steepest_30 : decode cX8_steepest 30 = .ok (.invokevirtual 258, 3) := by decide +kernel
theorem dX8_steepest_33 : decode cX8_steepest 33 = .ok (.ireturn, 1) := by decide +kernel
theorem c_X8_steepest {a0 : Nat} {a1 : Int32} : CWp S N d MX8_steepest [.ref a0, .int a1] I J P Q ↔ Wp S N d MX8_steepest 0 [some (.ref a0), some (.int a1)] [] I J P Q := by
  rw [cwp_iff]
  exact ⟨fun h => h.2, fun h => ⟨Nat.le_of_ble_eq_true rfl, h⟩⟩
theorem e_X8_steepest_0 {w : Nat} {x1 : Option Value} : Wp S N d MX8_steepest 0 [some (.ref w), x1] [] I J P Q ↔ Wp S N d MX8_steepest 1 [some (.ref w), x1] [.ref w] I J P Q := wp_lod (len := 1) rfl rfl rfl rfl dX8_steepest_0
theorem e_X8_steepest_1 {v0 : Nat} {w : Int32} {x0 : Option Value} : Wp S N d MX8_steepest 1 [x0, some (.int w)] [.ref v0] I J P Q ↔ Wp S N d MX8_steepest 2 [x0, some (.int w)] [.int w, .ref v0] I J P Q := wp_lod (len := 1) rfl rfl rfl rfl dX8_steepest_1
theorem e_X8_steepest_2 {v0 : Int32} {v1 : Nat} {x0 x1 : Option Value} : Wp S N d MX8_steepest 2 [x0, x1] [.int v0, .ref v1] I J P Q ↔ Wp S N d MX8_steepest 4 [x0, x1] [.int 6, .int v0, .ref v1] I J P Q := wp_bipush (by decide) dX8_steepest_2
theorem e_X8_steepest_4 {v0 : Int32} {v1 : Int32} {v2 : Nat} {x0 x1 : Option Value} : Wp S N (d + 1) MX8_steepest 4 [x0, x1] [.int v0, .int v1, .ref v2] I J P Q ↔ S v2 = 8 ∧ CWp S N d MX8_requireIndex [.ref v2, .int v1, .int v0] I J P (fun r I1 J1 P1 => Wp S N (d + 1) MX8_steepest 7 [x0, x1] (r.toList ++ []) I1 J1 P1 Q) := wp_callV (M' := MX8_requireIndex) (As := [.int v1, .int v0]) rfl rfl rfl rfl (by decide) (Nat.le_of_ble_eq_true rfl) dX8_steepest_4
theorem e_X8_steepest_7 {w : Nat} {x1 : Option Value} : Wp S N d MX8_steepest 7 [some (.ref w), x1] [] I J P Q ↔ Wp S N d MX8_steepest 8 [some (.ref w), x1] [.ref w] I J P Q := wp_lod (len := 1) rfl rfl rfl rfl dX8_steepest_7
theorem e_X8_steepest_8 {v0 : Nat} {x0 x1 : Option Value} : Wp S N d MX8_steepest 8 [x0, x1] [.ref v0] I J P Q ↔ S v0 = 8 ∧ Wp S N d MX8_steepest 11 [x0, x1] [va_rf (P v0 8)] I J P Q := wp_getf rfl rfl rfl rfl dX8_steepest_8
theorem e_X8_steepest_11 {v0 : Nat} {w : Nat} {x1 : Option Value} : Wp S N d MX8_steepest 11 [some (.ref w), x1] [.ref v0] I J P Q ↔ Wp S N d MX8_steepest 12 [some (.ref w), x1] [.ref w, .ref v0] I J P Q := wp_lod (len := 1) rfl rfl rfl rfl dX8_steepest_11
theorem e_X8_steepest_12 {v0 : Nat} {v1 : Nat} {x0 x1 : Option Value} : Wp S N d MX8_steepest 12 [x0, x1] [.ref v0, .ref v1] I J P Q ↔ S v0 = 8 ∧ Wp S N d MX8_steepest 15 [x0, x1] [va_rf (P v0 2), .ref v1] I J P Q := wp_getf rfl rfl rfl rfl dX8_steepest_12
theorem e_X8_steepest_15 {v0 : Nat} {v1 : Nat} {w : Int32} {x0 : Option Value} : Wp S N d MX8_steepest 15 [x0, some (.int w)] [.ref v0, .ref v1] I J P Q ↔ Wp S N d MX8_steepest 16 [x0, some (.int w)] [.int w, .ref v0, .ref v1] I J P Q := wp_lod (len := 1) rfl rfl rfl rfl dX8_steepest_15
theorem e_X8_steepest_16 {v0 : Int32} {v1 : Nat} {v2 : Nat} {x0 x1 : Option Value} : Wp S N (d + 1) MX8_steepest 16 [x0, x1] [.int v0, .ref v1, .ref v2] I J P Q ↔ S v2 = 3 ∧ CWp S N d MX3_turnTo [.ref v2, .ref v1, .int v0] I J P (fun r I1 J1 P1 => Wp S N (d + 1) MX8_steepest 19 [x0, x1] (r.toList ++ []) I1 J1 P1 Q) := wp_callV (M' := MX3_turnTo) (As := [.ref v1, .int v0]) rfl rfl rfl rfl (by decide) (Nat.le_of_ble_eq_true rfl) dX8_steepest_16
theorem e_X8_steepest_19 {w : Nat} {x1 : Option Value} : Wp S N d MX8_steepest 19 [some (.ref w), x1] [] I J P Q ↔ Wp S N d MX8_steepest 20 [some (.ref w), x1] [.ref w] I J P Q := wp_lod (len := 1) rfl rfl rfl rfl dX8_steepest_19
theorem e_X8_steepest_20 {v0 : Nat} {x0 x1 : Option Value} : Wp S N d MX8_steepest 20 [x0, x1] [.ref v0] I J P Q ↔ S v0 = 8 ∧ Wp S N d MX8_steepest 23 [x0, x1] [va_rf (P v0 8)] I J P Q := wp_getf rfl rfl rfl rfl dX8_steepest_20
theorem e_X8_steepest_23 {v0 : Nat} {w : Nat} {x1 : Option Value} : Wp S N d MX8_steepest 23 [some (.ref w), x1] [.ref v0] I J P Q ↔ Wp S N d MX8_steepest 24 [some (.ref w), x1] [.ref w, .ref v0] I J P Q := wp_lod (len := 1) rfl rfl rfl rfl dX8_steepest_23
theorem e_X8_steepest_24 {v0 : Nat} {v1 : Nat} {x0 x1 : Option Value} : Wp S N d MX8_steepest 24 [x0, x1] [.ref v0, .ref v1] I J P Q ↔ S v0 = 8 ∧ Wp S N d MX8_steepest 27 [x0, x1] [va_rf (P v0 2), .ref v1] I J P Q := wp_getf rfl rfl rfl rfl dX8_steepest_24
theorem e_X8_steepest_27 {v0 : Nat} {v1 : Nat} {x0 x1 : Option Value} : Wp S N d MX8_steepest 27 [x0, x1] [.ref v0, .ref v1] I J P Q ↔ S v0 = 5 ∧ Wp S N d MX8_steepest 30 [x0, x1] [va_rf (P v0 0), .ref v1] I J P Q := wp_getf rfl rfl rfl rfl dX8_steepest_27
theorem e_X8_steepest_30 {v0 : Nat} {v1 : Nat} {x0 x1 : Option Value} : Wp S N (d + 1) MX8_steepest 30 [x0, x1] [.ref v0, .ref v1] I J P Q ↔ S v1 = 3 ∧ CWp S N d MX3_steepestPlace [.ref v1, .ref v0] I J P (fun r I1 J1 P1 => Wp S N (d + 1) MX8_steepest 33 [x0, x1] (r.toList ++ []) I1 J1 P1 Q) := wp_callV (M' := MX3_steepestPlace) (As := [.ref v0]) rfl rfl rfl rfl (by decide) (Nat.le_of_ble_eq_true rfl) dX8_steepest_30
theorem e_X8_steepest_33 {v0 : Int32} {x0 x1 : Option Value} : Wp S N d MX8_steepest 33 [x0, x1] [.int v0] I J P Q ↔ Q (some (.int v0)) I J P := wp_iret rfl dX8_steepest_33
theorem dX8_save_0 : decode cX8_save 0 = .ok (.aload_n 0, 1) := by decide +kernel
theorem dX8_save_1 : decode cX8_save 1 = .ok (.getfield 30, 3) := by decide +kernel
theorem dX8_save_4 : decode cX8_save 4 = .ok (.aload_n 0, 1) := by decide +kernel
theorem dX8_save_5 : decode cX8_save 5 = .ok (.getfield 26, 3) := by decide +kernel
theorem dX8_save_8 : decode cX8_save 8 = .ok (.invokevirtual 277, 3) := by decide +kernel
theorem dX8_save_11 : decode cX8_save 11 = .ok (.aload_n 0, 1) := by decide +kernel
theorem dX8_save_12 : decode cX8_save 12 = .ok (.iconst 1, 1) := by decide +kernel
theorem dX8_save_13 : decode cX8_save 13 = .ok (.putfield 279, 3) := by decide +kernel
theorem dX8_save_16 : decode cX8_save 16 = .ok (.return_, 1) := by decide +kernel
theorem c_X8_save {a0 : Nat} : CWp S N d MX8_save [.ref a0] I J P Q ↔ Wp S N d MX8_save 0 [some (.ref a0)] [] I J P Q := by
  rw [cwp_iff]
  exact ⟨fun h => h.2, fun h => ⟨Nat.le_of_ble_eq_true rfl, h⟩⟩
theorem e_X8_save_0 {w : Nat} : Wp S N d MX8_save 0 [some (.ref w)] [] I J P Q ↔ Wp S N d MX8_save 1 [some (.ref w)] [.ref w] I J P Q := wp_lod (len := 1) rfl rfl rfl rfl dX8_save_0
theorem e_X8_save_1 {v0 : Nat} {x0 : Option Value} : Wp S N d MX8_save 1 [x0] [.ref v0] I J P Q ↔ S v0 = 8 ∧ Wp S N d MX8_save 4 [x0] [va_rf (P v0 3)] I J P Q := wp_getf rfl rfl rfl rfl dX8_save_1
theorem e_X8_save_4 {v0 : Nat} {w : Nat} : Wp S N d MX8_save 4 [some (.ref w)] [.ref v0] I J P Q ↔ Wp S N d MX8_save 5 [some (.ref w)] [.ref w, .ref v0] I J P Q := wp_lod (len := 1) rfl rfl rfl rfl dX8_save_4
theorem e_X8_save_5 {v0 : Nat} {v1 : Nat} {x0 : Option Value} : Wp S N d MX8_save 5 [x0] [.ref v0, .ref v1] I J P Q ↔ S v0 = 8 ∧ Wp S N d MX8_save 8 [x0] [va_rf (P v0 2), .ref v1] I J P Q := wp_getf rfl rfl rfl rfl dX8_save_5
theorem e_X8_save_8 {v0 : Nat} {v1 : Nat} {x0 : Option Value} : Wp S N (d + 1) MX8_save 8 [x0] [.ref v0, .ref v1] I J P Q ↔ S v1 = 5 ∧ CWp S N d MX5_copyFrom [.ref v1, .ref v0] I J P (fun r I1 J1 P1 => Wp S N (d + 1) MX8_save 11 [x0] (r.toList ++ []) I1 J1 P1 Q) := wp_callV (M' := MX5_copyFrom) (As := [.ref v0]) rfl rfl rfl rfl (by decide) (Nat.le_of_ble_eq_true rfl) dX8_save_8
theorem e_X8_save_11 {w : Nat} : Wp S N d MX8_save 11 [some (.ref w)] [] I J P Q ↔ Wp S N d MX8_save 12 [some (.ref w)] [.ref w] I J P Q := wp_lod (len := 1) rfl rfl rfl rfl dX8_save_11
theorem e_X8_save_12 {v0 : Nat} {x0 : Option Value} : Wp S N d MX8_save 12 [x0] [.ref v0] I J P Q ↔ Wp S N d MX8_save 13 [x0] [.int 1, .ref v0] I J P Q := wp_iconst (by decide) dX8_save_12
theorem e_X8_save_13 {v0 : Int32} {v1 : Nat} (hb : isB v0) {x0 : Option Value} : Wp S N d MX8_save 13 [x0] [.int v0, .ref v1] I J P Q ↔ S v1 = 8 ∧ Wp S N d MX8_save 16 [x0] [] (u2 I v1 4 v0) J P Q := wp_putZ rfl rfl rfl rfl dX8_save_13 hb
theorem e_X8_save_16  {x0 : Option Value} : Wp S N d MX8_save 16 [x0] [] I J P Q ↔ Q none I J P := wp_vret rfl dX8_save_16
theorem dX8_assessAlone_0 : decode cX8_assessAlone 0 = .ok (.aload_n 0, 1) := by decide +kernel
theorem dX8_assessAlone_1 : decode cX8_assessAlone 1 = .ok (.getfield 43, 3) := by decide +kernel
theorem dX8_assessAlone_4 : decode cX8_assessAlone 4 = .ok (.aload_n 0, 1) := by decide +kernel
theorem dX8_assessAlone_5 : decode cX8_assessAlone 5 = .ok (.getfield 26, 3) := by decide +kernel
theorem dX8_assessAlone_8 : decode cX8_assessAlone 8 = .ok (.iload_n 1, 1) := by decide +kernel
theorem dX8_assessAlone_9 : decode cX8_assessAlone 9 = .ok (.aload_n 0, 1) := by decide +kernel
theorem dX8_assessAlone_10 : decode cX8_assessAlone 10 = .ok (.getfield 26, 3) := by decide +kernel
theorem dX8_assessAlone_13 : decode cX8_assessAlone 13 = .ok (.getfield 164, 3) := by decide +kernel
theorem dX8_assessAlone_16 : decode cX8_assessAlone 16 = .ok (.iload_n 1, 1) := by decide +kernel
theorem dX8_assessAlone_17 : decode cX8_assessAlone 17 = .ok (.iaload, 1) := by decide +kernel
theorem dX8_assessAlone_18 : decode cX8_assessAlone 18 = .ok (.invokevirtual 293, 3) := by decide +kernel
theorem dX8_assessAlone_21 : decode cX8_assessAlone 21 = .ok (.aload_n 0, 1) := by decide +kernel
theorem dX8_assessAlone_22 : decode cX8_assessAlone 22 = .ok (.getfield 43, 3) := by decide +kernel
theorem dX8_assessAlone_25 : decode cX8_assessAlone 25 = .ok (.aload_n 0, 1) := by decide +kernel
theorem dX8_assessAlone_26 : decode cX8_assessAlone 26 = .ok (.getfield 26, 3) := by decide +kernel
theorem dX8_assessAlone_29 : decode cX8_assessAlone 29 = .ok (.getfield 80, 3) := by decide +kernel
theorem dX8_assessAlone_32 : decode cX8_assessAlone 32 = .ok (.invokevirtual 296, 3) := by decide +kernel
theorem dX8_assessAlone_35 : decode cX8_assessAlone 35 = .ok (.aload_n 0, 1) := by decide +kernel
theorem dX8_assessAlone_36 : decode cX8_assessAlone 36 = .ok (.getfield 43, 3) := by decide +kernel
theorem dX8_assessAlone_39 : decode cX8_assessAlone 39 = .ok (.areturn, 1) := by decide +kernel
theorem c_X8_assessAlone {a0 : Nat} {a1 : Int32} : CWp S N d MX8_assessAlone [.ref a0, .int a1] I J P Q ↔ Wp S N d MX8_assessAlone 0 [some (.ref a0), some (.int a1)] [] I J P Q := by
  rw [cwp_iff]
  exact ⟨fun h => h.2, fun h => ⟨Nat.le_of_ble_eq_true rfl, h⟩⟩
theorem e_X8_assessAlone_0 {w : Nat} {x1 : Option Value} : Wp S N d MX8_assessAlone 0 [some (.ref w), x1] [] I J P Q ↔ Wp S N d MX8_assessAlone 1 [some (.ref w), x1] [.ref w] I J P Q := wp_lod (len := 1) rfl rfl rfl rfl dX8_assessAlone_0
theorem e_X8_assessAlone_1 {v0 : Nat} {x0 x1 : Option Value} : Wp S N d MX8_assessAlone 1 [x0, x1] [.ref v0] I J P Q ↔ S v0 = 8 ∧ Wp S N d MX8_assessAlone 4 [x0, x1] [va_rf (P v0 6)] I J P Q := wp_getf rfl rfl rfl rfl dX8_assessAlone_1
theorem e_X8_assessAlone_4 {v0 : Nat} {w : Nat} {x1 : Option Value} : Wp S N d MX8_assessAlone 4 [some (.ref w), x1] [.ref v0] I J P Q ↔ Wp S N d MX8_assessAlone 5 [some (.ref w), x1] [.ref w, .ref v0] I J P Q := wp_lod (len := 1) rfl rfl rfl rfl dX8_assessAlone_4
theorem e_X8_assessAlone_5 {v0 : Nat} {v1 : Nat} {x0 x1 : Option Value} : Wp S N d MX8_assessAlone 5 [x0, x1] [.ref v0, .ref v1] I J P Q ↔ S v0 = 8 ∧ Wp S N d MX8_assessAlone 8 [x0, x1] [va_rf (P v0 2), .ref v1] I J P Q := wp_getf rfl rfl rfl rfl dX8_assessAlone_5
theorem e_X8_assessAlone_8 {v0 : Nat} {v1 : Nat} {w : Int32} {x0 : Option Value} : Wp S N d MX8_assessAlone 8 [x0, some (.int w)] [.ref v0, .ref v1] I J P Q ↔ Wp S N d MX8_assessAlone 9 [x0, some (.int w)] [.int w, .ref v0, .ref v1] I J P Q := wp_lod (len := 1) rfl rfl rfl rfl dX8_assessAlone_8
theorem e_X8_assessAlone_9 {v0 : Int32} {v1 : Nat} {v2 : Nat} {w : Nat} {x1 : Option Value} : Wp S N d MX8_assessAlone 9 [some (.ref w), x1] [.int v0, .ref v1, .ref v2] I J P Q ↔ Wp S N d MX8_assessAlone 10 [some (.ref w), x1] [.ref w, .int v0, .ref v1, .ref v2] I J P Q := wp_lod (len := 1) rfl rfl rfl rfl dX8_assessAlone_9
theorem e_X8_assessAlone_10 {v0 : Nat} {v1 : Int32} {v2 : Nat} {v3 : Nat} {x0 x1 : Option Value} : Wp S N d MX8_assessAlone 10 [x0, x1] [.ref v0, .int v1, .ref v2, .ref v3] I J P Q ↔ S v0 = 8 ∧ Wp S N d MX8_assessAlone 13 [x0, x1] [va_rf (P v0 2), .int v1, .ref v2, .ref v3] I J P Q := wp_getf rfl rfl rfl rfl dX8_assessAlone_10
theorem e_X8_assessAlone_13 {v0 : Nat} {v1 : Int32} {v2 : Nat} {v3 : Nat} {x0 x1 : Option Value} : Wp S N d MX8_assessAlone 13 [x0, x1] [.ref v0, .int v1, .ref v2, .ref v3] I J P Q ↔ S v0 = 5 ∧ Wp S N d MX8_assessAlone 16 [x0, x1] [va_rf (P v0 3), .int v1, .ref v2, .ref v3] I J P Q := wp_getf rfl rfl rfl rfl dX8_assessAlone_13
theorem e_X8_assessAlone_16 {v0 : Nat} {v1 : Int32} {v2 : Nat} {v3 : Nat} {w : Int32} {x0 : Option Value} : Wp S N d MX8_assessAlone 16 [x0, some (.int w)] [.ref v0, .int v1, .ref v2, .ref v3] I J P Q ↔ Wp S N d MX8_assessAlone 17 [x0, some (.int w)] [.int w, .ref v0, .int v1, .ref v2, .ref v3] I J P Q := wp_lod (len := 1) rfl rfl rfl rfl dX8_assessAlone_16
theorem e_X8_assessAlone_17 {v0 : Int32} {v1 : Nat} {v2 : Int32} {v3 : Nat} {v4 : Nat} {x0 x1 : Option Value} : Wp S N d MX8_assessAlone 17 [x0, x1] [.int v0, .ref v1, .int v2, .ref v3, .ref v4] I J P Q ↔ (S v1 = 10 ∧ vp_in v0 (N v1)) ∧ Wp S N d MX8_assessAlone 18 [x0, x1] [.int (I v1 v0.toNatClampNeg), .int v2, .ref v3, .ref v4] I J P Q := wp_ald rfl rfl dX8_assessAlone_17
theorem e_X8_assessAlone_18 {v0 : Int32} {v1 : Int32} {v2 : Nat} {v3 : Nat} {x0 x1 : Option Value} : Wp S N (d + 1) MX8_assessAlone 18 [x0, x1] [.int v0, .int v1, .ref v2, .ref v3] I J P Q ↔ S v3 = 0 ∧ CWp S N d MX0_takeAlone [.ref v3, .ref v2, .int v1, .int v0] I J P (fun r I1 J1 P1 => Wp S N (d + 1) MX8_assessAlone 21 [x0, x1] (r.toList ++ []) I1 J1 P1 Q) := wp_callV (M' := MX0_takeAlone) (As := [.ref v2, .int v1, .int v0]) rfl rfl rfl rfl (by decide) (Nat.le_of_ble_eq_true rfl) dX8_assessAlone_18
theorem e_X8_assessAlone_21 {w : Nat} {x1 : Option Value} : Wp S N d MX8_assessAlone 21 [some (.ref w), x1] [] I J P Q ↔ Wp S N d MX8_assessAlone 22 [some (.ref w), x1] [.ref w] I J P Q := wp_lod (len := 1) rfl rfl rfl rfl dX8_assessAlone_21
theorem e_X8_assessAlone_22 {v0 : Nat} {x0 x1 : Option Value} : Wp S N d MX8_assessAlone 22 [x0, x1] [.ref v0] I J P Q ↔ S v0 = 8 ∧ Wp S N d MX8_assessAlone 25 [x0, x1] [va_rf (P v0 6)] I J P Q := wp_getf rfl rfl rfl rfl dX8_assessAlone_22
theorem e_X8_assessAlone_25 {v0 : Nat} {w : Nat} {x1 : Option Value} : Wp S N d MX8_assessAlone 25 [some (.ref w), x1] [.ref v0] I J P Q ↔ Wp S N d MX8_assessAlone 26 [some (.ref w), x1] [.ref w, .ref v0] I J P Q := wp_lod (len := 1) rfl rfl rfl rfl dX8_assessAlone_25
theorem e_X8_assessAlone_26 {v0 : Nat} {v1 : Nat} {x0 x1 : Option Value} : Wp S N d MX8_assessAlone 26 [x0, x1] [.ref v0, .ref v1] I J P Q ↔ S v0 = 8 ∧ Wp S N d MX8_assessAlone 29 [x0, x1] [va_rf (P v0 2), .ref v1] I J P Q := wp_getf rfl rfl rfl rfl dX8_assessAlone_26
theorem e_X8_assessAlone_29 {v0 : Nat} {v1 : Nat} {x0 x1 : Option Value} : Wp S N d MX8_assessAlone 29 [x0, x1] [.ref v0, .ref v1] I J P Q ↔ S v0 = 5 ∧ Wp S N d MX8_assessAlone 32 [x0, x1] [va_rf (P v0 0), .ref v1] I J P Q := wp_getf rfl rfl rfl rfl dX8_assessAlone_29
theorem e_X8_assessAlone_32 {v0 : Nat} {v1 : Nat} {x0 x1 : Option Value} : Wp S N (d + 1) MX8_assessAlone 32 [x0, x1] [.ref v0, .ref v1] I J P Q ↔ S v1 = 0 ∧ CWp S N d MX0_compute [.ref v1, .ref v0] I J P (fun r I1 J1 P1 => Wp S N (d + 1) MX8_assessAlone 35 [x0, x1] (r.toList ++ []) I1 J1 P1 Q) := wp_callV (M' := MX0_compute) (As := [.ref v0]) rfl rfl rfl rfl (by decide) (Nat.le_of_ble_eq_true rfl) dX8_assessAlone_32
theorem e_X8_assessAlone_35 {w : Nat} {x1 : Option Value} : Wp S N d MX8_assessAlone 35 [some (.ref w), x1] [] I J P Q ↔ Wp S N d MX8_assessAlone 36 [some (.ref w), x1] [.ref w] I J P Q := wp_lod (len := 1) rfl rfl rfl rfl dX8_assessAlone_35
theorem e_X8_assessAlone_36 {v0 : Nat} {x0 x1 : Option Value} : Wp S N d MX8_assessAlone 36 [x0, x1] [.ref v0] I J P Q ↔ S v0 = 8 ∧ Wp S N d MX8_assessAlone 39 [x0, x1] [va_rf (P v0 6)] I J P Q := wp_getf rfl rfl rfl rfl dX8_assessAlone_36
theorem e_X8_assessAlone_39 {v0 : Nat} {x0 x1 : Option Value} : Wp S N d MX8_assessAlone 39 [x0, x1] [.ref v0] I J P Q ↔ Q (some (.ref v0)) I J P := wp_aret rfl dX8_assessAlone_39
theorem dX8_chosenTax_0 : decode cX8_chosenTax 0 = .ok (.aload_n 0, 1) := by decide +kernel
theorem dX8_chosenTax_1 : decode cX8_chosenTax 1 = .ok (.getfield 26, 3) := by decide +kernel
theorem dX8_chosenTax_4 : decode cX8_chosenTax 4 = .ok (.getfield 169, 3) := by decide +kernel
theorem dX8_chosenTax_7 : decode cX8_chosenTax 7 = .ok (.iload_n 1, 1) := by decide +kernel
theorem dX8_chosenTax_8 : decode cX8_chosenTax 8 = .ok (.iaload, 1) := by decide +kernel
theorem dX8_chosenTax_9 : decode cX8_chosenTax 9 = .ok (.iconst (-1), 1) := by decide +kernel
theorem dX8_chosenTax_10 : decode cX8_chosenTax 10 = .ok (.if_icmp .ne 12, 3) := by decide +kernel
theorem dX8_chosenTax_13 : decode cX8_chosenTax 13 = .ok (.aload_n 0, 1) := by decide +kernel
theorem dX8_chosenTax_14 : decode cX8_chosenTax 14 = .ok (.iload_n 1, 1) := by decide +kernel
theorem dX8_chosenTax_15 : decode cX8_chosenTax 15 = .ok (.invokevirtual 178, 3) := by decide +kernel
theorem dX8_chosenTax_18 : decode cX8_chosenTax 18 = .ok (.getfield 182, 3) := by decide +kernel
theorem dX8_chosenTax_21 : decode cX8_chosenTax 21 = .ok (.lreturn, 1) := by decide +kernel
theorem dX8_chosenTax_22 : decode cX8_chosenTax 22 = .ok (.aload_n 0, 1) := by decide +kernel
theorem dX8_chosenTax_23 : decode cX8_chosenTax 23 = .ok (.getfield 50, 3) := by decide +kernel
theorem dX8_chosenTax_26 : decode cX8_chosenTax 26 = .ok (.aload_n 0, 1) := by decide +kernel
theorem dX8_chosenTax_27 : decode cX8_chosenTax 27 = .ok (.getfield 26, 3) := by decide +kernel
theorem dX8_chosenTax_30 : decode cX8_chosenTax 30 = .ok (.iload_n 1, 1) := by decide +kernel
theorem dX8_chosenTax_31 : decode cX8_chosenTax 31 = .ok (.aload_n 0, 1) := by decide +kernel
theorem dX8_chosenTax_32 : decode cX8_chosenTax 32 = .ok (.getfield 26, 3) := by decide +kernel
theorem dX8_chosenTax_35 : decode cX8_chosenTax 35 = .ok (.getfield 169, 3) := by decide +kernel
theorem dX8_chosenTax_38 : decode cX8_chosenTax 38 = .ok (.iload_n 1, 1) := by decide +kernel
theorem dX8_chosenTax_39 : decode cX8_chosenTax 39 = .ok (.iaload, 1) := by decide +kernel
theorem dX8_chosenTax_40 : decode cX8_chosenTax 40 = .ok (.invokevirtual 197, 3) := by decide +kernel
theorem dX8_chosenTax_43 : decode cX8_chosenTax 43 = .ok (.aload_n 0, 1) := by decide +kernel
theorem dX8_chosenTax_44 : decode cX8_chosenTax 44 = .ok (.getfield 50, 3) := by decide +kernel
theorem dX8_chosenTax_47 : decode cX8_chosenTax 47 = .ok (.invokevirtual 210, 3) := by decide +kernel
theorem dX8_chosenTax_50 : decode cX8_chosenTax 50 = .ok (.ifCond .eq 13, 3) := by decide +kernel
theorem dX8_chosenTax_53 : decode cX8_chosenTax 53 = .ok (.aload_n 0, 1) := by decide +kernel
theorem dX8_chosenTax_54 : decode cX8_chosenTax 54 = .ok (.getfield 50, 3) := by decide +kernel
theorem dX8_chosenTax_57 : decode cX8_chosenTax 57 = .ok (.getfield 201, 3) := by decide +kernel
theorem dX8_chosenTax_60 : decode cX8_chosenTax 60 = .ok (.goto 10, 3) := by decide +kernel
theorem dX8_chosenTax_63 : decode cX8_chosenTax 63 = .ok (.aload_n 0, 1) := by decide +kernel
theorem dX8_chosenTax_64 : decode cX8_chosenTax 64 = .ok (.getfield 50, 3) := by decide +kernel
theorem dX8_chosenTax_67 : decode cX8_chosenTax 67 = .ok (.getfield 204, 3) := by decide +kernel
theorem dX8_chosenTax_70 : decode cX8_chosenTax 70 = .ok (.lreturn, 1) := by decide +kernel
theorem c_X8_chosenTax {a0 : Nat} {a1 : Int32} : CWp S N d MX8_chosenTax [.ref a0, .int a1] I J P Q ↔ Wp S N d MX8_chosenTax 0 [some (.ref a0), some (.int a1)] [] I J P Q := by
  rw [cwp_iff]
  exact ⟨fun h => h.2, fun h => ⟨Nat.le_of_ble_eq_true rfl, h⟩⟩
theorem e_X8_chosenTax_0 {w : Nat} {x1 : Option Value} : Wp S N d MX8_chosenTax 0 [some (.ref w), x1] [] I J P Q ↔ Wp S N d MX8_chosenTax 1 [some (.ref w), x1] [.ref w] I J P Q := wp_lod (len := 1) rfl rfl rfl rfl dX8_chosenTax_0
theorem e_X8_chosenTax_1 {v0 : Nat} {x0 x1 : Option Value} : Wp S N d MX8_chosenTax 1 [x0, x1] [.ref v0] I J P Q ↔ S v0 = 8 ∧ Wp S N d MX8_chosenTax 4 [x0, x1] [va_rf (P v0 2)] I J P Q := wp_getf rfl rfl rfl rfl dX8_chosenTax_1
theorem e_X8_chosenTax_4 {v0 : Nat} {x0 x1 : Option Value} : Wp S N d MX8_chosenTax 4 [x0, x1] [.ref v0] I J P Q ↔ S v0 = 5 ∧ Wp S N d MX8_chosenTax 7 [x0, x1] [va_rf (P v0 4)] I J P Q := wp_getf rfl rfl rfl rfl dX8_chosenTax_4
theorem e_X8_chosenTax_7 {v0 : Nat} {w : Int32} {x0 : Option Value} : Wp S N d MX8_chosenTax 7 [x0, some (.int w)] [.ref v0] I J P Q ↔ Wp S N d MX8_chosenTax 8 [x0, some (.int w)] [.int w, .ref v0] I J P Q := wp_lod (len := 1) rfl rfl rfl rfl dX8_chosenTax_7
theorem e_X8_chosenTax_8 {v0 : Int32} {v1 : Nat} {x0 x1 : Option Value} : Wp S N d MX8_chosenTax 8 [x0, x1] [.int v0, .ref v1] I J P Q ↔ (S v1 = 10 ∧ vp_in v0 (N v1)) ∧ Wp S N d MX8_chosenTax 9 [x0, x1] [.int (I v1 v0.toNatClampNeg)] I J P Q := wp_ald rfl rfl dX8_chosenTax_8
theorem e_X8_chosenTax_9 {v0 : Int32} {x0 x1 : Option Value} : Wp S N d MX8_chosenTax 9 [x0, x1] [.int v0] I J P Q ↔ Wp S N d MX8_chosenTax 10 [x0, x1] [.int (-1), .int v0] I J P Q := wp_iconst (by decide) dX8_chosenTax_9
theorem e_X8_chosenTax_10 {v0 : Int32} {v1 : Int32} {x0 x1 : Option Value} : Wp S N d MX8_chosenTax 10 [x0, x1] [.int v0, .int v1] I J P Q ↔ (¬ v1 = v0 → Wp S N d MX8_chosenTax 22 [x0, x1] [] I J P Q) ∧ (v1 = v0 → Wp S N d MX8_chosenTax 13 [x0, x1] [] I J P Q) := wp_brn rfl rfl (by decide) dX8_chosenTax_10
theorem e_X8_chosenTax_13 {w : Nat} {x1 : Option Value} : Wp S N d MX8_chosenTax 13 [some (.ref w), x1] [] I J P Q ↔ Wp S N d MX8_chosenTax 14 [some (.ref w), x1] [.ref w] I J P Q := wp_lod (len := 1) rfl rfl rfl rfl dX8_chosenTax_13
theorem e_X8_chosenTax_14 {v0 : Nat} {w : Int32} {x0 : Option Value} : Wp S N d MX8_chosenTax 14 [x0, some (.int w)] [.ref v0] I J P Q ↔ Wp S N d MX8_chosenTax 15 [x0, some (.int w)] [.int w, .ref v0] I J P Q := wp_lod (len := 1) rfl rfl rfl rfl dX8_chosenTax_14
theorem e_X8_chosenTax_15 {v0 : Int32} {v1 : Nat} {x0 x1 : Option Value} : Wp S N (d + 1) MX8_chosenTax 15 [x0, x1] [.int v0, .ref v1] I J P Q ↔ S v1 = 8 ∧ CWp S N d MX8_assessAlone [.ref v1, .int v0] I J P (fun r I1 J1 P1 => Wp S N (d + 1) MX8_chosenTax 18 [x0, x1] (r.toList ++ []) I1 J1 P1 Q) := wp_callV (M' := MX8_assessAlone) (As := [.int v0]) rfl rfl rfl rfl (by decide) (Nat.le_of_ble_eq_true rfl) dX8_chosenTax_15
theorem e_X8_chosenTax_18 {v0 : Nat} {x0 x1 : Option Value} : Wp S N d MX8_chosenTax 18 [x0, x1] [.ref v0] I J P Q ↔ S v0 = 0 ∧ Wp S N d MX8_chosenTax 21 [x0, x1] [.long (J v0 7)] I J P Q := wp_getf rfl rfl rfl rfl dX8_chosenTax_18
theorem e_X8_chosenTax_21 {v0 : Int64} {x0 x1 : Option Value} : Wp S N d MX8_chosenTax 21 [x0, x1] [.long v0] I J P Q ↔ Q (some (.long v0)) I J P := wp_lret rfl dX8_chosenTax_21
theorem e_X8_chosenTax_22 {w : Nat} {x1 : Option Value} : Wp S N d MX8_chosenTax 22 [some (.ref w), x1] [] I J P Q ↔ Wp S N d MX8_chosenTax 23 [some (.ref w), x1] [.ref w] I J P Q := wp_lod (len := 1) rfl rfl rfl rfl dX8_chosenTax_22
theorem e_X8_chosenTax_23 {v0 : Nat} {x0 x1 : Option Value} : Wp S N d MX8_chosenTax 23 [x0, x1] [.ref v0] I J P Q ↔ S v0 = 8 ∧ Wp S N d MX8_chosenTax 26 [x0, x1] [va_rf (P v0 7)] I J P Q := wp_getf rfl rfl rfl rfl dX8_chosenTax_23
theorem e_X8_chosenTax_26 {v0 : Nat} {w : Nat} {x1 : Option Value} : Wp S N d MX8_chosenTax 26 [some (.ref w), x1] [.ref v0] I J P Q ↔ Wp S N d MX8_chosenTax 27 [some (.ref w), x1] [.ref w, .ref v0] I J P Q := wp_lod (len := 1) rfl rfl rfl rfl dX8_chosenTax_26
theorem e_X8_chosenTax_27 {v0 : Nat} {v1 : Nat} {x0 x1 : Option Value} : Wp S N d MX8_chosenTax 27 [x0, x1] [.ref v0, .ref v1] I J P Q ↔ S v0 = 8 ∧ Wp S N d MX8_chosenTax 30 [x0, x1] [va_rf (P v0 2), .ref v1] I J P Q := wp_getf rfl rfl rfl rfl dX8_chosenTax_27
theorem e_X8_chosenTax_30 {v0 : Nat} {v1 : Nat} {w : Int32} {x0 : Option Value} : Wp S N d MX8_chosenTax 30 [x0, some (.int w)] [.ref v0, .ref v1] I J P Q ↔ Wp S N d MX8_chosenTax 31 [x0, some (.int w)] [.int w, .ref v0, .ref v1] I J P Q := wp_lod (len := 1) rfl rfl rfl rfl dX8_chosenTax_30
theorem e_X8_chosenTax_31 {v0 : Int32} {v1 : Nat} {v2 : Nat} {w : Nat} {x1 : Option Value} : Wp S N d MX8_chosenTax 31 [some (.ref w), x1] [.int v0, .ref v1, .ref v2] I J P Q ↔ Wp S N d MX8_chosenTax 32 [some (.ref w), x1] [.ref w, .int v0, .ref v1, .ref v2] I J P Q := wp_lod (len := 1) rfl rfl rfl rfl dX8_chosenTax_31
theorem e_X8_chosenTax_32 {v0 : Nat} {v1 : Int32} {v2 : Nat} {v3 : Nat} {x0 x1 : Option Value} : Wp S N d MX8_chosenTax 32 [x0, x1] [.ref v0, .int v1, .ref v2, .ref v3] I J P Q ↔ S v0 = 8 ∧ Wp S N d MX8_chosenTax 35 [x0, x1] [va_rf (P v0 2), .int v1, .ref v2, .ref v3] I J P Q := wp_getf rfl rfl rfl rfl dX8_chosenTax_32
theorem e_X8_chosenTax_35 {v0 : Nat} {v1 : Int32} {v2 : Nat} {v3 : Nat} {x0 x1 : Option Value} : Wp S N d MX8_chosenTax 35 [x0, x1] [.ref v0, .int v1, .ref v2, .ref v3] I J P Q ↔ S v0 = 5 ∧ Wp S N d MX8_chosenTax 38 [x0, x1] [va_rf (P v0 4), .int v1, .ref v2, .ref v3] I J P Q := wp_getf rfl rfl rfl rfl dX8_chosenTax_35
theorem e_X8_chosenTax_38 {v0 : Nat} {v1 : Int32} {v2 : Nat} {v3 : Nat} {w : Int32} {x0 : Option Value} : Wp S N d MX8_chosenTax 38 [x0, some (.int w)] [.ref v0, .int v1, .ref v2, .ref v3] I J P Q ↔ Wp S N d MX8_chosenTax 39 [x0, some (.int w)] [.int w, .ref v0, .int v1, .ref v2, .ref v3] I J P Q := wp_lod (len := 1) rfl rfl rfl rfl dX8_chosenTax_38
theorem e_X8_chosenTax_39 {v0 : Int32} {v1 : Nat} {v2 : Int32} {v3 : Nat} {v4 : Nat} {x0 x1 : Option Value} : Wp S N d MX8_chosenTax 39 [x0, x1] [.int v0, .ref v1, .int v2, .ref v3, .ref v4] I J P Q ↔ (S v1 = 10 ∧ vp_in v0 (N v1)) ∧ Wp S N d MX8_chosenTax 40 [x0, x1] [.int (I v1 v0.toNatClampNeg), .int v2, .ref v3, .ref v4] I J P Q := wp_ald rfl rfl dX8_chosenTax_39
theorem e_X8_chosenTax_40 {v0 : Int32} {v1 : Int32} {v2 : Nat} {v3 : Nat} {x0 x1 : Option Value} : Wp S N (d + 1) MX8_chosenTax 40 [x0, x1] [.int v0, .int v1, .ref v2, .ref v3] I J P Q ↔ S v3 = 1 ∧ CWp S N d MX1_settle [.ref v3, .ref v2, .int v1, .int v0] I J P (fun r I1 J1 P1 => Wp S N (d + 1) MX8_chosenTax 43 [x0, x1] (r.toList ++ []) I1 J1 P1 Q) := wp_callV (M' := MX1_settle) (As := [.ref v2, .int v1, .int v0]) rfl rfl rfl rfl (by decide) (Nat.le_of_ble_eq_true rfl) dX8_chosenTax_40
theorem e_X8_chosenTax_43 {w : Nat} {x1 : Option Value} : Wp S N d MX8_chosenTax 43 [some (.ref w), x1] [] I J P Q ↔ Wp S N d MX8_chosenTax 44 [some (.ref w), x1] [.ref w] I J P Q := wp_lod (len := 1) rfl rfl rfl rfl dX8_chosenTax_43
theorem e_X8_chosenTax_44 {v0 : Nat} {x0 x1 : Option Value} : Wp S N d MX8_chosenTax 44 [x0, x1] [.ref v0] I J P Q ↔ S v0 = 8 ∧ Wp S N d MX8_chosenTax 47 [x0, x1] [va_rf (P v0 7)] I J P Q := wp_getf rfl rfl rfl rfl dX8_chosenTax_44
theorem e_X8_chosenTax_47 {v0 : Nat} {x0 x1 : Option Value} : Wp S N (d + 1) MX8_chosenTax 47 [x0, x1] [.ref v0] I J P Q ↔ S v0 = 1 ∧ CWp S N d MX1_prefersTogether [.ref v0] I J P (fun r I1 J1 P1 => Wp S N (d + 1) MX8_chosenTax 50 [x0, x1] (r.toList ++ []) I1 J1 P1 Q) := wp_callV (M' := MX1_prefersTogether) (As := []) rfl rfl rfl rfl (by decide) (Nat.le_of_ble_eq_true rfl) dX8_chosenTax_47
theorem e_X8_chosenTax_50 {v0 : Int32} {x0 x1 : Option Value} : Wp S N d MX8_chosenTax 50 [x0, x1] [.int v0] I J P Q ↔ (v0 = 0 → Wp S N d MX8_chosenTax 63 [x0, x1] [] I J P Q) ∧ (¬ v0 = 0 → Wp S N d MX8_chosenTax 53 [x0, x1] [] I J P Q) := wp_br rfl rfl (by decide) dX8_chosenTax_50
theorem e_X8_chosenTax_53 {w : Nat} {x1 : Option Value} : Wp S N d MX8_chosenTax 53 [some (.ref w), x1] [] I J P Q ↔ Wp S N d MX8_chosenTax 54 [some (.ref w), x1] [.ref w] I J P Q := wp_lod (len := 1) rfl rfl rfl rfl dX8_chosenTax_53
theorem e_X8_chosenTax_54 {v0 : Nat} {x0 x1 : Option Value} : Wp S N d MX8_chosenTax 54 [x0, x1] [.ref v0] I J P Q ↔ S v0 = 8 ∧ Wp S N d MX8_chosenTax 57 [x0, x1] [va_rf (P v0 7)] I J P Q := wp_getf rfl rfl rfl rfl dX8_chosenTax_54
theorem e_X8_chosenTax_57 {v0 : Nat} {x0 x1 : Option Value} : Wp S N d MX8_chosenTax 57 [x0, x1] [.ref v0] I J P Q ↔ S v0 = 1 ∧ Wp S N d MX8_chosenTax 60 [x0, x1] [.long (J v0 4)] I J P Q := wp_getf rfl rfl rfl rfl dX8_chosenTax_57
theorem e_X8_chosenTax_60 {v0 : Int64} {x0 x1 : Option Value} : Wp S N d MX8_chosenTax 60 [x0, x1] [.long v0] I J P Q ↔ Wp S N d MX8_chosenTax 70 [x0, x1] [.long v0] I J P Q := wp_go (len := 3) rfl (fun _ _ => rfl) rfl (by decide) dX8_chosenTax_60
theorem e_X8_chosenTax_63 {w : Nat} {x1 : Option Value} : Wp S N d MX8_chosenTax 63 [some (.ref w), x1] [] I J P Q ↔ Wp S N d MX8_chosenTax 64 [some (.ref w), x1] [.ref w] I J P Q := wp_lod (len := 1) rfl rfl rfl rfl dX8_chosenTax_63
theorem e_X8_chosenTax_64 {v0 : Nat} {x0 x1 : Option Value} : Wp S N d MX8_chosenTax 64 [x0, x1] [.ref v0] I J P Q ↔ S v0 = 8 ∧ Wp S N d MX8_chosenTax 67 [x0, x1] [va_rf (P v0 7)] I J P Q := wp_getf rfl rfl rfl rfl dX8_chosenTax_64
theorem e_X8_chosenTax_67 {v0 : Nat} {x0 x1 : Option Value} : Wp S N d MX8_chosenTax 67 [x0, x1] [.ref v0] I J P Q ↔ S v0 = 1 ∧ Wp S N d MX8_chosenTax 70 [x0, x1] [.long (J v0 5)] I J P Q := wp_getf rfl rfl rfl rfl dX8_chosenTax_67
theorem e_X8_chosenTax_70 {v0 : Int64} {x0 x1 : Option Value} : Wp S N d MX8_chosenTax 70 [x0, x1] [.long v0] I J P Q ↔ Q (some (.long v0)) I J P := wp_lret rfl dX8_chosenTax_70
theorem dX8_isSecond_0 : decode cX8_isSecond 0 = .ok (.aload_n 0, 1) := by decide +kernel
theorem dX8_isSecond_1 : decode cX8_isSecond 1 = .ok (.getfield 26, 3) := by decide +kernel
theorem dX8_isSecond_4 : decode cX8_isSecond 4 = .ok (.getfield 169, 3) := by decide +kernel
theorem dX8_isSecond_7 : decode cX8_isSecond 7 = .ok (.iload_n 1, 1) := by decide +kernel
theorem dX8_isSecond_8 : decode cX8_isSecond 8 = .ok (.iaload, 1) := by decide +kernel
theorem dX8_isSecond_9 : decode cX8_isSecond 9 = .ok (.iconst (-1), 1) := by decide +kernel
theorem dX8_isSecond_10 : decode cX8_isSecond 10 = .ok (.if_icmp .eq 20, 3) := by decide +kernel
theorem dX8_isSecond_13 : decode cX8_isSecond 13 = .ok (.aload_n 0, 1) := by decide +kernel
theorem dX8_isSecond_14 : decode cX8_isSecond 14 = .ok (.getfield 26, 3) := by decide +kernel
theorem dX8_isSecond_17 : decode cX8_isSecond 17 = .ok (.getfield 169, 3) := by decide +kernel
theorem dX8_isSecond_20 : decode cX8_isSecond 20 = .ok (.iload_n 1, 1) := by decide +kernel
theorem dX8_isSecond_21 : decode cX8_isSecond 21 = .ok (.iaload, 1) := by decide +kernel
theorem dX8_isSecond_22 : decode cX8_isSecond 22 = .ok (.iload_n 1, 1) := by decide +kernel
theorem dX8_isSecond_23 : decode cX8_isSecond 23 = .ok (.if_icmp .ge 7, 3) := by decide +kernel
theorem dX8_isSecond_26 : decode cX8_isSecond 26 = .ok (.iconst 1, 1) := by decide +kernel
theorem dX8_isSecond_27 : decode cX8_isSecond 27 = .ok (.goto 4, 3) := by decide +kernel
theorem dX8_isSecond_30 : decode cX8_isSecond 30 = .ok (.iconst 0, 1) := by decide +kernel
theorem dX8_isSecond_31 : decode cX8_isSecond 31 = .ok (.ireturn, 1) := by decide +kernel
theorem c_X8_isSecond {a0 : Nat} {a1 : Int32} : CWp S N d MX8_isSecond [.ref a0, .int a1] I J P Q ↔ Wp S N d MX8_isSecond 0 [some (.ref a0), some (.int a1)] [] I J P Q := by
  rw [cwp_iff]
  exact ⟨fun h => h.2, fun h => ⟨Nat.le_of_ble_eq_true rfl, h⟩⟩
theorem e_X8_isSecond_0 {w : Nat} {x1 : Option Value} : Wp S N d MX8_isSecond 0 [some (.ref w), x1] [] I J P Q ↔ Wp S N d MX8_isSecond 1 [some (.ref w), x1] [.ref w] I J P Q := wp_lod (len := 1) rfl rfl rfl rfl dX8_isSecond_0
theorem e_X8_isSecond_1 {v0 : Nat} {x0 x1 : Option Value} : Wp S N d MX8_isSecond 1 [x0, x1] [.ref v0] I J P Q ↔ S v0 = 8 ∧ Wp S N d MX8_isSecond 4 [x0, x1] [va_rf (P v0 2)] I J P Q := wp_getf rfl rfl rfl rfl dX8_isSecond_1
theorem e_X8_isSecond_4 {v0 : Nat} {x0 x1 : Option Value} : Wp S N d MX8_isSecond 4 [x0, x1] [.ref v0] I J P Q ↔ S v0 = 5 ∧ Wp S N d MX8_isSecond 7 [x0, x1] [va_rf (P v0 4)] I J P Q := wp_getf rfl rfl rfl rfl dX8_isSecond_4
theorem e_X8_isSecond_7 {v0 : Nat} {w : Int32} {x0 : Option Value} : Wp S N d MX8_isSecond 7 [x0, some (.int w)] [.ref v0] I J P Q ↔ Wp S N d MX8_isSecond 8 [x0, some (.int w)] [.int w, .ref v0] I J P Q := wp_lod (len := 1) rfl rfl rfl rfl dX8_isSecond_7
theorem e_X8_isSecond_8 {v0 : Int32} {v1 : Nat} {x0 x1 : Option Value} : Wp S N d MX8_isSecond 8 [x0, x1] [.int v0, .ref v1] I J P Q ↔ (S v1 = 10 ∧ vp_in v0 (N v1)) ∧ Wp S N d MX8_isSecond 9 [x0, x1] [.int (I v1 v0.toNatClampNeg)] I J P Q := wp_ald rfl rfl dX8_isSecond_8
theorem e_X8_isSecond_9 {v0 : Int32} {x0 x1 : Option Value} : Wp S N d MX8_isSecond 9 [x0, x1] [.int v0] I J P Q ↔ Wp S N d MX8_isSecond 10 [x0, x1] [.int (-1), .int v0] I J P Q := wp_iconst (by decide) dX8_isSecond_9
theorem e_X8_isSecond_10 {v0 : Int32} {v1 : Int32} {x0 x1 : Option Value} : Wp S N d MX8_isSecond 10 [x0, x1] [.int v0, .int v1] I J P Q ↔ (v1 = v0 → Wp S N d MX8_isSecond 30 [x0, x1] [] I J P Q) ∧ (¬ v1 = v0 → Wp S N d MX8_isSecond 13 [x0, x1] [] I J P Q) := wp_br rfl rfl (by decide) dX8_isSecond_10
theorem e_X8_isSecond_13 {w : Nat} {x1 : Option Value} : Wp S N d MX8_isSecond 13 [some (.ref w), x1] [] I J P Q ↔ Wp S N d MX8_isSecond 14 [some (.ref w), x1] [.ref w] I J P Q := wp_lod (len := 1) rfl rfl rfl rfl dX8_isSecond_13
theorem e_X8_isSecond_14 {v0 : Nat} {x0 x1 : Option Value} : Wp S N d MX8_isSecond 14 [x0, x1] [.ref v0] I J P Q ↔ S v0 = 8 ∧ Wp S N d MX8_isSecond 17 [x0, x1] [va_rf (P v0 2)] I J P Q := wp_getf rfl rfl rfl rfl dX8_isSecond_14
theorem e_X8_isSecond_17 {v0 : Nat} {x0 x1 : Option Value} : Wp S N d MX8_isSecond 17 [x0, x1] [.ref v0] I J P Q ↔ S v0 = 5 ∧ Wp S N d MX8_isSecond 20 [x0, x1] [va_rf (P v0 4)] I J P Q := wp_getf rfl rfl rfl rfl dX8_isSecond_17
theorem e_X8_isSecond_20 {v0 : Nat} {w : Int32} {x0 : Option Value} : Wp S N d MX8_isSecond 20 [x0, some (.int w)] [.ref v0] I J P Q ↔ Wp S N d MX8_isSecond 21 [x0, some (.int w)] [.int w, .ref v0] I J P Q := wp_lod (len := 1) rfl rfl rfl rfl dX8_isSecond_20
theorem e_X8_isSecond_21 {v0 : Int32} {v1 : Nat} {x0 x1 : Option Value} : Wp S N d MX8_isSecond 21 [x0, x1] [.int v0, .ref v1] I J P Q ↔ (S v1 = 10 ∧ vp_in v0 (N v1)) ∧ Wp S N d MX8_isSecond 22 [x0, x1] [.int (I v1 v0.toNatClampNeg)] I J P Q := wp_ald rfl rfl dX8_isSecond_21
theorem e_X8_isSecond_22 {v0 : Int32} {w : Int32} {x0 : Option Value} : Wp S N d MX8_isSecond 22 [x0, some (.int w)] [.int v0] I J P Q ↔ Wp S N d MX8_isSecond 23 [x0, some (.int w)] [.int w, .int v0] I J P Q := wp_lod (len := 1) rfl rfl rfl rfl dX8_isSecond_22
theorem e_X8_isSecond_23 {v0 : Int32} {v1 : Int32} {x0 x1 : Option Value} : Wp S N d MX8_isSecond 23 [x0, x1] [.int v0, .int v1] I J P Q ↔ (v0 ≤ v1 → Wp S N d MX8_isSecond 30 [x0, x1] [] I J P Q) ∧ (¬ v0 ≤ v1 → Wp S N d MX8_isSecond 26 [x0, x1] [] I J P Q) := wp_br rfl rfl (by decide) dX8_isSecond_23
theorem e_X8_isSecond_26  {x0 x1 : Option Value} : Wp S N d MX8_isSecond 26 [x0, x1] [] I J P Q ↔ Wp S N d MX8_isSecond 27 [x0, x1] [.int 1] I J P Q := wp_iconst (by decide) dX8_isSecond_26
theorem e_X8_isSecond_27 {v0 : Int32} {x0 x1 : Option Value} : Wp S N d MX8_isSecond 27 [x0, x1] [.int v0] I J P Q ↔ Wp S N d MX8_isSecond 31 [x0, x1] [.int v0] I J P Q := wp_go (len := 3) rfl (fun _ _ => rfl) rfl (by decide) dX8_isSecond_27
theorem e_X8_isSecond_30  {x0 x1 : Option Value} : Wp S N d MX8_isSecond 30 [x0, x1] [] I J P Q ↔ Wp S N d MX8_isSecond 31 [x0, x1] [.int 0] I J P Q := wp_iconst (by decide) dX8_isSecond_30
theorem e_X8_isSecond_31 {v0 : Int32} (hb : isB v0) {x0 x1 : Option Value} : Wp S N d MX8_isSecond 31 [x0, x1] [.int v0] I J P Q ↔ Q (some (.int v0)) I J P := wp_zret rfl dX8_isSecond_31 hb
end ER

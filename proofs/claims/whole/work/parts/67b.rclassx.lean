/-! the instructions' rules: X8_(appendCharacter|addRules|marry|nextKink|kinkCause|undo|restore|requireIndex|requireRange|requirePartner)$ -/
section ER
variable {S N : Nat → Nat} {d : Nat} {I : IM} {J : JM} {P : PM} {Q : Option Value → IM → JM → PM → Prop}
theorem dX8_appendCharacter_0 : decode cX8_appendCharacter 0 = .ok (.aload_n 0, 1) := by decide +kernel
theorem dX8_appendCharacter_1 : decode cX8_appendCharacter 1 = .ok (.iload_n 1, 1) := by decide +kernel
theorem dX8_appendCharacter_2 : decode cX8_appendCharacter 2 = .ok (.bipush 33, 2) := by decide +kernel
theorem dX8_appendCharacter_4 : decode cX8_appendCharacter 4 = .ok (.bipush 126, 2) := by decide +kernel
theorem dX8_appendCharacter_6 : decode cX8_appendCharacter 6 = .ok (.invokevirtual 61, 3) := by decide +kernel
theorem dX8_appendCharacter_9 : decode cX8_appendCharacter 9 = .ok (.aload_n 0, 1) := by decide +kernel
theorem dX8_appendCharacter_10 : decode cX8_appendCharacter 10 = .ok (.getfield 10, 3) := by decide +kernel
theorem dX8_appendCharacter_13 : decode cX8_appendCharacter 13 = .ok (.getfield 65, 3) := by decide +kernel
theorem dX8_appendCharacter_16 : decode cX8_appendCharacter 16 = .ok (.bipush 80, 2) := by decide +kernel
theorem dX8_appendCharacter_18 : decode cX8_appendCharacter 18 = .ok (.if_icmp .lt 13, 3) := by decide +kernel
theorem dX8_appendCharacter_21 : decode cX8_appendCharacter 21 = .ok (.new 69, 3) := by decide +kernel
theorem dX8_appendCharacter_24 : decode cX8_appendCharacter 24 = .ok (.dup, 1) := by decide +kernel
theorem dX8_appendCharacter_25 : decode cX8_appendCharacter 25 = .ok (.ldc 71, 2) := by decide +kernel
theorem dX8_appendCharacter_27 : decode cX8_appendCharacter 27 = .ok (.invokespecial 73, 3) := by decide +kernel
theorem dX8_appendCharacter_30 : decode cX8_appendCharacter 30 = .ok (.athrow, 1) := by decide +kernel
theorem dX8_appendCharacter_31 : decode cX8_appendCharacter 31 = .ok (.aload_n 0, 1) := by decide +kernel
theorem dX8_appendCharacter_32 : decode cX8_appendCharacter 32 = .ok (.getfield 10, 3) := by decide +kernel
theorem dX8_appendCharacter_35 : decode cX8_appendCharacter 35 = .ok (.getfield 76, 3) := by decide +kernel
theorem dX8_appendCharacter_38 : decode cX8_appendCharacter 38 = .ok (.aload_n 0, 1) := by decide +kernel
theorem dX8_appendCharacter_39 : decode cX8_appendCharacter 39 = .ok (.getfield 10, 3) := by decide +kernel
theorem dX8_appendCharacter_42 : decode cX8_appendCharacter 42 = .ok (.getfield 65, 3) := by decide +kernel
theorem dX8_appendCharacter_45 : decode cX8_appendCharacter 45 = .ok (.iload_n 1, 1) := by decide +kernel
theorem dX8_appendCharacter_46 : decode cX8_appendCharacter 46 = .ok (.iastore, 1) := by decide +kernel
theorem dX8_appendCharacter_47 : decode cX8_appendCharacter 47 = .ok (.aload_n 0, 1) := by decide +kernel
theorem dX8_appendCharacter_48 : decode cX8_appendCharacter 48 = .ok (.getfield 10, 3) := by decide +kernel
theorem dX8_appendCharacter_51 : decode cX8_appendCharacter 51 = .ok (.dup, 1) := by decide +kernel
theorem dX8_appendCharacter_52 : decode cX8_appendCharacter 52 = .ok (.getfield 65, 3) := by decide +kernel
theorem dX8_appendCharacter_55 : decode cX8_appendCharacter 55 = .ok (.iconst 1, 1) := by decide +kernel
theorem dX8_appendCharacter_56 : decode cX8_appendCharacter 56 = .ok (.iadd, 1) := by decide +kernel
theorem dX8_appendCharacter_57 : decode cX8_appendCharacter 57 = .ok (.putfield 65, 3) := by decide +kernel
theorem dX8_appendCharacter_60 : decode cX8_appendCharacter 60 = .ok (.aload_n 0, 1) := by decide +kernel
theorem dX8_appendCharacter_61 : decode cX8_appendCharacter 61 = .ok (.getfield 10, 3) := by decide +kernel
theorem dX8_appendCharacter_64 : decode cX8_appendCharacter 64 = .ok (.getfield 65, 3) := by decide +kernel
theorem dX8_appendCharacter_67 : decode cX8_appendCharacter 67 = .ok (.ireturn, 1) := by decide +kernel
theorem c_X8_appendCharacter {a0 : Nat} {a1 : Int32} : CWp S N d MX8_appendCharacter [.ref a0, .int a1] I J P Q ↔ Wp S N d MX8_appendCharacter 0 [some (.ref a0), some (.int a1)] [] I J P Q := by
  rw [cwp_iff]
  exact ⟨fun h => h.2, fun h => ⟨Nat.le_of_ble_eq_true rfl, h⟩⟩
theorem e_X8_appendCharacter_0 {w : Nat} {x1 : Option Value} : Wp S N d MX8_appendCharacter 0 [some (.ref w), x1] [] I J P Q ↔ Wp S N d MX8_appendCharacter 1 [some (.ref w), x1] [.ref w] I J P Q := wp_lod (len := 1) rfl rfl rfl rfl dX8_appendCharacter_0
theorem e_X8_appendCharacter_1 {v0 : Nat} {w : Int32} {x0 : Option Value} : Wp S N d MX8_appendCharacter 1 [x0, some (.int w)] [.ref v0] I J P Q ↔ Wp S N d MX8_appendCharacter 2 [x0, some (.int w)] [.int w, .ref v0] I J P Q := wp_lod (len := 1) rfl rfl rfl rfl dX8_appendCharacter_1
theorem e_X8_appendCharacter_2 {v0 : Int32} {v1 : Nat} {x0 x1 : Option Value} : Wp S N d MX8_appendCharacter 2 [x0, x1] [.int v0, .ref v1] I J P Q ↔ Wp S N d MX8_appendCharacter 4 [x0, x1] [.int 33, .int v0, .ref v1] I J P Q := wp_bipush (by decide) dX8_appendCharacter_2
theorem e_X8_appendCharacter_4 {v0 : Int32} {v1 : Int32} {v2 : Nat} {x0 x1 : Option Value} : Wp S N d MX8_appendCharacter 4 [x0, x1] [.int v0, .int v1, .ref v2] I J P Q ↔ Wp S N d MX8_appendCharacter 6 [x0, x1] [.int 126, .int v0, .int v1, .ref v2] I J P Q := wp_bipush (by decide) dX8_appendCharacter_4
theorem e_X8_appendCharacter_6 {v0 : Int32} {v1 : Int32} {v2 : Int32} {v3 : Nat} {x0 x1 : Option Value} : Wp S N (d + 1) MX8_appendCharacter 6 [x0, x1] [.int v0, .int v1, .int v2, .ref v3] I J P Q ↔ S v3 = 8 ∧ CWp S N d MX8_requireRange [.ref v3, .int v2, .int v1, .int v0] I J P (fun r I1 J1 P1 => Wp S N (d + 1) MX8_appendCharacter 9 [x0, x1] (r.toList ++ []) I1 J1 P1 Q) := wp_callV (M' := MX8_requireRange) (As := [.int v2, .int v1, .int v0]) rfl rfl rfl rfl (by decide) (Nat.le_of_ble_eq_true rfl) dX8_appendCharacter_6
theorem e_X8_appendCharacter_9 {w : Nat} {x1 : Option Value} : Wp S N d MX8_appendCharacter 9 [some (.ref w), x1] [] I J P Q ↔ Wp S N d MX8_appendCharacter 10 [some (.ref w), x1] [.ref w] I J P Q := wp_lod (len := 1) rfl rfl rfl rfl dX8_appendCharacter_9
theorem e_X8_appendCharacter_10 {v0 : Nat} {x0 x1 : Option Value} : Wp S N d MX8_appendCharacter 10 [x0, x1] [.ref v0] I J P Q ↔ S v0 = 8 ∧ Wp S N d MX8_appendCharacter 13 [x0, x1] [va_rf (P v0 0)] I J P Q := wp_getf rfl rfl rfl rfl dX8_appendCharacter_10
theorem e_X8_appendCharacter_13 {v0 : Nat} {x0 x1 : Option Value} : Wp S N d MX8_appendCharacter 13 [x0, x1] [.ref v0] I J P Q ↔ S v0 = 6 ∧ Wp S N d MX8_appendCharacter 16 [x0, x1] [.int (I v0 1)] I J P Q := wp_getf rfl rfl rfl rfl dX8_appendCharacter_13
theorem e_X8_appendCharacter_16 {v0 : Int32} {x0 x1 : Option Value} : Wp S N d MX8_appendCharacter 16 [x0, x1] [.int v0] I J P Q ↔ Wp S N d MX8_appendCharacter 18 [x0, x1] [.int 80, .int v0] I J P Q := wp_bipush (by decide) dX8_appendCharacter_16
theorem e_X8_appendCharacter_18 {v0 : Int32} {v1 : Int32} {x0 x1 : Option Value} : Wp S N d MX8_appendCharacter 18 [x0, x1] [.int v0, .int v1] I J P Q ↔ (v1 < v0 → Wp S N d MX8_appendCharacter 31 [x0, x1] [] I J P Q) ∧ (¬ v1 < v0 → Wp S N d MX8_appendCharacter 21 [x0, x1] [] I J P Q) := wp_br rfl rfl (by decide) dX8_appendCharacter_18
theorem e_X8_appendCharacter_31 {w : Nat} {x1 : Option Value} : Wp S N d MX8_appendCharacter 31 [some (.ref w), x1] [] I J P Q ↔ Wp S N d MX8_appendCharacter 32 [some (.ref w), x1] [.ref w] I J P Q := wp_lod (len := 1) rfl rfl rfl rfl dX8_appendCharacter_31
theorem e_X8_appendCharacter_32 {v0 : Nat} {x0 x1 : Option Value} : Wp S N d MX8_appendCharacter 32 [x0, x1] [.ref v0] I J P Q ↔ S v0 = 8 ∧ Wp S N d MX8_appendCharacter 35 [x0, x1] [va_rf (P v0 0)] I J P Q := wp_getf rfl rfl rfl rfl dX8_appendCharacter_32
theorem e_X8_appendCharacter_35 {v0 : Nat} {x0 x1 : Option Value} : Wp S N d MX8_appendCharacter 35 [x0, x1] [.ref v0] I J P Q ↔ S v0 = 6 ∧ Wp S N d MX8_appendCharacter 38 [x0, x1] [va_rf (P v0 0)] I J P Q := wp_getf rfl rfl rfl rfl dX8_appendCharacter_35
theorem e_X8_appendCharacter_38 {v0 : Nat} {w : Nat} {x1 : Option Value} : Wp S N d MX8_appendCharacter 38 [some (.ref w), x1] [.ref v0] I J P Q ↔ Wp S N d MX8_appendCharacter 39 [some (.ref w), x1] [.ref w, .ref v0] I J P Q := wp_lod (len := 1) rfl rfl rfl rfl dX8_appendCharacter_38
theorem e_X8_appendCharacter_39 {v0 : Nat} {v1 : Nat} {x0 x1 : Option Value} : Wp S N d MX8_appendCharacter 39 [x0, x1] [.ref v0, .ref v1] I J P Q ↔ S v0 = 8 ∧ Wp S N d MX8_appendCharacter 42 [x0, x1] [va_rf (P v0 0), .ref v1] I J P Q := wp_getf rfl rfl rfl rfl dX8_appendCharacter_39
theorem e_X8_appendCharacter_42 {v0 : Nat} {v1 : Nat} {x0 x1 : Option Value} : Wp S N d MX8_appendCharacter 42 [x0, x1] [.ref v0, .ref v1] I J P Q ↔ S v0 = 6 ∧ Wp S N d MX8_appendCharacter 45 [x0, x1] [.int (I v0 1), .ref v1] I J P Q := wp_getf rfl rfl rfl rfl dX8_appendCharacter_42
theorem e_X8_appendCharacter_45 {v0 : Int32} {v1 : Nat} {w : Int32} {x0 : Option Value} : Wp S N d MX8_appendCharacter 45 [x0, some (.int w)] [.int v0, .ref v1] I J P Q ↔ Wp S N d MX8_appendCharacter 46 [x0, some (.int w)] [.int w, .int v0, .ref v1] I J P Q := wp_lod (len := 1) rfl rfl rfl rfl dX8_appendCharacter_45
theorem e_X8_appendCharacter_46 {v0 : Int32} {v1 : Int32} {v2 : Nat} {x0 x1 : Option Value} : Wp S N d MX8_appendCharacter 46 [x0, x1] [.int v0, .int v1, .ref v2] I J P Q ↔ (S v2 = 10 ∧ vp_in v1 (N v2)) ∧ Wp S N d MX8_appendCharacter 47 [x0, x1] [] (u2 I v2 v1.toNatClampNeg v0) J P Q := wp_ast rfl rfl dX8_appendCharacter_46
theorem e_X8_appendCharacter_47 {w : Nat} {x1 : Option Value} : Wp S N d MX8_appendCharacter 47 [some (.ref w), x1] [] I J P Q ↔ Wp S N d MX8_appendCharacter 48 [some (.ref w), x1] [.ref w] I J P Q := wp_lod (len := 1) rfl rfl rfl rfl dX8_appendCharacter_47
theorem e_X8_appendCharacter_48 {v0 : Nat} {x0 x1 : Option Value} : Wp S N d MX8_appendCharacter 48 [x0, x1] [.ref v0] I J P Q ↔ S v0 = 8 ∧ Wp S N d MX8_appendCharacter 51 [x0, x1] [va_rf (P v0 0)] I J P Q := wp_getf rfl rfl rfl rfl dX8_appendCharacter_48
theorem e_X8_appendCharacter_51 {v0 : Nat} {x0 x1 : Option Value} : Wp S N d MX8_appendCharacter 51 [x0, x1] [.ref v0] I J P Q ↔ Wp S N d MX8_appendCharacter 52 [x0, x1] [.ref v0, .ref v0] I J P Q := wp_alu (len := 1) rfl rfl rfl dX8_appendCharacter_51
theorem e_X8_appendCharacter_52 {v0 : Nat} {v1 : Nat} {x0 x1 : Option Value} : Wp S N d MX8_appendCharacter 52 [x0, x1] [.ref v0, .ref v1] I J P Q ↔ S v0 = 6 ∧ Wp S N d MX8_appendCharacter 55 [x0, x1] [.int (I v0 1), .ref v1] I J P Q := wp_getf rfl rfl rfl rfl dX8_appendCharacter_52
theorem e_X8_appendCharacter_55 {v0 : Int32} {v1 : Nat} {x0 x1 : Option Value} : Wp S N d MX8_appendCharacter 55 [x0, x1] [.int v0, .ref v1] I J P Q ↔ Wp S N d MX8_appendCharacter 56 [x0, x1] [.int 1, .int v0, .ref v1] I J P Q := wp_iconst (by decide) dX8_appendCharacter_55
theorem e_X8_appendCharacter_56 {v0 : Int32} {v1 : Int32} {v2 : Nat} {x0 x1 : Option Value} : Wp S N d MX8_appendCharacter 56 [x0, x1] [.int v0, .int v1, .ref v2] I J P Q ↔ Wp S N d MX8_appendCharacter 57 [x0, x1] [.int (v1 + v0), .ref v2] I J P Q := wp_alu (len := 1) rfl rfl rfl dX8_appendCharacter_56
theorem e_X8_appendCharacter_57 {v0 : Int32} {v1 : Nat} {x0 x1 : Option Value} : Wp S N d MX8_appendCharacter 57 [x0, x1] [.int v0, .ref v1] I J P Q ↔ S v1 = 6 ∧ Wp S N d MX8_appendCharacter 60 [x0, x1] [] (u2 I v1 1 v0) J P Q := wp_putI rfl rfl rfl rfl dX8_appendCharacter_57
theorem e_X8_appendCharacter_60 {w : Nat} {x1 : Option Value} : Wp S N d MX8_appendCharacter 60 [some (.ref w), x1] [] I J P Q ↔ Wp S N d MX8_appendCharacter 61 [some (.ref w), x1] [.ref w] I J P Q := wp_lod (len := 1) rfl rfl rfl rfl dX8_appendCharacter_60
theorem e_X8_appendCharacter_61 {v0 : Nat} {x0 x1 : Option Value} : Wp S N d MX8_appendCharacter 61 [x0, x1] [.ref v0] I J P Q ↔ S v0 = 8 ∧ Wp S N d MX8_appendCharacter 64 [x0, x1] [va_rf (P v0 0)] I J P Q := wp_getf rfl rfl rfl rfl dX8_appendCharacter_61
theorem e_X8_appendCharacter_64 {v0 : Nat} {x0 x1 : Option Value} : Wp S N d MX8_appendCharacter 64 [x0, x1] [.ref v0] I J P Q ↔ S v0 = 6 ∧ Wp S N d MX8_appendCharacter 67 [x0, x1] [.int (I v0 1)] I J P Q := wp_getf rfl rfl rfl rfl dX8_appendCharacter_64
theorem e_X8_appendCharacter_67 {v0 : Int32} {x0 x1 : Option Value} : Wp S N d MX8_appendCharacter 67 [x0, x1] [.int v0] I J P Q ↔ Q (some (.int v0)) I J P := wp_iret rfl dX8_appendCharacter_67
theorem dX8_addRules_0 : decode cX8_addRules 0 = .ok (.aload_n 0, 1) := by decide +kernel
theorem dX8_addRules_1 : decode cX8_addRules 1 = .ok (.getfield 19, 3) := by decide +kernel
theorem dX8_addRules_4 : decode cX8_addRules 4 = .ok (.aload_n 0, 1) := by decide +kernel
theorem dX8_addRules_5 : decode cX8_addRules 5 = .ok (.getfield 26, 3) := by decide +kernel
theorem dX8_addRules_8 : decode cX8_addRules 8 = .ok (.getfield 80, 3) := by decide +kernel
theorem dX8_addRules_11 : decode cX8_addRules 11 = .ok (.invokevirtual 83, 3) := by decide +kernel
theorem dX8_addRules_14 : decode cX8_addRules 14 = .ok (.aload_n 0, 1) := by decide +kernel
theorem dX8_addRules_15 : decode cX8_addRules 15 = .ok (.getfield 10, 3) := by decide +kernel
theorem dX8_addRules_18 : decode cX8_addRules 18 = .ok (.aload_n 0, 1) := by decide +kernel
theorem dX8_addRules_19 : decode cX8_addRules 19 = .ok (.getfield 19, 3) := by decide +kernel
theorem dX8_addRules_22 : decode cX8_addRules 22 = .ok (.invokevirtual 87, 3) := by decide +kernel
theorem dX8_addRules_25 : decode cX8_addRules 25 = .ok (.aload_n 0, 1) := by decide +kernel
theorem dX8_addRules_26 : decode cX8_addRules 26 = .ok (.getfield 10, 3) := by decide +kernel
theorem dX8_addRules_29 : decode cX8_addRules 29 = .ok (.getfield 90, 3) := by decide +kernel
theorem dX8_addRules_32 : decode cX8_addRules 32 = .ok (.iconst (-1), 1) := by decide +kernel
theorem dX8_addRules_33 : decode cX8_addRules 33 = .ok (.if_icmp .eq 13, 3) := by decide +kernel
theorem dX8_addRules_36 : decode cX8_addRules 36 = .ok (.new 93, 3) := by decide +kernel
theorem dX8_addRules_39 : decode cX8_addRules 39 = .ok (.dup, 1) := by decide +kernel
theorem dX8_addRules_40 : decode cX8_addRules 40 = .ok (.ldc 95, 2) := by decide +kernel
theorem dX8_addRules_42 : decode cX8_addRules 42 = .ok (.invokespecial 97, 3) := by decide +kernel
theorem dX8_addRules_45 : decode cX8_addRules 45 = .ok (.athrow, 1) := by decide +kernel
theorem dX8_addRules_46 : decode cX8_addRules 46 = .ok (.aload_n 0, 1) := by decide +kernel
theorem dX8_addRules_47 : decode cX8_addRules 47 = .ok (.getfield 10, 3) := by decide +kernel
theorem dX8_addRules_50 : decode cX8_addRules 50 = .ok (.getfield 98, 3) := by decide +kernel
theorem dX8_addRules_53 : decode cX8_addRules 53 = .ok (.ifCond .ne 13, 3) := by decide +kernel
theorem dX8_addRules_56 : decode cX8_addRules 56 = .ok (.new 69, 3) := by decide +kernel
theorem dX8_addRules_59 : decode cX8_addRules 59 = .ok (.dup, 1) := by decide +kernel
theorem dX8_addRules_60 : decode cX8_addRules 60 = .ok (.ldc 102, 2) := by decide +kernel
theorem dX8_addRules_62 : decode cX8_addRules 62 = .ok (.invokespecial 73, 3) := by decide +kernel
theorem dX8_addRules_65 : decode cX8_addRules 65 = .ok (.athrow, 1) := by decide +kernel
theorem dX8_addRules_66 : decode cX8_addRules 66 = .ok (.aload_n 0, 1) := by decide +kernel
theorem dX8_addRules_67 : decode cX8_addRules 67 = .ok (.getfield 36, 3) := by decide +kernel
theorem dX8_addRules_70 : decode cX8_addRules 70 = .ok (.aload_n 0, 1) := by decide +kernel
theorem dX8_addRules_71 : decode cX8_addRules 71 = .ok (.getfield 26, 3) := by decide +kernel
theorem dX8_addRules_74 : decode cX8_addRules 74 = .ok (.invokevirtual 104, 3) := by decide +kernel
theorem dX8_addRules_77 : decode cX8_addRules 77 = .ok (.aload_n 0, 1) := by decide +kernel
theorem dX8_addRules_78 : decode cX8_addRules 78 = .ok (.getfield 26, 3) := by decide +kernel
theorem dX8_addRules_81 : decode cX8_addRules 81 = .ok (.getfield 80, 3) := by decide +kernel
theorem dX8_addRules_84 : decode cX8_addRules 84 = .ok (.aload_n 0, 1) := by decide +kernel
theorem dX8_addRules_85 : decode cX8_addRules 85 = .ok (.getfield 19, 3) := by decide +kernel
theorem dX8_addRules_88 : decode cX8_addRules 88 = .ok (.invokevirtual 83, 3) := by decide +kernel
theorem dX8_addRules_91 : decode cX8_addRules 91 = .ok (.aload_n 0, 1) := by decide +kernel
theorem dX8_addRules_92 : decode cX8_addRules 92 = .ok (.getfield 10, 3) := by decide +kernel
theorem dX8_addRules_95 : decode cX8_addRules 95 = .ok (.getfield 108, 3) := by decide +kernel
theorem dX8_addRules_98 : decode cX8_addRules 98 = .ok (.ireturn, 1) := by decide +kernel
theorem c_X8_addRules {a0 : Nat} : CWp S N d MX8_addRules [.ref a0] I J P Q ↔ Wp S N d MX8_addRules 0 [some (.ref a0)] [] I J P Q := by
  rw [cwp_iff]
  exact ⟨fun h => h.2, fun h => ⟨Nat.le_of_ble_eq_true rfl, h⟩⟩
theorem e_X8_addRules_0 {w : Nat} : Wp S N d MX8_addRules 0 [some (.ref w)] [] I J P Q ↔ Wp S N d MX8_addRules 1 [some (.ref w)] [.ref w] I J P Q := wp_lod (len := 1) rfl rfl rfl rfl dX8_addRules_0
theorem e_X8_addRules_1 {v0 : Nat} {x0 : Option Value} : Wp S N d MX8_addRules 1 [x0] [.ref v0] I J P Q ↔ S v0 = 8 ∧ Wp S N d MX8_addRules 4 [x0] [va_rf (P v0 1)] I J P Q := wp_getf rfl rfl rfl rfl dX8_addRules_1
theorem e_X8_addRules_4 {v0 : Nat} {w : Nat} : Wp S N d MX8_addRules 4 [some (.ref w)] [.ref v0] I J P Q ↔ Wp S N d MX8_addRules 5 [some (.ref w)] [.ref w, .ref v0] I J P Q := wp_lod (len := 1) rfl rfl rfl rfl dX8_addRules_4
theorem e_X8_addRules_5 {v0 : Nat} {v1 : Nat} {x0 : Option Value} : Wp S N d MX8_addRules 5 [x0] [.ref v0, .ref v1] I J P Q ↔ S v0 = 8 ∧ Wp S N d MX8_addRules 8 [x0] [va_rf (P v0 2), .ref v1] I J P Q := wp_getf rfl rfl rfl rfl dX8_addRules_5
theorem e_X8_addRules_8 {v0 : Nat} {v1 : Nat} {x0 : Option Value} : Wp S N d MX8_addRules 8 [x0] [.ref v0, .ref v1] I J P Q ↔ S v0 = 5 ∧ Wp S N d MX8_addRules 11 [x0] [va_rf (P v0 0), .ref v1] I J P Q := wp_getf rfl rfl rfl rfl dX8_addRules_8
theorem e_X8_addRules_11 {v0 : Nat} {v1 : Nat} {x0 : Option Value} : Wp S N (d + 1) MX8_addRules 11 [x0] [.ref v0, .ref v1] I J P Q ↔ S v1 = 7 ∧ CWp S N d MX7_copyFrom [.ref v1, .ref v0] I J P (fun r I1 J1 P1 => Wp S N (d + 1) MX8_addRules 14 [x0] (r.toList ++ []) I1 J1 P1 Q) := wp_callV (M' := MX7_copyFrom) (As := [.ref v0]) rfl rfl rfl rfl (by decide) (Nat.le_of_ble_eq_true rfl) dX8_addRules_11
theorem e_X8_addRules_14 {w : Nat} : Wp S N d MX8_addRules 14 [some (.ref w)] [] I J P Q ↔ Wp S N d MX8_addRules 15 [some (.ref w)] [.ref w] I J P Q := wp_lod (len := 1) rfl rfl rfl rfl dX8_addRules_14
theorem e_X8_addRules_15 {v0 : Nat} {x0 : Option Value} : Wp S N d MX8_addRules 15 [x0] [.ref v0] I J P Q ↔ S v0 = 8 ∧ Wp S N d MX8_addRules 18 [x0] [va_rf (P v0 0)] I J P Q := wp_getf rfl rfl rfl rfl dX8_addRules_15
theorem e_X8_addRules_18 {v0 : Nat} {w : Nat} : Wp S N d MX8_addRules 18 [some (.ref w)] [.ref v0] I J P Q ↔ Wp S N d MX8_addRules 19 [some (.ref w)] [.ref w, .ref v0] I J P Q := wp_lod (len := 1) rfl rfl rfl rfl dX8_addRules_18
theorem e_X8_addRules_19 {v0 : Nat} {v1 : Nat} {x0 : Option Value} : Wp S N d MX8_addRules 19 [x0] [.ref v0, .ref v1] I J P Q ↔ S v0 = 8 ∧ Wp S N d MX8_addRules 22 [x0] [va_rf (P v0 1), .ref v1] I J P Q := wp_getf rfl rfl rfl rfl dX8_addRules_19
theorem e_X8_addRules_22 {v0 : Nat} {v1 : Nat} {x0 : Option Value} : Wp S N (d + 1) MX8_addRules 22 [x0] [.ref v0, .ref v1] I J P Q ↔ S v1 = 6 ∧ CWp S N d MX6_readInto [.ref v1, .ref v0] I J P (fun r I1 J1 P1 => Wp S N (d + 1) MX8_addRules 25 [x0] (r.toList ++ []) I1 J1 P1 Q) := wp_callV (M' := MX6_readInto) (As := [.ref v0]) rfl rfl rfl rfl (by decide) (Nat.le_of_ble_eq_true rfl) dX8_addRules_22
theorem e_X8_addRules_25 {w : Nat} : Wp S N d MX8_addRules 25 [some (.ref w)] [] I J P Q ↔ Wp S N d MX8_addRules 26 [some (.ref w)] [.ref w] I J P Q := wp_lod (len := 1) rfl rfl rfl rfl dX8_addRules_25
theorem e_X8_addRules_26 {v0 : Nat} {x0 : Option Value} : Wp S N d MX8_addRules 26 [x0] [.ref v0] I J P Q ↔ S v0 = 8 ∧ Wp S N d MX8_addRules 29 [x0] [va_rf (P v0 0)] I J P Q := wp_getf rfl rfl rfl rfl dX8_addRules_26
theorem e_X8_addRules_29 {v0 : Nat} {x0 : Option Value} : Wp S N d MX8_addRules 29 [x0] [.ref v0] I J P Q ↔ S v0 = 6 ∧ Wp S N d MX8_addRules 32 [x0] [.int (I v0 2)] I J P Q := wp_getf rfl rfl rfl rfl dX8_addRules_29
theorem e_X8_addRules_32 {v0 : Int32} {x0 : Option Value} : Wp S N d MX8_addRules 32 [x0] [.int v0] I J P Q ↔ Wp S N d MX8_addRules 33 [x0] [.int (-1), .int v0] I J P Q := wp_iconst (by decide) dX8_addRules_32
theorem e_X8_addRules_33 {v0 : Int32} {v1 : Int32} {x0 : Option Value} : Wp S N d MX8_addRules 33 [x0] [.int v0, .int v1] I J P Q ↔ (v1 = v0 → Wp S N d MX8_addRules 46 [x0] [] I J P Q) ∧ (¬ v1 = v0 → Wp S N d MX8_addRules 36 [x0] [] I J P Q) := wp_br rfl rfl (by decide) dX8_addRules_33
theorem e_X8_addRules_46 {w : Nat} : Wp S N d MX8_addRules 46 [some (.ref w)] [] I J P Q ↔ Wp S N d MX8_addRules 47 [some (.ref w)] [.ref w] I J P Q := wp_lod (len := 1) rfl rfl rfl rfl dX8_addRules_46
theorem e_X8_addRules_47 {v0 : Nat} {x0 : Option Value} : Wp S N d MX8_addRules 47 [x0] [.ref v0] I J P Q ↔ S v0 = 8 ∧ Wp S N d MX8_addRules 50 [x0] [va_rf (P v0 0)] I J P Q := wp_getf rfl rfl rfl rfl dX8_addRules_47
theorem e_X8_addRules_50 {v0 : Nat} {x0 : Option Value} : Wp S N d MX8_addRules 50 [x0] [.ref v0] I J P Q ↔ S v0 = 6 ∧ Wp S N d MX8_addRules 53 [x0] [.int (I v0 4)] I J P Q := wp_getf rfl rfl rfl rfl dX8_addRules_50
theorem e_X8_addRules_53 {v0 : Int32} {x0 : Option Value} : Wp S N d MX8_addRules 53 [x0] [.int v0] I J P Q ↔ (¬ v0 = 0 → Wp S N d MX8_addRules 66 [x0] [] I J P Q) ∧ (v0 = 0 → Wp S N d MX8_addRules 56 [x0] [] I J P Q) := wp_brn rfl rfl (by decide) dX8_addRules_53
theorem e_X8_addRules_66 {w : Nat} : Wp S N d MX8_addRules 66 [some (.ref w)] [] I J P Q ↔ Wp S N d MX8_addRules 67 [some (.ref w)] [.ref w] I J P Q := wp_lod (len := 1) rfl rfl rfl rfl dX8_addRules_66
theorem e_X8_addRules_67 {v0 : Nat} {x0 : Option Value} : Wp S N d MX8_addRules 67 [x0] [.ref v0] I J P Q ↔ S v0 = 8 ∧ Wp S N d MX8_addRules 70 [x0] [va_rf (P v0 5)] I J P Q := wp_getf rfl rfl rfl rfl dX8_addRules_67
theorem e_X8_addRules_70 {v0 : Nat} {w : Nat} : Wp S N d MX8_addRules 70 [some (.ref w)] [.ref v0] I J P Q ↔ Wp S N d MX8_addRules 71 [some (.ref w)] [.ref w, .ref v0] I J P Q := wp_lod (len := 1) rfl rfl rfl rfl dX8_addRules_70
theorem e_X8_addRules_71 {v0 : Nat} {v1 : Nat} {x0 : Option Value} : Wp S N d MX8_addRules 71 [x0] [.ref v0, .ref v1] I J P Q ↔ S v0 = 8 ∧ Wp S N d MX8_addRules 74 [x0] [va_rf (P v0 2), .ref v1] I J P Q := wp_getf rfl rfl rfl rfl dX8_addRules_71
theorem e_X8_addRules_74 {v0 : Nat} {v1 : Nat} {x0 : Option Value} : Wp S N (d + 1) MX8_addRules 74 [x0] [.ref v0, .ref v1] I J P Q ↔ S v1 = 4 ∧ CWp S N d MX4_remember [.ref v1, .ref v0] I J P (fun r I1 J1 P1 => Wp S N (d + 1) MX8_addRules 77 [x0] (r.toList ++ []) I1 J1 P1 Q) := wp_callV (M' := MX4_remember) (As := [.ref v0]) rfl rfl rfl rfl (by decide) (Nat.le_of_ble_eq_true rfl) dX8_addRules_74
theorem e_X8_addRules_77 {w : Nat} : Wp S N d MX8_addRules 77 [some (.ref w)] [] I J P Q ↔ Wp S N d MX8_addRules 78 [some (.ref w)] [.ref w] I J P Q := wp_lod (len := 1) rfl rfl rfl rfl dX8_addRules_77
theorem e_X8_addRules_78 {v0 : Nat} {x0 : Option Value} : Wp S N d MX8_addRules 78 [x0] [.ref v0] I J P Q ↔ S v0 = 8 ∧ Wp S N d MX8_addRules 81 [x0] [va_rf (P v0 2)] I J P Q := wp_getf rfl rfl rfl rfl dX8_addRules_78
theorem e_X8_addRules_81 {v0 : Nat} {x0 : Option Value} : Wp S N d MX8_addRules 81 [x0] [.ref v0] I J P Q ↔ S v0 = 5 ∧ Wp S N d MX8_addRules 84 [x0] [va_rf (P v0 0)] I J P Q := wp_getf rfl rfl rfl rfl dX8_addRules_81
theorem e_X8_addRules_84 {v0 : Nat} {w : Nat} : Wp S N d MX8_addRules 84 [some (.ref w)] [.ref v0] I J P Q ↔ Wp S N d MX8_addRules 85 [some (.ref w)] [.ref w, .ref v0] I J P Q := wp_lod (len := 1) rfl rfl rfl rfl dX8_addRules_84
theorem e_X8_addRules_85 {v0 : Nat} {v1 : Nat} {x0 : Option Value} : Wp S N d MX8_addRules 85 [x0] [.ref v0, .ref v1] I J P Q ↔ S v0 = 8 ∧ Wp S N d MX8_addRules 88 [x0] [va_rf (P v0 1), .ref v1] I J P Q := wp_getf rfl rfl rfl rfl dX8_addRules_85
theorem e_X8_addRules_88 {v0 : Nat} {v1 : Nat} {x0 : Option Value} : Wp S N (d + 1) MX8_addRules 88 [x0] [.ref v0, .ref v1] I J P Q ↔ S v1 = 7 ∧ CWp S N d MX7_copyFrom [.ref v1, .ref v0] I J P (fun r I1 J1 P1 => Wp S N (d + 1) MX8_addRules 91 [x0] (r.toList ++ []) I1 J1 P1 Q) := wp_callV (M' := MX7_copyFrom) (As := [.ref v0]) rfl rfl rfl rfl (by decide) (Nat.le_of_ble_eq_true rfl) dX8_addRules_88
theorem e_X8_addRules_91 {w : Nat} : Wp S N d MX8_addRules 91 [some (.ref w)] [] I J P Q ↔ Wp S N d MX8_addRules 92 [some (.ref w)] [.ref w] I J P Q := wp_lod (len := 1) rfl rfl rfl rfl dX8_addRules_91
theorem e_X8_addRules_92 {v0 : Nat} {x0 : Option Value} : Wp S N d MX8_addRules 92 [x0] [.ref v0] I J P Q ↔ S v0 = 8 ∧ Wp S N d MX8_addRules 95 [x0] [va_rf (P v0 0)] I J P Q := wp_getf rfl rfl rfl rfl dX8_addRules_92
theorem e_X8_addRules_95 {v0 : Nat} {x0 : Option Value} : Wp S N d MX8_addRules 95 [x0] [.ref v0] I J P Q ↔ S v0 = 6 ∧ Wp S N d MX8_addRules 98 [x0] [.int (I v0 3)] I J P Q := wp_getf rfl rfl rfl rfl dX8_addRules_95
theorem e_X8_addRules_98 {v0 : Int32} {x0 : Option Value} : Wp S N d MX8_addRules 98 [x0] [.int v0] I J P Q ↔ Q (some (.int v0)) I J P := wp_iret rfl dX8_addRules_98
theorem dX8_marry_0 : decode cX8_marry 0 = .ok (.aload_n 0, 1) := by decide +kernel
theorem dX8_marry_1 : decode cX8_marry 1 = .ok (.iload_n 1, 1) := by decide +kernel
theorem dX8_marry_2 : decode cX8_marry 2 = .ok (.bipush 6, 2) := by decide +kernel
theorem dX8_marry_4 : decode cX8_marry 4 = .ok (.invokevirtual 123, 3) := by decide +kernel
theorem dX8_marry_7 : decode cX8_marry 7 = .ok (.aload_n 0, 1) := by decide +kernel
theorem dX8_marry_8 : decode cX8_marry 8 = .ok (.iload_n 2, 1) := by decide +kernel
theorem dX8_marry_9 : decode cX8_marry 9 = .ok (.bipush 6, 2) := by decide +kernel
theorem dX8_marry_11 : decode cX8_marry 11 = .ok (.invokevirtual 123, 3) := by decide +kernel
theorem dX8_marry_14 : decode cX8_marry 14 = .ok (.iload_n 1, 1) := by decide +kernel
theorem dX8_marry_15 : decode cX8_marry 15 = .ok (.iload_n 2, 1) := by decide +kernel
theorem dX8_marry_16 : decode cX8_marry 16 = .ok (.if_icmp .ne 13, 3) := by decide +kernel
theorem dX8_marry_19 : decode cX8_marry 19 = .ok (.new 93, 3) := by decide +kernel
theorem dX8_marry_22 : decode cX8_marry 22 = .ok (.dup, 1) := by decide +kernel
theorem dX8_marry_23 : decode cX8_marry 23 = .ok (.ldc 167, 2) := by decide +kernel
theorem dX8_marry_25 : decode cX8_marry 25 = .ok (.invokespecial 97, 3) := by decide +kernel
theorem dX8_marry_28 : decode cX8_marry 28 = .ok (.athrow, 1) := by decide +kernel
theorem dX8_marry_29 : decode cX8_marry 29 = .ok (.aload_n 0, 1) := by decide +kernel
theorem dX8_marry_30 : decode cX8_marry 30 = .ok (.getfield 26, 3) := by decide +kernel
theorem dX8_marry_33 : decode cX8_marry 33 = .ok (.getfield 169, 3) := by decide +kernel
theorem dX8_marry_36 : decode cX8_marry 36 = .ok (.iload_n 1, 1) := by decide +kernel
theorem dX8_marry_37 : decode cX8_marry 37 = .ok (.iaload, 1) := by decide +kernel
theorem dX8_marry_38 : decode cX8_marry 38 = .ok (.iconst (-1), 1) := by decide +kernel
theorem dX8_marry_39 : decode cX8_marry 39 = .ok (.if_icmp .ne 16, 3) := by decide +kernel
theorem dX8_marry_42 : decode cX8_marry 42 = .ok (.aload_n 0, 1) := by decide +kernel
theorem dX8_marry_43 : decode cX8_marry 43 = .ok (.getfield 26, 3) := by decide +kernel
theorem dX8_marry_46 : decode cX8_marry 46 = .ok (.getfield 169, 3) := by decide +kernel
theorem dX8_marry_49 : decode cX8_marry 49 = .ok (.iload_n 2, 1) := by decide +kernel
theorem dX8_marry_50 : decode cX8_marry 50 = .ok (.iaload, 1) := by decide +kernel
theorem dX8_marry_51 : decode cX8_marry 51 = .ok (.iconst (-1), 1) := by decide +kernel
theorem dX8_marry_52 : decode cX8_marry 52 = .ok (.if_icmp .eq 13, 3) := by decide +kernel
theorem dX8_marry_55 : decode cX8_marry 55 = .ok (.new 69, 3) := by decide +kernel
theorem dX8_marry_58 : decode cX8_marry 58 = .ok (.dup, 1) := by decide +kernel
theorem dX8_marry_59 : decode cX8_marry 59 = .ok (.ldc 172, 2) := by decide +kernel
theorem dX8_marry_61 : decode cX8_marry 61 = .ok (.invokespecial 73, 3) := by decide +kernel
theorem dX8_marry_64 : decode cX8_marry 64 = .ok (.athrow, 1) := by decide +kernel
theorem dX8_marry_65 : decode cX8_marry 65 = .ok (.aload_n 0, 1) := by decide +kernel
theorem dX8_marry_66 : decode cX8_marry 66 = .ok (.getfield 36, 3) := by decide +kernel
theorem dX8_marry_69 : decode cX8_marry 69 = .ok (.aload_n 0, 1) := by decide +kernel
theorem dX8_marry_70 : decode cX8_marry 70 = .ok (.getfield 26, 3) := by decide +kernel
theorem dX8_marry_73 : decode cX8_marry 73 = .ok (.invokevirtual 104, 3) := by decide +kernel
theorem dX8_marry_76 : decode cX8_marry 76 = .ok (.aload_n 0, 1) := by decide +kernel
theorem dX8_marry_77 : decode cX8_marry 77 = .ok (.getfield 26, 3) := by decide +kernel
theorem dX8_marry_80 : decode cX8_marry 80 = .ok (.getfield 169, 3) := by decide +kernel
theorem dX8_marry_83 : decode cX8_marry 83 = .ok (.iload_n 1, 1) := by decide +kernel
theorem dX8_marry_84 : decode cX8_marry 84 = .ok (.iload_n 2, 1) := by decide +kernel
theorem dX8_marry_85 : decode cX8_marry 85 = .ok (.iastore, 1) := by decide +kernel
theorem dX8_marry_86 : decode cX8_marry 86 = .ok (.aload_n 0, 1) := by decide +kernel
theorem dX8_marry_87 : decode cX8_marry 87 = .ok (.getfield 26, 3) := by decide +kernel
theorem dX8_marry_90 : decode cX8_marry 90 = .ok (.getfield 169, 3) := by decide +kernel
theorem dX8_marry_93 : decode cX8_marry 93 = .ok (.iload_n 2, 1) := by decide +kernel
theorem dX8_marry_94 : decode cX8_marry 94 = .ok (.iload_n 1, 1) := by decide +kernel
theorem dX8_marry_95 : decode cX8_marry 95 = .ok (.iastore, 1) := by decide +kernel
theorem dX8_marry_96 : decode cX8_marry 96 = .ok (.return_, 1) := by decide +kernel
theorem c_X8_marry {a0 : Nat} {a1 : Int32} {a2 : Int32} : CWp S N d MX8_marry [.ref a0, .int a1, .int a2] I J P Q ↔ Wp S N d MX8_marry 0 [some (.ref a0), some (.int a1), some (.int a2)] [] I J P Q := by
  rw [cwp_iff]
  exact ⟨fun h => h.2, fun h => ⟨Nat.le_of_ble_eq_true rfl, h⟩⟩
theorem e_X8_marry_0 {w : Nat} {x1 x2 : Option Value} : Wp S N d MX8_marry 0 [some (.ref w), x1, x2] [] I J P Q ↔ Wp S N d MX8_marry 1 [some (.ref w), x1, x2] [.ref w] I J P Q := wp_lod (len := 1) rfl rfl rfl rfl dX8_marry_0
theorem e_X8_marry_1 {v0 : Nat} {w : Int32} {x0 x2 : Option Value} : Wp S N d MX8_marry 1 [x0, some (.int w), x2] [.ref v0] I J P Q ↔ Wp S N d MX8_marry 2 [x0, some (.int w), x2] [.int w, .ref v0] I J P Q := wp_lod (len := 1) rfl rfl rfl rfl dX8_marry_1
theorem e_X8_marry_2 {v0 : Int32} {v1 : Nat} {x0 x1 x2 : Option Value} : Wp S N d MX8_marry 2 [x0, x1, x2] [.int v0, .ref v1] I J P Q ↔ Wp S N d MX8_marry 4 [x0, x1, x2] [.int 6, .int v0, .ref v1] I J P Q := wp_bipush (by decide) dX8_marry_2
theorem e_X8_marry_4 {v0 : Int32} {v1 : Int32} {v2 : Nat} {x0 x1 x2 : Option Value} : Wp S N (d + 1) MX8_marry 4 [x0, x1, x2] [.int v0, .int v1, .ref v2] I J P Q ↔ S v2 = 8 ∧ CWp S N d MX8_requireIndex [.ref v2, .int v1, .int v0] I J P (fun r I1 J1 P1 => Wp S N (d + 1) MX8_marry 7 [x0, x1, x2] (r.toList ++ []) I1 J1 P1 Q) := wp_callV (M' := MX8_requireIndex) (As := [.int v1, .int v0]) rfl rfl rfl rfl (by decide) (Nat.le_of_ble_eq_true rfl) dX8_marry_4
theorem e_X8_marry_7 {w : Nat} {x1 x2 : Option Value} : Wp S N d MX8_marry 7 [some (.ref w), x1, x2] [] I J P Q ↔ Wp S N d MX8_marry 8 [some (.ref w), x1, x2] [.ref w] I J P Q := wp_lod (len := 1) rfl rfl rfl rfl dX8_marry_7
theorem e_X8_marry_8 {v0 : Nat} {w : Int32} {x0 x1 : Option Value} : Wp S N d MX8_marry 8 [x0, x1, some (.int w)] [.ref v0] I J P Q ↔ Wp S N d MX8_marry 9 [x0, x1, some (.int w)] [.int w, .ref v0] I J P Q := wp_lod (len := 1) rfl rfl rfl rfl dX8_marry_8
theorem e_X8_marry_9 {v0 : Int32} {v1 : Nat} {x0 x1 x2 : Option Value} : Wp S N d MX8_marry 9 [x0, x1, x2] [.int v0, .ref v1] I J P Q ↔ Wp S N d MX8_marry 11 [x0, x1, x2] [.int 6, .int v0, .ref v1] I J P Q := wp_bipush (by decide) dX8_marry_9
theorem e_X8_marry_11 {v0 : Int32} {v1 : Int32} {v2 : Nat} {x0 x1 x2 : Option Value} : Wp S N (d + 1) MX8_marry 11 [x0, x1, x2] [.int v0, .int v1, .ref v2] I J P Q ↔ S v2 = 8 ∧ CWp S N d MX8_requireIndex [.ref v2, .int v1, .int v0] I J P (fun r I1 J1 P1 => Wp S N (d + 1) MX8_marry 14 [x0, x1, x2] (r.toList ++ []) I1 J1 P1 Q) := wp_callV (M' := MX8_requireIndex) (As := [.int v1, .int v0]) rfl rfl rfl rfl (by decide) (Nat.le_of_ble_eq_true rfl) dX8_marry_11
theorem e_X8_marry_14 {w : Int32} {x0 x2 : Option Value} : Wp S N d MX8_marry 14 [x0, some (.int w), x2] [] I J P Q ↔ Wp S N d MX8_marry 15 [x0, some (.int w), x2] [.int w] I J P Q := wp_lod (len := 1) rfl rfl rfl rfl dX8_marry_14
theorem e_X8_marry_15 {v0 : Int32} {w : Int32} {x0 x1 : Option Value} : Wp S N d MX8_marry 15 [x0, x1, some (.int w)] [.int v0] I J P Q ↔ Wp S N d MX8_marry 16 [x0, x1, some (.int w)] [.int w, .int v0] I J P Q := wp_lod (len := 1) rfl rfl rfl rfl dX8_marry_15
theorem e_X8_marry_16 {v0 : Int32} {v1 : Int32} {x0 x1 x2 : Option Value} : Wp S N d MX8_marry 16 [x0, x1, x2] [.int v0, .int v1] I J P Q ↔ (¬ v1 = v0 → Wp S N d MX8_marry 29 [x0, x1, x2] [] I J P Q) ∧ (v1 = v0 → Wp S N d MX8_marry 19 [x0, x1, x2] [] I J P Q) := wp_brn rfl rfl (by decide) dX8_marry_16
theorem e_X8_marry_29 {w : Nat} {x1 x2 : Option Value} : Wp S N d MX8_marry 29 [some (.ref w), x1, x2] [] I J P Q ↔ Wp S N d MX8_marry 30 [some (.ref w), x1, x2] [.ref w] I J P Q := wp_lod (len := 1) rfl rfl rfl rfl dX8_marry_29
theorem e_X8_marry_30 {v0 : Nat} {x0 x1 x2 : Option Value} : Wp S N d MX8_marry 30 [x0, x1, x2] [.ref v0] I J P Q ↔ S v0 = 8 ∧ Wp S N d MX8_marry 33 [x0, x1, x2] [va_rf (P v0 2)] I J P Q := wp_getf rfl rfl rfl rfl dX8_marry_30
theorem e_X8_marry_33 {v0 : Nat} {x0 x1 x2 : Option Value} : Wp S N d MX8_marry 33 [x0, x1, x2] [.ref v0] I J P Q ↔ S v0 = 5 ∧ Wp S N d MX8_marry 36 [x0, x1, x2] [va_rf (P v0 4)] I J P Q := wp_getf rfl rfl rfl rfl dX8_marry_33
theorem e_X8_marry_36 {v0 : Nat} {w : Int32} {x0 x2 : Option Value} : Wp S N d MX8_marry 36 [x0, some (.int w), x2] [.ref v0] I J P Q ↔ Wp S N d MX8_marry 37 [x0, some (.int w), x2] [.int w, .ref v0] I J P Q := wp_lod (len := 1) rfl rfl rfl rfl dX8_marry_36
theorem e_X8_marry_37 {v0 : Int32} {v1 : Nat} {x0 x1 x2 : Option Value} : Wp S N d MX8_marry 37 [x0, x1, x2] [.int v0, .ref v1] I J P Q ↔ (S v1 = 10 ∧ vp_in v0 (N v1)) ∧ Wp S N d MX8_marry 38 [x0, x1, x2] [.int (I v1 v0.toNatClampNeg)] I J P Q := wp_ald rfl rfl dX8_marry_37
theorem e_X8_marry_38 {v0 : Int32} {x0 x1 x2 : Option Value} : Wp S N d MX8_marry 38 [x0, x1, x2] [.int v0] I J P Q ↔ Wp S N d MX8_marry 39 [x0, x1, x2] [.int (-1), .int v0] I J P Q := wp_iconst (by decide) dX8_marry_38
theorem e_X8_marry_39 {v0 : Int32} {v1 : Int32} {x0 x1 x2 : Option Value} : Wp S N d MX8_marry 39 [x0, x1, x2] [.int v0, .int v1] I J P Q ↔ (¬ v1 = v0 → Wp S N d MX8_marry 55 [x0, x1, x2] [] I J P Q) ∧ (v1 = v0 → Wp S N d MX8_marry 42 [x0, x1, x2] [] I J P Q) := wp_brn rfl rfl (by decide) dX8_marry_39
theorem e_X8_marry_42 {w : Nat} {x1 x2 : Option Value} : Wp S N d MX8_marry 42 [some (.ref w), x1, x2] [] I J P Q ↔ Wp S N d MX8_marry 43 [some (.ref w), x1, x2] [.ref w] I J P Q := wp_lod (len := 1) rfl rfl rfl rfl dX8_marry_42
theorem e_X8_marry_43 {v0 : Nat} {x0 x1 x2 : Option Value} : Wp S N d MX8_marry 43 [x0, x1, x2] [.ref v0] I J P Q ↔ S v0 = 8 ∧ Wp S N d MX8_marry 46 [x0, x1, x2] [va_rf (P v0 2)] I J P Q := wp_getf rfl rfl rfl rfl dX8_marry_43
theorem e_X8_marry_46 {v0 : Nat} {x0 x1 x2 : Option Value} : Wp S N d MX8_marry 46 [x0, x1, x2] [.ref v0] I J P Q ↔ S v0 = 5 ∧ Wp S N d MX8_marry 49 [x0, x1, x2] [va_rf (P v0 4)] I J P Q := wp_getf rfl rfl rfl rfl dX8_marry_46
theorem e_X8_marry_49 {v0 : Nat} {w : Int32} {x0 x1 : Option Value} : Wp S N d MX8_marry 49 [x0, x1, some (.int w)] [.ref v0] I J P Q ↔ Wp S N d MX8_marry 50 [x0, x1, some (.int w)] [.int w, .ref v0] I J P Q := wp_lod (len := 1) rfl rfl rfl rfl dX8_marry_49
theorem e_X8_marry_50 {v0 : Int32} {v1 : Nat} {x0 x1 x2 : Option Value} : Wp S N d MX8_marry 50 [x0, x1, x2] [.int v0, .ref v1] I J P Q ↔ (S v1 = 10 ∧ vp_in v0 (N v1)) ∧ Wp S N d MX8_marry 51 [x0, x1, x2] [.int (I v1 v0.toNatClampNeg)] I J P Q := wp_ald rfl rfl dX8_marry_50
theorem e_X8_marry_51 {v0 : Int32} {x0 x1 x2 : Option Value} : Wp S N d MX8_marry 51 [x0, x1, x2] [.int v0] I J P Q ↔ Wp S N d MX8_marry 52 [x0, x1, x2] [.int (-1), .int v0] I J P Q := wp_iconst (by decide) dX8_marry_51
theorem e_X8_marry_52 {v0 : Int32} {v1 : Int32} {x0 x1 x2 : Option Value} : Wp S N d MX8_marry 52 [x0, x1, x2] [.int v0, .int v1] I J P Q ↔ (v1 = v0 → Wp S N d MX8_marry 65 [x0, x1, x2] [] I J P Q) ∧ (¬ v1 = v0 → Wp S N d MX8_marry 55 [x0, x1, x2] [] I J P Q) := wp_br rfl rfl (by decide) dX8_marry_52
theorem e_X8_marry_65 {w : Nat} {x1 x2 : Option Value} : Wp S N d MX8_marry 65 [some (.ref w), x1, x2] [] I J P Q ↔ Wp S N d MX8_marry 66 [some (.ref w), x1, x2] [.ref w] I J P Q := wp_lod (len := 1) rfl rfl rfl rfl dX8_marry_65
theorem e_X8_marry_66 {v0 : Nat} {x0 x1 x2 : Option Value} : Wp S N d MX8_marry 66 [x0, x1, x2] [.ref v0] I J P Q ↔ S v0 = 8 ∧ Wp S N d MX8_marry 69 [x0, x1, x2] [va_rf (P v0 5)] I J P Q := wp_getf rfl rfl rfl rfl dX8_marry_66
theorem e_X8_marry_69 {v0 : Nat} {w : Nat} {x1 x2 : Option Value} : Wp S N d MX8_marry 69 [some (.ref w), x1, x2] [.ref v0] I J P Q ↔ Wp S N d MX8_marry 70 [some (.ref w), x1, x2] [.ref w, .ref v0] I J P Q := wp_lod (len := 1) rfl rfl rfl rfl dX8_marry_69
theorem e_X8_marry_70 {v0 : Nat} {v1 : Nat} {x0 x1 x2 : Option Value} : Wp S N d MX8_marry 70 [x0, x1, x2] [.ref v0, .ref v1] I J P Q ↔ S v0 = 8 ∧ Wp S N d MX8_marry 73 [x0, x1, x2] [va_rf (P v0 2), .ref v1] I J P Q := wp_getf rfl rfl rfl rfl dX8_marry_70
theorem e_X8_marry_73 {v0 : Nat} {v1 : Nat} {x0 x1 x2 : Option Value} : Wp S N (d + 1) MX8_marry 73 [x0, x1, x2] [.ref v0, .ref v1] I J P Q ↔ S v1 = 4 ∧ CWp S N d MX4_remember [.ref v1, .ref v0] I J P (fun r I1 J1 P1 => Wp S N (d + 1) MX8_marry 76 [x0, x1, x2] (r.toList ++ []) I1 J1 P1 Q) := wp_callV (M' := MX4_remember) (As := [.ref v0]) rfl rfl rfl rfl (by decide) (Nat.le_of_ble_eq_true rfl) dX8_marry_73
theorem e_X8_marry_76 {w : Nat} {x1 x2 : Option Value} : Wp S N d MX8_marry 76 [some (.ref w), x1, x2] [] I J P Q ↔ Wp S N d MX8_marry 77 [some (.ref w), x1, x2] [.ref w] I J P Q := wp_lod (len := 1) rfl rfl rfl rfl dX8_marry_76
theorem e_X8_marry_77 {v0 : Nat} {x0 x1 x2 : Option Value} : Wp S N d MX8_marry 77 [x0, x1, x2] [.ref v0] I J P Q ↔ S v0 = 8 ∧ Wp S N d MX8_marry 80 [x0, x1, x2] [va_rf (P v0 2)] I J P Q := wp_getf rfl rfl rfl rfl dX8_marry_77
theorem e_X8_marry_80 {v0 : Nat} {x0 x1 x2 : Option Value} : Wp S N d MX8_marry 80 [x0, x1, x2] [.ref v0] I J P Q ↔ S v0 = 5 ∧ Wp S N d MX8_marry 83 [x0, x1, x2] [va_rf (P v0 4)] I J P Q := wp_getf rfl rfl rfl rfl dX8_marry_80
theorem e_X8_marry_83 {v0 : Nat} {w : Int32} {x0 x2 : Option Value} : Wp S N d MX8_marry 83 [x0, some (.int w), x2] [.ref v0] I J P Q ↔ Wp S N d MX8_marry 84 [x0, some (.int w), x2] [.int w, .ref v0] I J P Q := wp_lod (len := 1) rfl rfl rfl rfl dX8_marry_83
theorem e_X8_marry_84 {v0 : Int32} {v1 : Nat} {w : Int32} {x0 x1 : Option Value} : Wp S N d MX8_marry 84 [x0, x1, some (.int w)] [.int v0, .ref v1] I J P Q ↔ Wp S N d MX8_marry 85 [x0, x1, some (.int w)] [.int w, .int v0, .ref v1] I J P Q := wp_lod (len := 1) rfl rfl rfl rfl dX8_marry_84
theorem e_X8_marry_85 {v0 : Int32} {v1 : Int32} {v2 : Nat} {x0 x1 x2 : Option Value} : Wp S N d MX8_marry 85 [x0, x1, x2] [.int v0, .int v1, .ref v2] I J P Q ↔ (S v2 = 10 ∧ vp_in v1 (N v2)) ∧ Wp S N d MX8_marry 86 [x0, x1, x2] [] (u2 I v2 v1.toNatClampNeg v0) J P Q := wp_ast rfl rfl dX8_marry_85
theorem e_X8_marry_86 {w : Nat} {x1 x2 : Option Value} : Wp S N d MX8_marry 86 [some (.ref w), x1, x2] [] I J P Q ↔ Wp S N d MX8_marry 87 [some (.ref w), x1, x2] [.ref w] I J P Q := wp_lod (len := 1) rfl rfl rfl rfl dX8_marry_86
theorem e_X8_marry_87 {v0 : Nat} {x0 x1 x2 : Option Value} : Wp S N d MX8_marry 87 [x0, x1, x2] [.ref v0] I J P Q ↔ S v0 = 8 ∧ Wp S N d MX8_marry 90 [x0, x1, x2] [va_rf (P v0 2)] I J P Q := wp_getf rfl rfl rfl rfl dX8_marry_87
theorem e_X8_marry_90 {v0 : Nat} {x0 x1 x2 : Option Value} : Wp S N d MX8_marry 90 [x0, x1, x2] [.ref v0] I J P Q ↔ S v0 = 5 ∧ Wp S N d MX8_marry 93 [x0, x1, x2] [va_rf (P v0 4)] I J P Q := wp_getf rfl rfl rfl rfl dX8_marry_90
theorem e_X8_marry_93 {v0 : Nat} {w : Int32} {x0 x1 : Option Value} : Wp S N d MX8_marry 93 [x0, x1, some (.int w)] [.ref v0] I J P Q ↔ Wp S N d MX8_marry 94 [x0, x1, some (.int w)] [.int w, .ref v0] I J P Q := wp_lod (len := 1) rfl rfl rfl rfl dX8_marry_93
theorem e_X8_marry_94 {v0 : Int32} {v1 : Nat} {w : Int32} {x0 x2 : Option Value} : Wp S N d MX8_marry 94 [x0, some (.int w), x2] [.int v0, .ref v1] I J P Q ↔ Wp S N d MX8_marry 95 [x0, some (.int w), x2] [.int w, .int v0, .ref v1] I J P Q := wp_lod (len := 1) rfl rfl rfl rfl dX8_marry_94
theorem e_X8_marry_95 {v0 : Int32} {v1 : Int32} {v2 : Nat} {x0 x1 x2 : Option Value} : Wp S N d MX8_marry 95 [x0, x1, x2] [.int v0, .int v1, .ref v2] I J P Q ↔ (S v2 = 10 ∧ vp_in v1 (N v2)) ∧ Wp S N d MX8_marry 96 [x0, x1, x2] [] (u2 I v2 v1.toNatClampNeg v0) J P Q := wp_ast rfl rfl dX8_marry_95
theorem e_X8_marry_96  {x0 x1 x2 : Option Value} : Wp S N d MX8_marry 96 [x0, x1, x2] [] I J P Q ↔ Q none I J P := wp_vret rfl dX8_marry_96
theorem dX8_nextKink_0 : decode cX8_nextKink 0 = .ok (.aload_n 0, 1) := by decide +kernel
theorem dX8_nextKink_1 : decode cX8_nextKink 1 = .ok (.iload_n 1, 1) := by decide +kernel
theorem dX8_nextKink_2 : decode cX8_nextKink 2 = .ok (.bipush 6, 2) := by decide +kernel
theorem dX8_nextKink_4 : decode cX8_nextKink 4 = .ok (.invokevirtual 123, 3) := by decide +kernel
theorem dX8_nextKink_7 : decode cX8_nextKink 7 = .ok (.aload_n 0, 1) := by decide +kernel
theorem dX8_nextKink_8 : decode cX8_nextKink 8 = .ok (.getfield 57, 3) := by decide +kernel
theorem dX8_nextKink_11 : decode cX8_nextKink 11 = .ok (.aload_n 0, 1) := by decide +kernel
theorem dX8_nextKink_12 : decode cX8_nextKink 12 = .ok (.getfield 26, 3) := by decide +kernel
theorem dX8_nextKink_15 : decode cX8_nextKink 15 = .ok (.iload_n 1, 1) := by decide +kernel
theorem dX8_nextKink_16 : decode cX8_nextKink 16 = .ok (.invokevirtual 232, 3) := by decide +kernel
theorem dX8_nextKink_19 : decode cX8_nextKink 19 = .ok (.aload_n 0, 1) := by decide +kernel
theorem dX8_nextKink_20 : decode cX8_nextKink 20 = .ok (.getfield 57, 3) := by decide +kernel
theorem dX8_nextKink_23 : decode cX8_nextKink 23 = .ok (.aload_n 0, 1) := by decide +kernel
theorem dX8_nextKink_24 : decode cX8_nextKink 24 = .ok (.getfield 26, 3) := by decide +kernel
theorem dX8_nextKink_27 : decode cX8_nextKink 27 = .ok (.getfield 80, 3) := by decide +kernel
theorem dX8_nextKink_30 : decode cX8_nextKink 30 = .ok (.iload_n 2, 1) := by decide +kernel
theorem dX8_nextKink_31 : decode cX8_nextKink 31 = .ok (.invokevirtual 244, 3) := by decide +kernel
theorem dX8_nextKink_34 : decode cX8_nextKink 34 = .ok (.istore_n 3, 1) := by decide +kernel
theorem dX8_nextKink_35 : decode cX8_nextKink 35 = .ok (.iload_n 3, 1) := by decide +kernel
theorem dX8_nextKink_36 : decode cX8_nextKink 36 = .ok (.iconst (-1), 1) := by decide +kernel
theorem dX8_nextKink_37 : decode cX8_nextKink 37 = .ok (.if_icmp .ne 13, 3) := by decide +kernel
theorem dX8_nextKink_40 : decode cX8_nextKink 40 = .ok (.new 248, 3) := by decide +kernel
theorem dX8_nextKink_43 : decode cX8_nextKink 43 = .ok (.dup, 1) := by decide +kernel
theorem dX8_nextKink_44 : decode cX8_nextKink 44 = .ok (.ldc 250, 2) := by decide +kernel
theorem dX8_nextKink_46 : decode cX8_nextKink 46 = .ok (.invokespecial 252, 3) := by decide +kernel
theorem dX8_nextKink_49 : decode cX8_nextKink 49 = .ok (.athrow, 1) := by decide +kernel
theorem dX8_nextKink_50 : decode cX8_nextKink 50 = .ok (.iload_n 3, 1) := by decide +kernel
theorem dX8_nextKink_51 : decode cX8_nextKink 51 = .ok (.ireturn, 1) := by decide +kernel
theorem c_X8_nextKink {a0 : Nat} {a1 : Int32} {a2 : Int32} : CWp S N d MX8_nextKink [.ref a0, .int a1, .int a2] I J P Q ↔ Wp S N d MX8_nextKink 0 [some (.ref a0), some (.int a1), some (.int a2), none] [] I J P Q := by
  rw [cwp_iff]
  exact ⟨fun h => h.2, fun h => ⟨Nat.le_of_ble_eq_true rfl, h⟩⟩
theorem e_X8_nextKink_0 {w : Nat} {x1 x2 x3 : Option Value} : Wp S N d MX8_nextKink 0 [some (.ref w), x1, x2, x3] [] I J P Q ↔ Wp S N d MX8_nextKink 1 [some (.ref w), x1, x2, x3] [.ref w] I J P Q := wp_lod (len := 1) rfl rfl rfl rfl dX8_nextKink_0
theorem e_X8_nextKink_1 {v0 : Nat} {w : Int32} {x0 x2 x3 : Option Value} : Wp S N d MX8_nextKink 1 [x0, some (.int w), x2, x3] [.ref v0] I J P Q ↔ Wp S N d MX8_nextKink 2 [x0, some (.int w), x2, x3] [.int w, .ref v0] I J P Q := wp_lod (len := 1) rfl rfl rfl rfl dX8_nextKink_1
theorem e_X8_nextKink_2 {v0 : Int32} {v1 : Nat} {x0 x1 x2 x3 : Option Value} : Wp S N d MX8_nextKink 2 [x0, x1, x2, x3] [.int v0, .ref v1] I J P Q ↔ Wp S N d MX8_nextKink 4 [x0, x1, x2, x3] [.int 6, .int v0, .ref v1] I J P Q := wp_bipush (by decide) dX8_nextKink_2
theorem e_X8_nextKink_4 {v0 : Int32} {v1 : Int32} {v2 : Nat} {x0 x1 x2 x3 : Option Value} : Wp S N (d + 1) MX8_nextKink 4 [x0, x1, x2, x3] [.int v0, .int v1, .ref v2] I J P Q ↔ S v2 = 8 ∧ CWp S N d MX8_requireIndex [.ref v2, .int v1, .int v0] I J P (fun r I1 J1 P1 => Wp S N (d + 1) MX8_nextKink 7 [x0, x1, x2, x3] (r.toList ++ []) I1 J1 P1 Q) := wp_callV (M' := MX8_requireIndex) (As := [.int v1, .int v0]) rfl rfl rfl rfl (by decide) (Nat.le_of_ble_eq_true rfl) dX8_nextKink_4
theorem e_X8_nextKink_7 {w : Nat} {x1 x2 x3 : Option Value} : Wp S N d MX8_nextKink 7 [some (.ref w), x1, x2, x3] [] I J P Q ↔ Wp S N d MX8_nextKink 8 [some (.ref w), x1, x2, x3] [.ref w] I J P Q := wp_lod (len := 1) rfl rfl rfl rfl dX8_nextKink_7
theorem e_X8_nextKink_8 {v0 : Nat} {x0 x1 x2 x3 : Option Value} : Wp S N d MX8_nextKink 8 [x0, x1, x2, x3] [.ref v0] I J P Q ↔ S v0 = 8 ∧ Wp S N d MX8_nextKink 11 [x0, x1, x2, x3] [va_rf (P v0 8)] I J P Q := wp_getf rfl rfl rfl rfl dX8_nextKink_8
theorem e_X8_nextKink_11 {v0 : Nat} {w : Nat} {x1 x2 x3 : Option Value} : Wp S N d MX8_nextKink 11 [some (.ref w), x1, x2, x3] [.ref v0] I J P Q ↔ Wp S N d MX8_nextKink 12 [some (.ref w), x1, x2, x3] [.ref w, .ref v0] I J P Q := wp_lod (len := 1) rfl rfl rfl rfl dX8_nextKink_11
theorem e_X8_nextKink_12 {v0 : Nat} {v1 : Nat} {x0 x1 x2 x3 : Option Value} : Wp S N d MX8_nextKink 12 [x0, x1, x2, x3] [.ref v0, .ref v1] I J P Q ↔ S v0 = 8 ∧ Wp S N d MX8_nextKink 15 [x0, x1, x2, x3] [va_rf (P v0 2), .ref v1] I J P Q := wp_getf rfl rfl rfl rfl dX8_nextKink_12
theorem e_X8_nextKink_15 {v0 : Nat} {v1 : Nat} {w : Int32} {x0 x2 x3 : Option Value} : Wp S N d MX8_nextKink 15 [x0, some (.int w), x2, x3] [.ref v0, .ref v1] I J P Q ↔ Wp S N d MX8_nextKink 16 [x0, some (.int w), x2, x3] [.int w, .ref v0, .ref v1] I J P Q := wp_lod (len := 1) rfl rfl rfl rfl dX8_nextKink_15
theorem e_X8_nextKink_16 {v0 : Int32} {v1 : Nat} {v2 : Nat} {x0 x1 x2 x3 : Option Value} : Wp S N (d + 1) MX8_nextKink 16 [x0, x1, x2, x3] [.int v0, .ref v1, .ref v2] I J P Q ↔ S v2 = 3 ∧ CWp S N d MX3_turnTo [.ref v2, .ref v1, .int v0] I J P (fun r I1 J1 P1 => Wp S N (d + 1) MX8_nextKink 19 [x0, x1, x2, x3] (r.toList ++ []) I1 J1 P1 Q) := wp_callV (M' := MX3_turnTo) (As := [.ref v1, .int v0]) rfl rfl rfl rfl (by decide) (Nat.le_of_ble_eq_true rfl) dX8_nextKink_16
theorem e_X8_nextKink_19 {w : Nat} {x1 x2 x3 : Option Value} : Wp S N d MX8_nextKink 19 [some (.ref w), x1, x2, x3] [] I J P Q ↔ Wp S N d MX8_nextKink 20 [some (.ref w), x1, x2, x3] [.ref w] I J P Q := wp_lod (len := 1) rfl rfl rfl rfl dX8_nextKink_19
theorem e_X8_nextKink_20 {v0 : Nat} {x0 x1 x2 x3 : Option Value} : Wp S N d MX8_nextKink 20 [x0, x1, x2, x3] [.ref v0] I J P Q ↔ S v0 = 8 ∧ Wp S N d MX8_nextKink 23 [x0, x1, x2, x3] [va_rf (P v0 8)] I J P Q := wp_getf rfl rfl rfl rfl dX8_nextKink_20
theorem e_X8_nextKink_23 {v0 : Nat} {w : Nat} {x1 x2 x3 : Option Value} : Wp S N d MX8_nextKink 23 [some (.ref w), x1, x2, x3] [.ref v0] I J P Q ↔ Wp S N d MX8_nextKink 24 [some (.ref w), x1, x2, x3] [.ref w, .ref v0] I J P Q := wp_lod (len := 1) rfl rfl rfl rfl dX8_nextKink_23
theorem e_X8_nextKink_24 {v0 : Nat} {v1 : Nat} {x0 x1 x2 x3 : Option Value} : Wp S N d MX8_nextKink 24 [x0, x1, x2, x3] [.ref v0, .ref v1] I J P Q ↔ S v0 = 8 ∧ Wp S N d MX8_nextKink 27 [x0, x1, x2, x3] [va_rf (P v0 2), .ref v1] I J P Q := wp_getf rfl rfl rfl rfl dX8_nextKink_24
theorem e_X8_nextKink_27 {v0 : Nat} {v1 : Nat} {x0 x1 x2 x3 : Option Value} : Wp S N d MX8_nextKink 27 [x0, x1, x2, x3] [.ref v0, .ref v1] I J P Q ↔ S v0 = 5 ∧ Wp S N d MX8_nextKink 30 [x0, x1, x2, x3] [va_rf (P v0 0), .ref v1] I J P Q := wp_getf rfl rfl rfl rfl dX8_nextKink_27
theorem e_X8_nextKink_30 {v0 : Nat} {v1 : Nat} {w : Int32} {x0 x1 x3 : Option Value} : Wp S N d MX8_nextKink 30 [x0, x1, some (.int w), x3] [.ref v0, .ref v1] I J P Q ↔ Wp S N d MX8_nextKink 31 [x0, x1, some (.int w), x3] [.int w, .ref v0, .ref v1] I J P Q := wp_lod (len := 1) rfl rfl rfl rfl dX8_nextKink_30
theorem e_X8_nextKink_31 {v0 : Int32} {v1 : Nat} {v2 : Nat} {x0 x1 x2 x3 : Option Value} : Wp S N (d + 1) MX8_nextKink 31 [x0, x1, x2, x3] [.int v0, .ref v1, .ref v2] I J P Q ↔ S v2 = 3 ∧ CWp S N d MX3_kinkAbove [.ref v2, .ref v1, .int v0] I J P (fun r I1 J1 P1 => Wp S N (d + 1) MX8_nextKink 34 [x0, x1, x2, x3] (r.toList ++ []) I1 J1 P1 Q) := wp_callV (M' := MX3_kinkAbove) (As := [.ref v1, .int v0]) rfl rfl rfl rfl (by decide) (Nat.le_of_ble_eq_true rfl) dX8_nextKink_31
theorem e_X8_nextKink_34 {v0 : Int32} {x0 x1 x2 x3 : Option Value} : Wp S N d MX8_nextKink 34 [x0, x1, x2, x3] [.int v0] I J P Q ↔ Wp S N d MX8_nextKink 35 [x0, x1, kl x2, some (.int v0)] [] I J P Q := wp_sto (len := 1) rfl rfl rfl rfl (Nat.le_of_ble_eq_true rfl) rfl dX8_nextKink_34
theorem e_X8_nextKink_35 {w : Int32} {x0 x1 x2 : Option Value} : Wp S N d MX8_nextKink 35 [x0, x1, x2, some (.int w)] [] I J P Q ↔ Wp S N d MX8_nextKink 36 [x0, x1, x2, some (.int w)] [.int w] I J P Q := wp_lod (len := 1) rfl rfl rfl rfl dX8_nextKink_35
theorem e_X8_nextKink_36 {v0 : Int32} {x0 x1 x2 x3 : Option Value} : Wp S N d MX8_nextKink 36 [x0, x1, x2, x3] [.int v0] I J P Q ↔ Wp S N d MX8_nextKink 37 [x0, x1, x2, x3] [.int (-1), .int v0] I J P Q := wp_iconst (by decide) dX8_nextKink_36
theorem e_X8_nextKink_37 {v0 : Int32} {v1 : Int32} {x0 x1 x2 x3 : Option Value} : Wp S N d MX8_nextKink 37 [x0, x1, x2, x3] [.int v0, .int v1] I J P Q ↔ (¬ v1 = v0 → Wp S N d MX8_nextKink 50 [x0, x1, x2, x3] [] I J P Q) ∧ (v1 = v0 → Wp S N d MX8_nextKink 40 [x0, x1, x2, x3] [] I J P Q) := wp_brn rfl rfl (by decide) dX8_nextKink_37
theorem e_X8_nextKink_50 {w : Int32} {x0 x1 x2 : Option Value} : Wp S N d MX8_nextKink 50 [x0, x1, x2, some (.int w)] [] I J P Q ↔ Wp S N d MX8_nextKink 51 [x0, x1, x2, some (.int w)] [.int w] I J P Q := wp_lod (len := 1) rfl rfl rfl rfl dX8_nextKink_50
theorem e_X8_nextKink_51 {v0 : Int32} {x0 x1 x2 x3 : Option Value} : Wp S N d MX8_nextKink 51 [x0, x1, x2, x3] [.int v0] I J P Q ↔ Q (some (.int v0)) I J P := wp_iret rfl dX8_nextKink_51
theorem dX8_kinkCause_0 : decode cX8_kinkCause 0 = .ok (.aload_n 0, 1) := by decide +kernel
theorem dX8_kinkCause_1 : decode cX8_kinkCause 1 = .ok (.iload_n 1, 1) := by decide +kernel
theorem dX8_kinkCause_2 : decode cX8_kinkCause 2 = .ok (.bipush 6, 2) := by decide +kernel
theorem dX8_kinkCause_4 : decode cX8_kinkCause 4 = .ok (.invokevirtual 123, 3) := by decide +kernel
theorem dX8_kinkCause_7 : decode cX8_kinkCause 7 = .ok (.aload_n 0, 1) := by decide +kernel
theorem dX8_kinkCause_8 : decode cX8_kinkCause 8 = .ok (.getfield 57, 3) := by decide +kernel
theorem dX8_kinkCause_11 : decode cX8_kinkCause 11 = .ok (.aload_n 0, 1) := by decide +kernel
theorem dX8_kinkCause_12 : decode cX8_kinkCause 12 = .ok (.getfield 26, 3) := by decide +kernel
theorem dX8_kinkCause_15 : decode cX8_kinkCause 15 = .ok (.iload_n 1, 1) := by decide +kernel
theorem dX8_kinkCause_16 : decode cX8_kinkCause 16 = .ok (.invokevirtual 232, 3) := by decide +kernel
theorem dX8_kinkCause_19 : decode cX8_kinkCause 19 = .ok (.aload_n 0, 1) := by decide +kernel
theorem dX8_kinkCause_20 : decode cX8_kinkCause 20 = .ok (.getfield 57, 3) := by decide +kernel
theorem dX8_kinkCause_23 : decode cX8_kinkCause 23 = .ok (.aload_n 0, 1) := by decide +kernel
theorem dX8_kinkCause_24 : decode cX8_kinkCause 24 = .ok (.getfield 26, 3) := by decide +kernel
theorem dX8_kinkCause_27 : decode cX8_kinkCause 27 = .ok (.getfield 80, 3) := by decide +kernel
theorem dX8_kinkCause_30 : decode cX8_kinkCause 30 = .ok (.iload_n 2, 1) := by decide +kernel
theorem dX8_kinkCause_31 : decode cX8_kinkCause 31 = .ok (.invokevirtual 253, 3) := by decide +kernel
theorem dX8_kinkCause_34 : decode cX8_kinkCause 34 = .ok (.istore_n 3, 1) := by decide +kernel
theorem dX8_kinkCause_35 : decode cX8_kinkCause 35 = .ok (.iload_n 3, 1) := by decide +kernel
theorem dX8_kinkCause_36 : decode cX8_kinkCause 36 = .ok (.iconst (-1), 1) := by decide +kernel
theorem dX8_kinkCause_37 : decode cX8_kinkCause 37 = .ok (.if_icmp .ne 14, 3) := by decide +kernel
theorem dX8_kinkCause_40 : decode cX8_kinkCause 40 = .ok (.new 248, 3) := by decide +kernel
theorem dX8_kinkCause_43 : decode cX8_kinkCause 43 = .ok (.dup, 1) := by decide +kernel
theorem dX8_kinkCause_44 : decode cX8_kinkCause 44 = .ok (.ldc_w 256, 3) := by decide +kernel
theorem dX8_kinkCause_47 : decode cX8_kinkCause 47 = .ok (.invokespecial 252, 3) := by decide +kernel
theorem dX8_kinkCause_50 : decode cX8_kinkCause 50 = .ok (.athrow, 1) := by decide +kernel
theorem dX8_kinkCause_51 : decode cX8_kinkCause 51 = .ok (.iload_n 3, 1) := by decide +kernel
theorem dX8_kinkCause_52 : decode cX8_kinkCause 52 = .ok (.ireturn, 1) := by decide +kernel
theorem c_X8_kinkCause {a0 : Nat} {a1 : Int32} {a2 : Int32} : CWp S N d MX8_kinkCause [.ref a0, .int a1, .int a2] I J P Q ↔ Wp S N d MX8_kinkCause 0 [some (.ref a0), some (.int a1), some (.int a2), none] [] I J P Q := by
  rw [cwp_iff]
  exact ⟨fun h => h.2, fun h => ⟨Nat.le_of_ble_eq_true rfl, h⟩⟩
theorem e_X8_kinkCause_0 {w : Nat} {x1 x2 x3 : Option Value} : Wp S N d MX8_kinkCause 0 [some (.ref w), x1, x2, x3] [] I J P Q ↔ Wp S N d MX8_kinkCause 1 [some (.ref w), x1, x2, x3] [.ref w] I J P Q := wp_lod (len := 1) rfl rfl rfl rfl dX8_kinkCause_0
theorem e_X8_kinkCause_1 {v0 : Nat} {w : Int32} {x0 x2 x3 : Option Value} : Wp S N d MX8_kinkCause 1 [x0, some (.int w), x2, x3] [.ref v0] I J P Q ↔ Wp S N d MX8_kinkCause 2 [x0, some (.int w), x2, x3] [.int w, .ref v0] I J P Q := wp_lod (len := 1) rfl rfl rfl rfl dX8_kinkCause_1
theorem e_X8_kinkCause_2 {v0 : Int32} {v1 : Nat} {x0 x1 x2 x3 : Option Value} : Wp S N d MX8_kinkCause 2 [x0, x1, x2, x3] [.int v0, .ref v1] I J P Q ↔ Wp S N d MX8_kinkCause 4 [x0, x1, x2, x3] [.int 6, .int v0, .ref v1] I J P Q := wp_bipush (by decide) dX8_kinkCause_2
theorem e_X8_kinkCause_4 {v0 : Int32} {v1 : Int32} {v2 : Nat} {x0 x1 x2 x3 : Option Value} : Wp S N (d + 1) MX8_kinkCause 4 [x0, x1, x2, x3] [.int v0, .int v1, .ref v2] I J P Q ↔ S v2 = 8 ∧ CWp S N d MX8_requireIndex [.ref v2, .int v1, .int v0] I J P (fun r I1 J1 P1 => Wp S N (d + 1) MX8_kinkCause 7 [x0, x1, x2, x3] (r.toList ++ []) I1 J1 P1 Q) := wp_callV (M' := MX8_requireIndex) (As := [.int v1, .int v0]) rfl rfl rfl rfl (by decide) (Nat.le_of_ble_eq_true rfl) dX8_kinkCause_4
theorem e_X8_kinkCause_7 {w : Nat} {x1 x2 x3 : Option Value} : Wp S N d MX8_kinkCause 7 [some (.ref w), x1, x2, x3] [] I J P Q ↔ Wp S N d MX8_kinkCause 8 [some (.ref w), x1, x2, x3] [.ref w] I J P Q := wp_lod (len := 1) rfl rfl rfl rfl dX8_kinkCause_7
theorem e_X8_kinkCause_8 {v0 : Nat} {x0 x1 x2 x3 : Option Value} : Wp S N d MX8_kinkCause 8 [x0, x1, x2, x3] [.ref v0] I J P Q ↔ S v0 = 8 ∧ Wp S N d MX8_kinkCause 11 [x0, x1, x2, x3] [va_rf (P v0 8)] I J P Q := wp_getf rfl rfl rfl rfl dX8_kinkCause_8
theorem e_X8_kinkCause_11 {v0 : Nat} {w : Nat} {x1 x2 x3 : Option Value} : Wp S N d MX8_kinkCause 11 [some (.ref w), x1, x2, x3] [.ref v0] I J P Q ↔ Wp S N d MX8_kinkCause 12 [some (.ref w), x1, x2, x3] [.ref w, .ref v0] I J P Q := wp_lod (len := 1) rfl rfl rfl rfl dX8_kinkCause_11
theorem e_X8_kinkCause_12 {v0 : Nat} {v1 : Nat} {x0 x1 x2 x3 : Option Value} : Wp S N d MX8_kinkCause 12 [x0, x1, x2, x3] [.ref v0, .ref v1] I J P Q ↔ S v0 = 8 ∧ Wp S N d MX8_kinkCause 15 [x0, x1, x2, x3] [va_rf (P v0 2), .ref v1] I J P Q := wp_getf rfl rfl rfl rfl dX8_kinkCause_12
theorem e_X8_kinkCause_15 {v0 : Nat} {v1 : Nat} {w : Int32} {x0 x2 x3 : Option Value} : Wp S N d MX8_kinkCause 15 [x0, some (.int w), x2, x3] [.ref v0, .ref v1] I J P Q ↔ Wp S N d MX8_kinkCause 16 [x0, some (.int w), x2, x3] [.int w, .ref v0, .ref v1] I J P Q := wp_lod (len := 1) rfl rfl rfl rfl dX8_kinkCause_15
theorem e_X8_kinkCause_16 {v0 : Int32} {v1 : Nat} {v2 : Nat} {x0 x1 x2 x3 : Option Value} : Wp S N (d + 1) MX8_kinkCause 16 [x0, x1, x2, x3] [.int v0, .ref v1, .ref v2] I J P Q ↔ S v2 = 3 ∧ CWp S N d MX3_turnTo [.ref v2, .ref v1, .int v0] I J P (fun r I1 J1 P1 => Wp S N (d + 1) MX8_kinkCause 19 [x0, x1, x2, x3] (r.toList ++ []) I1 J1 P1 Q) := wp_callV (M' := MX3_turnTo) (As := [.ref v1, .int v0]) rfl rfl rfl rfl (by decide) (Nat.le_of_ble_eq_true rfl) dX8_kinkCause_16
theorem e_X8_kinkCause_19 {w : Nat} {x1 x2 x3 : Option Value} : Wp S N d MX8_kinkCause 19 [some (.ref w), x1, x2, x3] [] I J P Q ↔ Wp S N d MX8_kinkCause 20 [some (.ref w), x1, x2, x3] [.ref w] I J P Q := wp_lod (len := 1) rfl rfl rfl rfl dX8_kinkCause_19
theorem e_X8_kinkCause_20 {v0 : Nat} {x0 x1 x2 x3 : Option Value} : Wp S N d MX8_kinkCause 20 [x0, x1, x2, x3] [.ref v0] I J P Q ↔ S v0 = 8 ∧ Wp S N d MX8_kinkCause 23 [x0, x1, x2, x3] [va_rf (P v0 8)] I J P Q := wp_getf rfl rfl rfl rfl dX8_kinkCause_20
theorem e_X8_kinkCause_23 {v0 : Nat} {w : Nat} {x1 x2 x3 : Option Value} : Wp S N d MX8_kinkCause 23 [some (.ref w), x1, x2, x3] [.ref v0] I J P Q ↔ Wp S N d MX8_kinkCause 24 [some (.ref w), x1, x2, x3] [.ref w, .ref v0] I J P Q := wp_lod (len := 1) rfl rfl rfl rfl dX8_kinkCause_23
theorem e_X8_kinkCause_24 {v0 : Nat} {v1 : Nat} {x0 x1 x2 x3 : Option Value} : Wp S N d MX8_kinkCause 24 [x0, x1, x2, x3] [.ref v0, .ref v1] I J P Q ↔ S v0 = 8 ∧ Wp S N d MX8_kinkCause 27 [x0, x1, x2, x3] [va_rf (P v0 2), .ref v1] I J P Q := wp_getf rfl rfl rfl rfl dX8_kinkCause_24
theorem e_X8_kinkCause_27 {v0 : Nat} {v1 : Nat} {x0 x1 x2 x3 : Option Value} : Wp S N d MX8_kinkCause 27 [x0, x1, x2, x3] [.ref v0, .ref v1] I J P Q ↔ S v0 = 5 ∧ Wp S N d MX8_kinkCause 30 [x0, x1, x2, x3] [va_rf (P v0 0), .ref v1] I J P Q := wp_getf rfl rfl rfl rfl dX8_kinkCause_27
theorem e_X8_kinkCause_30 {v0 : Nat} {v1 : Nat} {w : Int32} {x0 x1 x3 : Option Value} : Wp S N d MX8_kinkCause 30 [x0, x1, some (.int w), x3] [.ref v0, .ref v1] I J P Q ↔ Wp S N d MX8_kinkCause 31 [x0, x1, some (.int w), x3] [.int w, .ref v0, .ref v1] I J P Q := wp_lod (len := 1) rfl rfl rfl rfl dX8_kinkCause_30
theorem e_X8_kinkCause_31 {v0 : Int32} {v1 : Nat} {v2 : Nat} {x0 x1 x2 x3 : Option Value} : Wp S N (d + 1) MX8_kinkCause 31 [x0, x1, x2, x3] [.int v0, .ref v1, .ref v2] I J P Q ↔ S v2 = 3 ∧ CWp S N d MX3_causeAt [.ref v2, .ref v1, .int v0] I J P (fun r I1 J1 P1 => Wp S N (d + 1) MX8_kinkCause 34 [x0, x1, x2, x3] (r.toList ++ []) I1 J1 P1 Q) := wp_callV (M' := MX3_causeAt) (As := [.ref v1, .int v0]) rfl rfl rfl rfl (by decide) (Nat.le_of_ble_eq_true rfl) dX8_kinkCause_31
theorem e_X8_kinkCause_34 {v0 : Int32} {x0 x1 x2 x3 : Option Value} : Wp S N d MX8_kinkCause 34 [x0, x1, x2, x3] [.int v0] I J P Q ↔ Wp S N d MX8_kinkCause 35 [x0, x1, kl x2, some (.int v0)] [] I J P Q := wp_sto (len := 1) rfl rfl rfl rfl (Nat.le_of_ble_eq_true rfl) rfl dX8_kinkCause_34
theorem e_X8_kinkCause_35 {w : Int32} {x0 x1 x2 : Option Value} : Wp S N d MX8_kinkCause 35 [x0, x1, x2, some (.int w)] [] I J P Q ↔ Wp S N d MX8_kinkCause 36 [x0, x1, x2, some (.int w)] [.int w] I J P Q := wp_lod (len := 1) rfl rfl rfl rfl dX8_kinkCause_35
theorem e_X8_kinkCause_36 {v0 : Int32} {x0 x1 x2 x3 : Option Value} : Wp S N d MX8_kinkCause 36 [x0, x1, x2, x3] [.int v0] I J P Q ↔ Wp S N d MX8_kinkCause 37 [x0, x1, x2, x3] [.int (-1), .int v0] I J P Q := wp_iconst (by decide) dX8_kinkCause_36
theorem e_X8_kinkCause_37 {v0 : Int32} {v1 : Int32} {x0 x1 x2 x3 : Option Value} : Wp S N d MX8_kinkCause 37 [x0, x1, x2, x3] [.int v0, .int v1] I J P Q ↔ (¬ v1 = v0 → Wp S N d MX8_kinkCause 51 [x0, x1, x2, x3] [] I J P Q) ∧ (v1 = v0 → Wp S N d MX8_kinkCause 40 [x0, x1, x2, x3] [] I J P Q) := wp_brn rfl rfl (by decide) dX8_kinkCause_37
theorem e_X8_kinkCause_51 {w : Int32} {x0 x1 x2 : Option Value} : Wp S N d MX8_kinkCause 51 [x0, x1, x2, some (.int w)] [] I J P Q ↔ Wp S N d MX8_kinkCause 52 [x0, x1, x2, some (.int w)] [.int w] I J P Q := wp_lod (len := 1) rfl rfl rfl rfl dX8_kinkCause_51
theorem e_X8_kinkCause_52 {v0 : Int32} {x0 x1 x2 x3 : Option Value} : Wp S N d MX8_kinkCause 52 [x0, x1, x2, x3] [.int v0] I J P Q ↔ Q (some (.int v0)) I J P := wp_iret rfl dX8_kinkCause_52
theorem dX8_undo_0 : decode cX8_undo 0 = .ok (.aload_n 0, 1) := by decide +kernel
theorem dX8_undo_1 : decode cX8_undo 1 = .ok (.getfield 36, 3) := by decide +kernel
theorem dX8_undo_4 : decode cX8_undo 4 = .ok (.getfield 269, 3) := by decide +kernel
theorem dX8_undo_7 : decode cX8_undo 7 = .ok (.ifCond .ne 14, 3) := by decide +kernel
theorem dX8_undo_10 : decode cX8_undo 10 = .ok (.new 69, 3) := by decide +kernel
theorem dX8_undo_13 : decode cX8_undo 13 = .ok (.dup, 1) := by decide +kernel
theorem dX8_undo_14 : decode cX8_undo 14 = .ok (.ldc_w 272, 3) := by decide +kernel
theorem dX8_undo_17 : decode cX8_undo 17 = .ok (.invokespecial 73, 3) := by decide +kernel
theorem dX8_undo_20 : decode cX8_undo 20 = .ok (.athrow, 1) := by decide +kernel
theorem dX8_undo_21 : decode cX8_undo 21 = .ok (.aload_n 0, 1) := by decide +kernel
theorem dX8_undo_22 : decode cX8_undo 22 = .ok (.getfield 36, 3) := by decide +kernel
theorem dX8_undo_25 : decode cX8_undo 25 = .ok (.aload_n 0, 1) := by decide +kernel
theorem dX8_undo_26 : decode cX8_undo 26 = .ok (.getfield 26, 3) := by decide +kernel
theorem dX8_undo_29 : decode cX8_undo 29 = .ok (.invokevirtual 274, 3) := by decide +kernel
theorem dX8_undo_32 : decode cX8_undo 32 = .ok (.aload_n 0, 1) := by decide +kernel
theorem dX8_undo_33 : decode cX8_undo 33 = .ok (.getfield 36, 3) := by decide +kernel
theorem dX8_undo_36 : decode cX8_undo 36 = .ok (.getfield 269, 3) := by decide +kernel
theorem dX8_undo_39 : decode cX8_undo 39 = .ok (.ireturn, 1) := by decide +kernel
theorem c_X8_undo {a0 : Nat} : CWp S N d MX8_undo [.ref a0] I J P Q ↔ Wp S N d MX8_undo 0 [some (.ref a0)] [] I J P Q := by
  rw [cwp_iff]
  exact ⟨fun h => h.2, fun h => ⟨Nat.le_of_ble_eq_true rfl, h⟩⟩
theorem e_X8_undo_0 {w : Nat} : Wp S N d MX8_undo 0 [some (.ref w)] [] I J P Q ↔ Wp S N d MX8_undo 1 [some (.ref w)] [.ref w] I J P Q := wp_lod (len := 1) rfl rfl rfl rfl dX8_undo_0
theorem e_X8_undo_1 {v0 : Nat} {x0 : Option Value} : Wp S N d MX8_undo 1 [x0] [.ref v0] I J P Q ↔ S v0 = 8 ∧ Wp S N d MX8_undo 4 [x0] [va_rf (P v0 5)] I J P Q := wp_getf rfl rfl rfl rfl dX8_undo_1
theorem e_X8_undo_4 {v0 : Nat} {x0 : Option Value} : Wp S N d MX8_undo 4 [x0] [.ref v0] I J P Q ↔ S v0 = 4 ∧ Wp S N d MX8_undo 7 [x0] [.int (I v0 2)] I J P Q := wp_getf rfl rfl rfl rfl dX8_undo_4
theorem e_X8_undo_7 {v0 : Int32} {x0 : Option Value} : Wp S N d MX8_undo 7 [x0] [.int v0] I J P Q ↔ (¬ v0 = 0 → Wp S N d MX8_undo 21 [x0] [] I J P Q) ∧ (v0 = 0 → Wp S N d MX8_undo 10 [x0] [] I J P Q) := wp_brn rfl rfl (by decide) dX8_undo_7
theorem e_X8_undo_21 {w : Nat} : Wp S N d MX8_undo 21 [some (.ref w)] [] I J P Q ↔ Wp S N d MX8_undo 22 [some (.ref w)] [.ref w] I J P Q := wp_lod (len := 1) rfl rfl rfl rfl dX8_undo_21
theorem e_X8_undo_22 {v0 : Nat} {x0 : Option Value} : Wp S N d MX8_undo 22 [x0] [.ref v0] I J P Q ↔ S v0 = 8 ∧ Wp S N d MX8_undo 25 [x0] [va_rf (P v0 5)] I J P Q := wp_getf rfl rfl rfl rfl dX8_undo_22
theorem e_X8_undo_25 {v0 : Nat} {w : Nat} : Wp S N d MX8_undo 25 [some (.ref w)] [.ref v0] I J P Q ↔ Wp S N d MX8_undo 26 [some (.ref w)] [.ref w, .ref v0] I J P Q := wp_lod (len := 1) rfl rfl rfl rfl dX8_undo_25
theorem e_X8_undo_26 {v0 : Nat} {v1 : Nat} {x0 : Option Value} : Wp S N d MX8_undo 26 [x0] [.ref v0, .ref v1] I J P Q ↔ S v0 = 8 ∧ Wp S N d MX8_undo 29 [x0] [va_rf (P v0 2), .ref v1] I J P Q := wp_getf rfl rfl rfl rfl dX8_undo_26
theorem e_X8_undo_29 {v0 : Nat} {v1 : Nat} {x0 : Option Value} : Wp S N (d + 1) MX8_undo 29 [x0] [.ref v0, .ref v1] I J P Q ↔ S v1 = 4 ∧ CWp S N d MX4_takeBack [.ref v1, .ref v0] I J P (fun r I1 J1 P1 => Wp S N (d + 1) MX8_undo 32 [x0] (r.toList ++ []) I1 J1 P1 Q) := wp_callV (M' := MX4_takeBack) (As := [.ref v0]) rfl rfl rfl rfl (by decide) (Nat.le_of_ble_eq_true rfl) dX8_undo_29
theorem e_X8_undo_32 {w : Nat} : Wp S N d MX8_undo 32 [some (.ref w)] [] I J P Q ↔ Wp S N d MX8_undo 33 [some (.ref w)] [.ref w] I J P Q := wp_lod (len := 1) rfl rfl rfl rfl dX8_undo_32
theorem e_X8_undo_33 {v0 : Nat} {x0 : Option Value} : Wp S N d MX8_undo 33 [x0] [.ref v0] I J P Q ↔ S v0 = 8 ∧ Wp S N d MX8_undo 36 [x0] [va_rf (P v0 5)] I J P Q := wp_getf rfl rfl rfl rfl dX8_undo_33
theorem e_X8_undo_36 {v0 : Nat} {x0 : Option Value} : Wp S N d MX8_undo 36 [x0] [.ref v0] I J P Q ↔ S v0 = 4 ∧ Wp S N d MX8_undo 39 [x0] [.int (I v0 2)] I J P Q := wp_getf rfl rfl rfl rfl dX8_undo_36
theorem e_X8_undo_39 {v0 : Int32} {x0 : Option Value} : Wp S N d MX8_undo 39 [x0] [.int v0] I J P Q ↔ Q (some (.int v0)) I J P := wp_iret rfl dX8_undo_39
theorem dX8_restore_0 : decode cX8_restore 0 = .ok (.aload_n 0, 1) := by decide +kernel
theorem dX8_restore_1 : decode cX8_restore 1 = .ok (.getfield 279, 3) := by decide +kernel
theorem dX8_restore_4 : decode cX8_restore 4 = .ok (.ifCond .ne 14, 3) := by decide +kernel
theorem dX8_restore_7 : decode cX8_restore 7 = .ok (.new 69, 3) := by decide +kernel
theorem dX8_restore_10 : decode cX8_restore 10 = .ok (.dup, 1) := by decide +kernel
theorem dX8_restore_11 : decode cX8_restore 11 = .ok (.ldc_w 282, 3) := by decide +kernel
theorem dX8_restore_14 : decode cX8_restore 14 = .ok (.invokespecial 73, 3) := by decide +kernel
theorem dX8_restore_17 : decode cX8_restore 17 = .ok (.athrow, 1) := by decide +kernel
theorem dX8_restore_18 : decode cX8_restore 18 = .ok (.aload_n 0, 1) := by decide +kernel
theorem dX8_restore_19 : decode cX8_restore 19 = .ok (.getfield 36, 3) := by decide +kernel
theorem dX8_restore_22 : decode cX8_restore 22 = .ok (.aload_n 0, 1) := by decide +kernel
theorem dX8_restore_23 : decode cX8_restore 23 = .ok (.getfield 26, 3) := by decide +kernel
theorem dX8_restore_26 : decode cX8_restore 26 = .ok (.invokevirtual 104, 3) := by decide +kernel
theorem dX8_restore_29 : decode cX8_restore 29 = .ok (.aload_n 0, 1) := by decide +kernel
theorem dX8_restore_30 : decode cX8_restore 30 = .ok (.getfield 26, 3) := by decide +kernel
theorem dX8_restore_33 : decode cX8_restore 33 = .ok (.aload_n 0, 1) := by decide +kernel
theorem dX8_restore_34 : decode cX8_restore 34 = .ok (.getfield 30, 3) := by decide +kernel
theorem dX8_restore_37 : decode cX8_restore 37 = .ok (.invokevirtual 277, 3) := by decide +kernel
theorem dX8_restore_40 : decode cX8_restore 40 = .ok (.return_, 1) := by decide +kernel
theorem c_X8_restore {a0 : Nat} : CWp S N d MX8_restore [.ref a0] I J P Q ↔ Wp S N d MX8_restore 0 [some (.ref a0)] [] I J P Q := by
  rw [cwp_iff]
  exact ⟨fun h => h.2, fun h => ⟨Nat.le_of_ble_eq_true rfl, h⟩⟩
theorem e_X8_restore_0 {w : Nat} : Wp S N d MX8_restore 0 [some (.ref w)] [] I J P Q ↔ Wp S N d MX8_restore 1 [some (.ref w)] [.ref w] I J P Q := wp_lod (len := 1) rfl rfl rfl rfl dX8_restore_0
theorem e_X8_restore_1 {v0 : Nat} {x0 : Option Value} : Wp S N d MX8_restore 1 [x0] [.ref v0] I J P Q ↔ S v0 = 8 ∧ Wp S N d MX8_restore 4 [x0] [.int (I v0 4)] I J P Q := wp_getf rfl rfl rfl rfl dX8_restore_1
theorem e_X8_restore_4 {v0 : Int32} {x0 : Option Value} : Wp S N d MX8_restore 4 [x0] [.int v0] I J P Q ↔ (¬ v0 = 0 → Wp S N d MX8_restore 18 [x0] [] I J P Q) ∧ (v0 = 0 → Wp S N d MX8_restore 7 [x0] [] I J P Q) := wp_brn rfl rfl (by decide) dX8_restore_4
theorem e_X8_restore_18 {w : Nat} : Wp S N d MX8_restore 18 [some (.ref w)] [] I J P Q ↔ Wp S N d MX8_restore 19 [some (.ref w)] [.ref w] I J P Q := wp_lod (len := 1) rfl rfl rfl rfl dX8_restore_18
theorem e_X8_restore_19 {v0 : Nat} {x0 : Option Value} : Wp S N d MX8_restore 19 [x0] [.ref v0] I J P Q ↔ S v0 = 8 ∧ Wp S N d MX8_restore 22 [x0] [va_rf (P v0 5)] I J P Q := wp_getf rfl rfl rfl rfl dX8_restore_19
theorem e_X8_restore_22 {v0 : Nat} {w : Nat} : Wp S N d MX8_restore 22 [some (.ref w)] [.ref v0] I J P Q ↔ Wp S N d MX8_restore 23 [some (.ref w)] [.ref w, .ref v0] I J P Q := wp_lod (len := 1) rfl rfl rfl rfl dX8_restore_22
theorem e_X8_restore_23 {v0 : Nat} {v1 : Nat} {x0 : Option Value} : Wp S N d MX8_restore 23 [x0] [.ref v0, .ref v1] I J P Q ↔ S v0 = 8 ∧ Wp S N d MX8_restore 26 [x0] [va_rf (P v0 2), .ref v1] I J P Q := wp_getf rfl rfl rfl rfl dX8_restore_23
theorem e_X8_restore_26 {v0 : Nat} {v1 : Nat} {x0 : Option Value} : Wp S N (d + 1) MX8_restore 26 [x0] [.ref v0, .ref v1] I J P Q ↔ S v1 = 4 ∧ CWp S N d MX4_remember [.ref v1, .ref v0] I J P (fun r I1 J1 P1 => Wp S N (d + 1) MX8_restore 29 [x0] (r.toList ++ []) I1 J1 P1 Q) := wp_callV (M' := MX4_remember) (As := [.ref v0]) rfl rfl rfl rfl (by decide) (Nat.le_of_ble_eq_true rfl) dX8_restore_26
theorem e_X8_restore_29 {w : Nat} : Wp S N d MX8_restore 29 [some (.ref w)] [] I J P Q ↔ Wp S N d MX8_restore 30 [some (.ref w)] [.ref w] I J P Q := wp_lod (len := 1) rfl rfl rfl rfl dX8_restore_29
theorem e_X8_restore_30 {v0 : Nat} {x0 : Option Value} : Wp S N d MX8_restore 30 [x0] [.ref v0] I J P Q ↔ S v0 = 8 ∧ Wp S N d MX8_restore 33 [x0] [va_rf (P v0 2)] I J P Q := wp_getf rfl rfl rfl rfl dX8_restore_30
theorem e_X8_restore_33 {v0 : Nat} {w : Nat} : Wp S N d MX8_restore 33 [some (.ref w)] [.ref v0] I J P Q ↔ Wp S N d MX8_restore 34 [some (.ref w)] [.ref w, .ref v0] I J P Q := wp_lod (len := 1) rfl rfl rfl rfl dX8_restore_33
theorem e_X8_restore_34 {v0 : Nat} {v1 : Nat} {x0 : Option Value} : Wp S N d MX8_restore 34 [x0] [.ref v0, .ref v1] I J P Q ↔ S v0 = 8 ∧ Wp S N d MX8_restore 37 [x0] [va_rf (P v0 3), .ref v1] I J P Q := wp_getf rfl rfl rfl rfl dX8_restore_34
theorem e_X8_restore_37 {v0 : Nat} {v1 : Nat} {x0 : Option Value} : Wp S N (d + 1) MX8_restore 37 [x0] [.ref v0, .ref v1] I J P Q ↔ S v1 = 5 ∧ CWp S N d MX5_copyFrom [.ref v1, .ref v0] I J P (fun r I1 J1 P1 => Wp S N (d + 1) MX8_restore 40 [x0] (r.toList ++ []) I1 J1 P1 Q) := wp_callV (M' := MX5_copyFrom) (As := [.ref v0]) rfl rfl rfl rfl (by decide) (Nat.le_of_ble_eq_true rfl) dX8_restore_37
theorem e_X8_restore_40  {x0 : Option Value} : Wp S N d MX8_restore 40 [x0] [] I J P Q ↔ Q none I J P := wp_vret rfl dX8_restore_40
theorem dX8_requireIndex_0 : decode cX8_requireIndex 0 = .ok (.iload_n 1, 1) := by decide +kernel
theorem dX8_requireIndex_1 : decode cX8_requireIndex 1 = .ok (.ifCond .lt 8, 3) := by decide +kernel
theorem dX8_requireIndex_4 : decode cX8_requireIndex 4 = .ok (.iload_n 1, 1) := by decide +kernel
theorem dX8_requireIndex_5 : decode cX8_requireIndex 5 = .ok (.iload_n 2, 1) := by decide +kernel
theorem dX8_requireIndex_6 : decode cX8_requireIndex 6 = .ok (.if_icmp .lt 14, 3) := by decide +kernel
theorem dX8_requireIndex_9 : decode cX8_requireIndex 9 = .ok (.new 284, 3) := by decide +kernel
theorem dX8_requireIndex_12 : decode cX8_requireIndex 12 = .ok (.dup, 1) := by decide +kernel
theorem dX8_requireIndex_13 : decode cX8_requireIndex 13 = .ok (.ldc_w 286, 3) := by decide +kernel
theorem dX8_requireIndex_16 : decode cX8_requireIndex 16 = .ok (.invokespecial 288, 3) := by decide +kernel
theorem dX8_requireIndex_19 : decode cX8_requireIndex 19 = .ok (.athrow, 1) := by decide +kernel
theorem dX8_requireIndex_20 : decode cX8_requireIndex 20 = .ok (.return_, 1) := by decide +kernel
theorem c_X8_requireIndex {a0 : Nat} {a1 : Int32} {a2 : Int32} : CWp S N d MX8_requireIndex [.ref a0, .int a1, .int a2] I J P Q ↔ Wp S N d MX8_requireIndex 0 [some (.ref a0), some (.int a1), some (.int a2)] [] I J P Q := by
  rw [cwp_iff]
  exact ⟨fun h => h.2, fun h => ⟨Nat.le_of_ble_eq_true rfl, h⟩⟩
theorem e_X8_requireIndex_0 {w : Int32} {x0 x2 : Option Value} : Wp S N d MX8_requireIndex 0 [x0, some (.int w), x2] [] I J P Q ↔ Wp S N d MX8_requireIndex 1 [x0, some (.int w), x2] [.int w] I J P Q := wp_lod (len := 1) rfl rfl rfl rfl dX8_requireIndex_0
theorem e_X8_requireIndex_1 {v0 : Int32} {x0 x1 x2 : Option Value} : Wp S N d MX8_requireIndex 1 [x0, x1, x2] [.int v0] I J P Q ↔ (v0 < 0 → Wp S N d MX8_requireIndex 9 [x0, x1, x2] [] I J P Q) ∧ (¬ v0 < 0 → Wp S N d MX8_requireIndex 4 [x0, x1, x2] [] I J P Q) := wp_br rfl rfl (by decide) dX8_requireIndex_1
theorem e_X8_requireIndex_4 {w : Int32} {x0 x2 : Option Value} : Wp S N d MX8_requireIndex 4 [x0, some (.int w), x2] [] I J P Q ↔ Wp S N d MX8_requireIndex 5 [x0, some (.int w), x2] [.int w] I J P Q := wp_lod (len := 1) rfl rfl rfl rfl dX8_requireIndex_4
theorem e_X8_requireIndex_5 {v0 : Int32} {w : Int32} {x0 x1 : Option Value} : Wp S N d MX8_requireIndex 5 [x0, x1, some (.int w)] [.int v0] I J P Q ↔ Wp S N d MX8_requireIndex 6 [x0, x1, some (.int w)] [.int w, .int v0] I J P Q := wp_lod (len := 1) rfl rfl rfl rfl dX8_requireIndex_5
theorem e_X8_requireIndex_6 {v0 : Int32} {v1 : Int32} {x0 x1 x2 : Option Value} : Wp S N d MX8_requireIndex 6 [x0, x1, x2] [.int v0, .int v1] I J P Q ↔ (v1 < v0 → Wp S N d MX8_requireIndex 20 [x0, x1, x2] [] I J P Q) ∧ (¬ v1 < v0 → Wp S N d MX8_requireIndex 9 [x0, x1, x2] [] I J P Q) := wp_br rfl rfl (by decide) dX8_requireIndex_6
theorem e_X8_requireIndex_20  {x0 x1 x2 : Option Value} : Wp S N d MX8_requireIndex 20 [x0, x1, x2] [] I J P Q ↔ Q none I J P := wp_vret rfl dX8_requireIndex_20
theorem dX8_requireRange_0 : decode cX8_requireRange 0 = .ok (.iload_n 1, 1) := by decide +kernel
theorem dX8_requireRange_1 : decode cX8_requireRange 1 = .ok (.iload_n 2, 1) := by decide +kernel
theorem dX8_requireRange_2 : decode cX8_requireRange 2 = .ok (.if_icmp .lt 8, 3) := by decide +kernel
theorem dX8_requireRange_5 : decode cX8_requireRange 5 = .ok (.iload_n 1, 1) := by decide +kernel
theorem dX8_requireRange_6 : decode cX8_requireRange 6 = .ok (.iload_n 3, 1) := by decide +kernel
theorem dX8_requireRange_7 : decode cX8_requireRange 7 = .ok (.if_icmp .le 14, 3) := by decide +kernel
theorem dX8_requireRange_10 : decode cX8_requireRange 10 = .ok (.new 93, 3) := by decide +kernel
theorem dX8_requireRange_13 : decode cX8_requireRange 13 = .ok (.dup, 1) := by decide +kernel
theorem dX8_requireRange_14 : decode cX8_requireRange 14 = .ok (.ldc_w 289, 3) := by decide +kernel
theorem dX8_requireRange_17 : decode cX8_requireRange 17 = .ok (.invokespecial 97, 3) := by decide +kernel
theorem dX8_requireRange_20 : decode cX8_requireRange 20 = .ok (.athrow, 1) := by decide +kernel
theorem dX8_requireRange_21 : decode cX8_requireRange 21 = .ok (.return_, 1) := by decide +kernel
theorem c_X8_requireRange {a0 : Nat} {a1 : Int32} {a2 : Int32} {a3 : Int32} : CWp S N d MX8_requireRange [.ref a0, .int a1, .int a2, .int a3] I J P Q ↔ Wp S N d MX8_requireRange 0 [some (.ref a0), some (.int a1), some (.int a2), some (.int a3)] [] I J P Q := by
  rw [cwp_iff]
  exact ⟨fun h => h.2, fun h => ⟨Nat.le_of_ble_eq_true rfl, h⟩⟩
theorem e_X8_requireRange_0 {w : Int32} {x0 x2 x3 : Option Value} : Wp S N d MX8_requireRange 0 [x0, some (.int w), x2, x3] [] I J P Q ↔ Wp S N d MX8_requireRange 1 [x0, some (.int w), x2, x3] [.int w] I J P Q := wp_lod (len := 1) rfl rfl rfl rfl dX8_requireRange_0
theorem e_X8_requireRange_1 {v0 : Int32} {w : Int32} {x0 x1 x3 : Option Value} : Wp S N d MX8_requireRange 1 [x0, x1, some (.int w), x3] [.int v0] I J P Q ↔ Wp S N d MX8_requireRange 2 [x0, x1, some (.int w), x3] [.int w, .int v0] I J P Q := wp_lod (len := 1) rfl rfl rfl rfl dX8_requireRange_1
theorem e_X8_requireRange_2 {v0 : Int32} {v1 : Int32} {x0 x1 x2 x3 : Option Value} : Wp S N d MX8_requireRange 2 [x0, x1, x2, x3] [.int v0, .int v1] I J P Q ↔ (v1 < v0 → Wp S N d MX8_requireRange 10 [x0, x1, x2, x3] [] I J P Q) ∧ (¬ v1 < v0 → Wp S N d MX8_requireRange 5 [x0, x1, x2, x3] [] I J P Q) := wp_br rfl rfl (by decide) dX8_requireRange_2
theorem e_X8_requireRange_5 {w : Int32} {x0 x2 x3 : Option Value} : Wp S N d MX8_requireRange 5 [x0, some (.int w), x2, x3] [] I J P Q ↔ Wp S N d MX8_requireRange 6 [x0, some (.int w), x2, x3] [.int w] I J P Q := wp_lod (len := 1) rfl rfl rfl rfl dX8_requireRange_5
theorem e_X8_requireRange_6 {v0 : Int32} {w : Int32} {x0 x1 x2 : Option Value} : Wp S N d MX8_requireRange 6 [x0, x1, x2, some (.int w)] [.int v0] I J P Q ↔ Wp S N d MX8_requireRange 7 [x0, x1, x2, some (.int w)] [.int w, .int v0] I J P Q := wp_lod (len := 1) rfl rfl rfl rfl dX8_requireRange_6
theorem e_X8_requireRange_7 {v0 : Int32} {v1 : Int32} {x0 x1 x2 x3 : Option Value} : Wp S N d MX8_requireRange 7 [x0, x1, x2, x3] [.int v0, .int v1] I J P Q ↔ (v1 ≤ v0 → Wp S N d MX8_requireRange 21 [x0, x1, x2, x3] [] I J P Q) ∧ (¬ v1 ≤ v0 → Wp S N d MX8_requireRange 10 [x0, x1, x2, x3] [] I J P Q) := wp_br rfl rfl (by decide) dX8_requireRange_7
theorem e_X8_requireRange_21  {x0 x1 x2 x3 : Option Value} : Wp S N d MX8_requireRange 21 [x0, x1, x2, x3] [] I J P Q ↔ Q none I J P := wp_vret rfl dX8_requireRange_21
theorem dX8_requirePartner_0 : decode cX8_requirePartner 0 = .ok (.aload_n 0, 1) := by decide +kernel
theorem dX8_requirePartner_1 : decode cX8_requirePartner 1 = .ok (.iload_n 1, 1) := by decide +kernel
theorem dX8_requirePartner_2 : decode cX8_requirePartner 2 = .ok (.bipush 6, 2) := by decide +kernel
theorem dX8_requirePartner_4 : decode cX8_requirePartner 4 = .ok (.invokevirtual 123, 3) := by decide +kernel
theorem dX8_requirePartner_7 : decode cX8_requirePartner 7 = .ok (.aload_n 0, 1) := by decide +kernel
theorem dX8_requirePartner_8 : decode cX8_requirePartner 8 = .ok (.getfield 26, 3) := by decide +kernel
theorem dX8_requirePartner_11 : decode cX8_requirePartner 11 = .ok (.getfield 169, 3) := by decide +kernel
theorem dX8_requirePartner_14 : decode cX8_requirePartner 14 = .ok (.iload_n 1, 1) := by decide +kernel
theorem dX8_requirePartner_15 : decode cX8_requirePartner 15 = .ok (.iaload, 1) := by decide +kernel
theorem dX8_requirePartner_16 : decode cX8_requirePartner 16 = .ok (.istore_n 2, 1) := by decide +kernel
theorem dX8_requirePartner_17 : decode cX8_requirePartner 17 = .ok (.iload_n 2, 1) := by decide +kernel
theorem dX8_requirePartner_18 : decode cX8_requirePartner 18 = .ok (.iconst (-1), 1) := by decide +kernel
theorem dX8_requirePartner_19 : decode cX8_requirePartner 19 = .ok (.if_icmp .ne 14, 3) := by decide +kernel
theorem dX8_requirePartner_22 : decode cX8_requirePartner 22 = .ok (.new 248, 3) := by decide +kernel
theorem dX8_requirePartner_25 : decode cX8_requirePartner 25 = .ok (.dup, 1) := by decide +kernel
theorem dX8_requirePartner_26 : decode cX8_requirePartner 26 = .ok (.ldc_w 291, 3) := by decide +kernel
theorem dX8_requirePartner_29 : decode cX8_requirePartner 29 = .ok (.invokespecial 252, 3) := by decide +kernel
theorem dX8_requirePartner_32 : decode cX8_requirePartner 32 = .ok (.athrow, 1) := by decide +kernel
theorem dX8_requirePartner_33 : decode cX8_requirePartner 33 = .ok (.iload_n 2, 1) := by decide +kernel
theorem dX8_requirePartner_34 : decode cX8_requirePartner 34 = .ok (.ireturn, 1) := by decide +kernel
theorem c_X8_requirePartner {a0 : Nat} {a1 : Int32} : CWp S N d MX8_requirePartner [.ref a0, .int a1] I J P Q ↔ Wp S N d MX8_requirePartner 0 [some (.ref a0), some (.int a1), none] [] I J P Q := by
  rw [cwp_iff]
  exact ⟨fun h => h.2, fun h => ⟨Nat.le_of_ble_eq_true rfl, h⟩⟩
theorem e_X8_requirePartner_0 {w : Nat} {x1 x2 : Option Value} : Wp S N d MX8_requirePartner 0 [some (.ref w), x1, x2] [] I J P Q ↔ Wp S N d MX8_requirePartner 1 [some (.ref w), x1, x2] [.ref w] I J P Q := wp_lod (len := 1) rfl rfl rfl rfl dX8_requirePartner_0
theorem e_X8_requirePartner_1 {v0 : Nat} {w : Int32} {x0 x2 : Option Value} : Wp S N d MX8_requirePartner 1 [x0, some (.int w), x2] [.ref v0] I J P Q ↔ Wp S N d MX8_requirePartner 2 [x0, some (.int w), x2] [.int w, .ref v0] I J P Q := wp_lod (len := 1) rfl rfl rfl rfl dX8_requirePartner_1
theorem e_X8_requirePartner_2 {v0 : Int32} {v1 : Nat} {x0 x1 x2 : Option Value} : Wp S N d MX8_requirePartner 2 [x0, x1, x2] [.int v0, .ref v1] I J P Q ↔ Wp S N d MX8_requirePartner 4 [x0, x1, x2] [.int 6, .int v0, .ref v1] I J P Q := wp_bipush (by decide) dX8_requirePartner_2
theorem e_X8_requirePartner_4 {v0 : Int32} {v1 : Int32} {v2 : Nat} {x0 x1 x2 : Option Value} : Wp S N (d + 1) MX8_requirePartner 4 [x0, x1, x2] [.int v0, .int v1, .ref v2] I J P Q ↔ S v2 = 8 ∧ CWp S N d MX8_requireIndex [.ref v2, .int v1, .int v0] I J P (fun r I1 J1 P1 => Wp S N (d + 1) MX8_requirePartner 7 [x0, x1, x2] (r.toList ++ []) I1 J1 P1 Q) := wp_callV (M' := MX8_requireIndex) (As := [.int v1, .int v0]) rfl rfl rfl rfl (by decide) (Nat.le_of_ble_eq_true rfl) dX8_requirePartner_4
theorem e_X8_requirePartner_7 {w : Nat} {x1 x2 : Option Value} : Wp S N d MX8_requirePartner 7 [some (.ref w), x1, x2] [] I J P Q ↔ Wp S N d MX8_requirePartner 8 [some (.ref w), x1, x2] [.ref w] I J P Q := wp_lod (len := 1) rfl rfl rfl rfl dX8_requirePartner_7
theorem e_X8_requirePartner_8 {v0 : Nat} {x0 x1 x2 : Option Value} : Wp S N d MX8_requirePartner 8 [x0, x1, x2] [.ref v0] I J P Q ↔ S v0 = 8 ∧ Wp S N d MX8_requirePartner 11 [x0, x1, x2] [va_rf (P v0 2)] I J P Q := wp_getf rfl rfl rfl rfl dX8_requirePartner_8
theorem e_X8_requirePartner_11 {v0 : Nat} {x0 x1 x2 : Option Value} : Wp S N d MX8_requirePartner 11 [x0, x1, x2] [.ref v0] I J P Q ↔ S v0 = 5 ∧ Wp S N d MX8_requirePartner 14 [x0, x1, x2] [va_rf (P v0 4)] I J P Q := wp_getf rfl rfl rfl rfl dX8_requirePartner_11
theorem e_X8_requirePartner_14 {v0 : Nat} {w : Int32} {x0 x2 : Option Value} : Wp S N d MX8_requirePartner 14 [x0, some (.int w), x2] [.ref v0] I J P Q ↔ Wp S N d MX8_requirePartner 15 [x0, some (.int w), x2] [.int w, .ref v0] I J P Q := wp_lod (len := 1) rfl rfl rfl rfl dX8_requirePartner_14
theorem e_X8_requirePartner_15 {v0 : Int32} {v1 : Nat} {x0 x1 x2 : Option Value} : Wp S N d MX8_requirePartner 15 [x0, x1, x2] [.int v0, .ref v1] I J P Q ↔ (S v1 = 10 ∧ vp_in v0 (N v1)) ∧ Wp S N d MX8_requirePartner 16 [x0, x1, x2] [.int (I v1 v0.toNatClampNeg)] I J P Q := wp_ald rfl rfl dX8_requirePartner_15
theorem e_X8_requirePartner_16 {v0 : Int32} {x0 x1 x2 : Option Value} : Wp S N d MX8_requirePartner 16 [x0, x1, x2] [.int v0] I J P Q ↔ Wp S N d MX8_requirePartner 17 [x0, kl x1, some (.int v0)] [] I J P Q := wp_sto (len := 1) rfl rfl rfl rfl (Nat.le_of_ble_eq_true rfl) rfl dX8_requirePartner_16
theorem e_X8_requirePartner_17 {w : Int32} {x0 x1 : Option Value} : Wp S N d MX8_requirePartner 17 [x0, x1, some (.int w)] [] I J P Q ↔ Wp S N d MX8_requirePartner 18 [x0, x1, some (.int w)] [.int w] I J P Q := wp_lod (len := 1) rfl rfl rfl rfl dX8_requirePartner_17
theorem e_X8_requirePartner_18 {v0 : Int32} {x0 x1 x2 : Option Value} : Wp S N d MX8_requirePartner 18 [x0, x1, x2] [.int v0] I J P Q ↔ Wp S N d MX8_requirePartner 19 [x0, x1, x2] [.int (-1), .int v0] I J P Q := wp_iconst (by decide) dX8_requirePartner_18
theorem e_X8_requirePartner_19 {v0 : Int32} {v1 : Int32} {x0 x1 x2 : Option Value} : Wp S N d MX8_requirePartner 19 [x0, x1, x2] [.int v0, .int v1] I J P Q ↔ (¬ v1 = v0 → Wp S N d MX8_requirePartner 33 [x0, x1, x2] [] I J P Q) ∧ (v1 = v0 → Wp S N d MX8_requirePartner 22 [x0, x1, x2] [] I J P Q) := wp_brn rfl rfl (by decide) dX8_requirePartner_19
theorem e_X8_requirePartner_33 {w : Int32} {x0 x1 : Option Value} : Wp S N d MX8_requirePartner 33 [x0, x1, some (.int w)] [] I J P Q ↔ Wp S N d MX8_requirePartner 34 [x0, x1, some (.int w)] [.int w] I J P Q := wp_lod (len := 1) rfl rfl rfl rfl dX8_requirePartner_33
theorem e_X8_requirePartner_34 {v0 : Int32} {x0 x1 x2 : Option Value} : Wp S N d MX8_requirePartner 34 [x0, x1, x2] [.int v0] I J P Q ↔ Q (some (.int v0)) I J P := wp_iret rfl dX8_requirePartner_34
end ER

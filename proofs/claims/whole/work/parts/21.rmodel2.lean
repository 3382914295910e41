/-! the instructions' rules: X9_(?!(fails|in|isPerson|isCredit|creditOf|thrown|here|skips|number|rate|of|changes|undo|save|restore|appendCharacter|faultPosition|brackets|numbers|chargeComes|creditComes|item|items|addRules|forgets|clearRules|bracketCount|bracket|allowance|chargeCount|charge|creditCount|credit|exchanges|moves|removeCredit|moveCredit|setPerson|personData|marry|coupled|part|partner)$) -/
section ER
variable {S N : Nat → Nat} {d : Nat} {I : IM} {J : JM} {P : PM} {Q : Option Value → IM → JM → PM → Prop}
theorem dX9_positive_0 : decode cX9_positive 0 = .ok (.lload_n 0, 1) := by decide +kernel
theorem dX9_positive_1 : decode cX9_positive 1 = .ok (.lconst 0, 1) := by decide +kernel
theorem dX9_positive_2 : decode cX9_positive 2 = .ok (.lcmp, 1) := by decide +kernel
theorem dX9_positive_3 : decode cX9_positive 3 = .ok (.ifCond .le 7, 3) := by decide +kernel
theorem dX9_positive_6 : decode cX9_positive 6 = .ok (.lload_n 0, 1) := by decide +kernel
theorem dX9_positive_7 : decode cX9_positive 7 = .ok (.goto 4, 3) := by decide +kernel
theorem dX9_positive_10 : decode cX9_positive 10 = .ok (.lconst 0, 1) := by decide +kernel
theorem dX9_positive_11 : decode cX9_positive 11 = .ok (.lreturn, 1) := by decide +kernel
theorem c_X9_positive {a0 : Int64} : CWp S N d MX9_positive [.long a0] I J P Q ↔ Wp S N d MX9_positive 0 [some (.long a0), none] [] I J P Q := by
  rw [cwp_iff]
  exact ⟨fun h => h.2, fun h => ⟨Nat.le_of_ble_eq_true rfl, h⟩⟩
theorem e_X9_positive_0 {w : Int64} {x1 : Option Value} : Wp S N d MX9_positive 0 [some (.long w), x1] [] I J P Q ↔ Wp S N d MX9_positive 1 [some (.long w), x1] [.long w] I J P Q := wp_lod (len := 1) rfl rfl rfl rfl dX9_positive_0
theorem e_X9_positive_1 {v0 : Int64} {x0 x1 : Option Value} : Wp S N d MX9_positive 1 [x0, x1] [.long v0] I J P Q ↔ Wp S N d MX9_positive 2 [x0, x1] [.long 0, .long v0] I J P Q := wp_lconst (by decide) dX9_positive_1
theorem e_X9_positive_2 {v0 : Int64} {v1 : Int64} {x0 x1 : Option Value} : Wp S N d MX9_positive 2 [x0, x1] [.long v0, .long v1] I J P Q ↔ Wp S N d MX9_positive 3 [x0, x1] [.int (lg_cmp v1 v0)] I J P Q := wp_alu (len := 1) rfl rfl rfl dX9_positive_2
theorem e_X9_positive_3 {v0 : Int32} {x0 x1 : Option Value} : Wp S N d MX9_positive 3 [x0, x1] [.int v0] I J P Q ↔ (v0 ≤ 0 → Wp S N d MX9_positive 10 [x0, x1] [] I J P Q) ∧ (¬ v0 ≤ 0 → Wp S N d MX9_positive 6 [x0, x1] [] I J P Q) := wp_br rfl rfl (by decide) dX9_positive_3
theorem e_X9_positive_6 {w : Int64} {x1 : Option Value} : Wp S N d MX9_positive 6 [some (.long w), x1] [] I J P Q ↔ Wp S N d MX9_positive 7 [some (.long w), x1] [.long w] I J P Q := wp_lod (len := 1) rfl rfl rfl rfl dX9_positive_6
theorem e_X9_positive_7 {v0 : Int64} {x0 x1 : Option Value} : Wp S N d MX9_positive 7 [x0, x1] [.long v0] I J P Q ↔ Wp S N d MX9_positive 11 [x0, x1] [.long v0] I J P Q := wp_go (len := 3) rfl (fun _ _ => rfl) rfl (by decide) dX9_positive_7
theorem e_X9_positive_10  {x0 x1 : Option Value} : Wp S N d MX9_positive 10 [x0, x1] [] I J P Q ↔ Wp S N d MX9_positive 11 [x0, x1] [.long 0] I J P Q := wp_lconst (by decide) dX9_positive_10
theorem e_X9_positive_11 {v0 : Int64} {x0 x1 : Option Value} : Wp S N d MX9_positive 11 [x0, x1] [.long v0] I J P Q ↔ Q (some (.long v0)) I J P := wp_lret rfl dX9_positive_11
theorem dX9_lesser_0 : decode cX9_lesser 0 = .ok (.lload_n 0, 1) := by decide +kernel
theorem dX9_lesser_1 : decode cX9_lesser 1 = .ok (.lload_n 2, 1) := by decide +kernel
theorem dX9_lesser_2 : decode cX9_lesser 2 = .ok (.lcmp, 1) := by decide +kernel
theorem dX9_lesser_3 : decode cX9_lesser 3 = .ok (.ifCond .ge 7, 3) := by decide +kernel
theorem dX9_lesser_6 : decode cX9_lesser 6 = .ok (.lload_n 0, 1) := by decide +kernel
theorem dX9_lesser_7 : decode cX9_lesser 7 = .ok (.goto 4, 3) := by decide +kernel
theorem dX9_lesser_10 : decode cX9_lesser 10 = .ok (.lload_n 2, 1) := by decide +kernel
theorem dX9_lesser_11 : decode cX9_lesser 11 = .ok (.lreturn, 1) := by decide +kernel
theorem c_X9_lesser {a0 : Int64} {a1 : Int64} : CWp S N d MX9_lesser [.long a0, .long a1] I J P Q ↔ Wp S N d MX9_lesser 0 [some (.long a0), none, some (.long a1), none] [] I J P Q := by
  rw [cwp_iff]
  exact ⟨fun h => h.2, fun h => ⟨Nat.le_of_ble_eq_true rfl, h⟩⟩
theorem e_X9_lesser_0 {w : Int64} {x1 x2 x3 : Option Value} : Wp S N d MX9_lesser 0 [some (.long w), x1, x2, x3] [] I J P Q ↔ Wp S N d MX9_lesser 1 [some (.long w), x1, x2, x3] [.long w] I J P Q := wp_lod (len := 1) rfl rfl rfl rfl dX9_lesser_0
theorem e_X9_lesser_1 {v0 : Int64} {w : Int64} {x0 x1 x3 : Option Value} : Wp S N d MX9_lesser 1 [x0, x1, some (.long w), x3] [.long v0] I J P Q ↔ Wp S N d MX9_lesser 2 [x0, x1, some (.long w), x3] [.long w, .long v0] I J P Q := wp_lod (len := 1) rfl rfl rfl rfl dX9_lesser_1
theorem e_X9_lesser_2 {v0 : Int64} {v1 : Int64} {x0 x1 x2 x3 : Option Value} : Wp S N d MX9_lesser 2 [x0, x1, x2, x3] [.long v0, .long v1] I J P Q ↔ Wp S N d MX9_lesser 3 [x0, x1, x2, x3] [.int (lg_cmp v1 v0)] I J P Q := wp_alu (len := 1) rfl rfl rfl dX9_lesser_2
theorem e_X9_lesser_3 {v0 : Int32} {x0 x1 x2 x3 : Option Value} : Wp S N d MX9_lesser 3 [x0, x1, x2, x3] [.int v0] I J P Q ↔ (0 ≤ v0 → Wp S N d MX9_lesser 10 [x0, x1, x2, x3] [] I J P Q) ∧ (¬ 0 ≤ v0 → Wp S N d MX9_lesser 6 [x0, x1, x2, x3] [] I J P Q) := wp_br rfl rfl (by decide) dX9_lesser_3
theorem e_X9_lesser_6 {w : Int64} {x1 x2 x3 : Option Value} : Wp S N d MX9_lesser 6 [some (.long w), x1, x2, x3] [] I J P Q ↔ Wp S N d MX9_lesser 7 [some (.long w), x1, x2, x3] [.long w] I J P Q := wp_lod (len := 1) rfl rfl rfl rfl dX9_lesser_6
theorem e_X9_lesser_7 {v0 : Int64} {x0 x1 x2 x3 : Option Value} : Wp S N d MX9_lesser 7 [x0, x1, x2, x3] [.long v0] I J P Q ↔ Wp S N d MX9_lesser 11 [x0, x1, x2, x3] [.long v0] I J P Q := wp_go (len := 3) rfl (fun _ _ => rfl) rfl (by decide) dX9_lesser_7
theorem e_X9_lesser_10 {w : Int64} {x0 x1 x3 : Option Value} : Wp S N d MX9_lesser 10 [x0, x1, some (.long w), x3] [] I J P Q ↔ Wp S N d MX9_lesser 11 [x0, x1, some (.long w), x3] [.long w] I J P Q := wp_lod (len := 1) rfl rfl rfl rfl dX9_lesser_10
theorem e_X9_lesser_11 {v0 : Int64} {x0 x1 x2 x3 : Option Value} : Wp S N d MX9_lesser 11 [x0, x1, x2, x3] [.long v0] I J P Q ↔ Q (some (.long v0)) I J P := wp_lret rfl dX9_lesser_11
theorem dX9_above_0 : decode cX9_above 0 = .ok (.iload_n 1, 1) := by decide +kernel
theorem dX9_above_1 : decode cX9_above 1 = .ok (.iload_n 2, 1) := by decide +kernel
theorem dX9_above_2 : decode cX9_above 2 = .ok (.if_icmp .le 17, 3) := by decide +kernel
theorem dX9_above_5 : decode cX9_above 5 = .ok (.ldc2_w 149, 3) := by decide +kernel
theorem dX9_above_8 : decode cX9_above 8 = .ok (.iload_n 0, 1) := by decide +kernel
theorem dX9_above_9 : decode cX9_above 9 = .ok (.i2l, 1) := by decide +kernel
theorem dX9_above_10 : decode cX9_above 10 = .ok (.lmul, 1) := by decide +kernel
theorem dX9_above_11 : decode cX9_above 11 = .ok (.iload_n 1, 1) := by decide +kernel
theorem dX9_above_12 : decode cX9_above 12 = .ok (.iload_n 2, 1) := by decide +kernel
theorem dX9_above_13 : decode cX9_above 13 = .ok (.isub, 1) := by decide +kernel
theorem dX9_above_14 : decode cX9_above 14 = .ok (.i2l, 1) := by decide +kernel
theorem dX9_above_15 : decode cX9_above 15 = .ok (.lmul, 1) := by decide +kernel
theorem dX9_above_16 : decode cX9_above 16 = .ok (.goto 4, 3) := by decide +kernel
theorem dX9_above_19 : decode cX9_above 19 = .ok (.lconst 0, 1) := by decide +kernel
theorem dX9_above_20 : decode cX9_above 20 = .ok (.lreturn, 1) := by decide +kernel
theorem c_X9_above {a0 : Int32} {a1 : Int32} {a2 : Int32} : CWp S N d MX9_above [.int a0, .int a1, .int a2] I J P Q ↔ Wp S N d MX9_above 0 [some (.int a0), some (.int a1), some (.int a2)] [] I J P Q := by
  rw [cwp_iff]
  exact ⟨fun h => h.2, fun h => ⟨Nat.le_of_ble_eq_true rfl, h⟩⟩
theorem e_X9_above_0 {w : Int32} {x0 x2 : Option Value} : Wp S N d MX9_above 0 [x0, some (.int w), x2] [] I J P Q ↔ Wp S N d MX9_above 1 [x0, some (.int w), x2] [.int w] I J P Q := wp_lod (len := 1) rfl rfl rfl rfl dX9_above_0
theorem e_X9_above_1 {v0 : Int32} {w : Int32} {x0 x1 : Option Value} : Wp S N d MX9_above 1 [x0, x1, some (.int w)] [.int v0] I J P Q ↔ Wp S N d MX9_above 2 [x0, x1, some (.int w)] [.int w, .int v0] I J P Q := wp_lod (len := 1) rfl rfl rfl rfl dX9_above_1
theorem e_X9_above_2 {v0 : Int32} {v1 : Int32} {x0 x1 x2 : Option Value} : Wp S N d MX9_above 2 [x0, x1, x2] [.int v0, .int v1] I J P Q ↔ (v1 ≤ v0 → Wp S N d MX9_above 19 [x0, x1, x2] [] I J P Q) ∧ (¬ v1 ≤ v0 → Wp S N d MX9_above 5 [x0, x1, x2] [] I J P Q) := wp_br rfl rfl (by decide) dX9_above_2
theorem e_X9_above_5  {x0 x1 x2 : Option Value} : Wp S N d MX9_above 5 [x0, x1, x2] [] I J P Q ↔ Wp S N d MX9_above 8 [x0, x1, x2] [.long 1000] I J P Q := wp_ldc2 rfl dX9_above_5
theorem e_X9_above_8 {v0 : Int64} {w : Int32} {x1 x2 : Option Value} : Wp S N d MX9_above 8 [some (.int w), x1, x2] [.long v0] I J P Q ↔ Wp S N d MX9_above 9 [some (.int w), x1, x2] [.int w, .long v0] I J P Q := wp_lod (len := 1) rfl rfl rfl rfl dX9_above_8
theorem e_X9_above_9 {v0 : Int32} {v1 : Int64} {x0 x1 x2 : Option Value} : Wp S N d MX9_above 9 [x0, x1, x2] [.int v0, .long v1] I J P Q ↔ Wp S N d MX9_above 10 [x0, x1, x2] [.long v0.toInt64, .long v1] I J P Q := wp_alu (len := 1) rfl rfl rfl dX9_above_9
theorem e_X9_above_10 {v0 : Int64} {v1 : Int64} {x0 x1 x2 : Option Value} : Wp S N d MX9_above 10 [x0, x1, x2] [.long v0, .long v1] I J P Q ↔ Wp S N d MX9_above 11 [x0, x1, x2] [.long (v1 * v0)] I J P Q := wp_alu (len := 1) rfl rfl rfl dX9_above_10
theorem e_X9_above_11 {v0 : Int64} {w : Int32} {x0 x2 : Option Value} : Wp S N d MX9_above 11 [x0, some (.int w), x2] [.long v0] I J P Q ↔ Wp S N d MX9_above 12 [x0, some (.int w), x2] [.int w, .long v0] I J P Q := wp_lod (len := 1) rfl rfl rfl rfl dX9_above_11
theorem e_X9_above_12 {v0 : Int32} {v1 : Int64} {w : Int32} {x0 x1 : Option Value} : Wp S N d MX9_above 12 [x0, x1, some (.int w)] [.int v0, .long v1] I J P Q ↔ Wp S N d MX9_above 13 [x0, x1, some (.int w)] [.int w, .int v0, .long v1] I J P Q := wp_lod (len := 1) rfl rfl rfl rfl dX9_above_12
theorem e_X9_above_13 {v0 : Int32} {v1 : Int32} {v2 : Int64} {x0 x1 x2 : Option Value} : Wp S N d MX9_above 13 [x0, x1, x2] [.int v0, .int v1, .long v2] I J P Q ↔ Wp S N d MX9_above 14 [x0, x1, x2] [.int (v1 - v0), .long v2] I J P Q := wp_alu (len := 1) rfl rfl rfl dX9_above_13
theorem e_X9_above_14 {v0 : Int32} {v1 : Int64} {x0 x1 x2 : Option Value} : Wp S N d MX9_above 14 [x0, x1, x2] [.int v0, .long v1] I J P Q ↔ Wp S N d MX9_above 15 [x0, x1, x2] [.long v0.toInt64, .long v1] I J P Q := wp_alu (len := 1) rfl rfl rfl dX9_above_14
theorem e_X9_above_15 {v0 : Int64} {v1 : Int64} {x0 x1 x2 : Option Value} : Wp S N d MX9_above 15 [x0, x1, x2] [.long v0, .long v1] I J P Q ↔ Wp S N d MX9_above 16 [x0, x1, x2] [.long (v1 * v0)] I J P Q := wp_alu (len := 1) rfl rfl rfl dX9_above_15
theorem e_X9_above_16 {v0 : Int64} {x0 x1 x2 : Option Value} : Wp S N d MX9_above 16 [x0, x1, x2] [.long v0] I J P Q ↔ Wp S N d MX9_above 20 [x0, x1, x2] [.long v0] I J P Q := wp_go (len := 3) rfl (fun _ _ => rfl) rfl (by decide) dX9_above_16
theorem e_X9_above_19  {x0 x1 x2 : Option Value} : Wp S N d MX9_above 19 [x0, x1, x2] [] I J P Q ↔ Wp S N d MX9_above 20 [x0, x1, x2] [.long 0] I J P Q := wp_lconst (by decide) dX9_above_19
theorem e_X9_above_20 {v0 : Int64} {x0 x1 x2 : Option Value} : Wp S N d MX9_above 20 [x0, x1, x2] [.long v0] I J P Q ↔ Q (some (.long v0)) I J P := wp_lret rfl dX9_above_20
theorem dX9_scheduled_0 : decode cX9_scheduled 0 = .ok (.lconst 0, 1) := by decide +kernel
theorem dX9_scheduled_1 : decode cX9_scheduled 1 = .ok (.lstore 4, 2) := by decide +kernel
theorem dX9_scheduled_3 : decode cX9_scheduled 3 = .ok (.iconst 0, 1) := by decide +kernel
theorem dX9_scheduled_4 : decode cX9_scheduled 4 = .ok (.istore 6, 2) := by decide +kernel
theorem dX9_scheduled_6 : decode cX9_scheduled 6 = .ok (.iload 6, 2) := by decide +kernel
theorem dX9_scheduled_8 : decode cX9_scheduled 8 = .ok (.aload_n 0, 1) := by decide +kernel
theorem dX9_scheduled_9 : decode cX9_scheduled 9 = .ok (.getfield 7, 3) := by decide +kernel
theorem dX9_scheduled_12 : decode cX9_scheduled 12 = .ok (.iconst 0, 1) := by decide +kernel
theorem dX9_scheduled_13 : decode cX9_scheduled 13 = .ok (.iaload, 1) := by decide +kernel
theorem dX9_scheduled_14 : decode cX9_scheduled 14 = .ok (.if_icmp .ge 104, 3) := by decide +kernel
theorem dX9_scheduled_17 : decode cX9_scheduled 17 = .ok (.ldc2_w 151, 3) := by decide +kernel
theorem dX9_scheduled_20 : decode cX9_scheduled 20 = .ok (.iload_n 3, 1) := by decide +kernel
theorem dX9_scheduled_21 : decode cX9_scheduled 21 = .ok (.aload_n 0, 1) := by decide +kernel
theorem dX9_scheduled_22 : decode cX9_scheduled 22 = .ok (.getfield 7, 3) := by decide +kernel
theorem dX9_scheduled_25 : decode cX9_scheduled 25 = .ok (.iconst 1, 1) := by decide +kernel
theorem dX9_scheduled_26 : decode cX9_scheduled 26 = .ok (.iconst 2, 1) := by decide +kernel
theorem dX9_scheduled_27 : decode cX9_scheduled 27 = .ok (.iload 6, 2) := by decide +kernel
theorem dX9_scheduled_29 : decode cX9_scheduled 29 = .ok (.imul, 1) := by decide +kernel
theorem dX9_scheduled_30 : decode cX9_scheduled 30 = .ok (.iadd, 1) := by decide +kernel
theorem dX9_scheduled_31 : decode cX9_scheduled 31 = .ok (.iaload, 1) := by decide +kernel
theorem dX9_scheduled_32 : decode cX9_scheduled 32 = .ok (.imul, 1) := by decide +kernel
theorem dX9_scheduled_33 : decode cX9_scheduled 33 = .ok (.i2l, 1) := by decide +kernel
theorem dX9_scheduled_34 : decode cX9_scheduled 34 = .ok (.lmul, 1) := by decide +kernel
theorem dX9_scheduled_35 : decode cX9_scheduled 35 = .ok (.lstore 7, 2) := by decide +kernel
theorem dX9_scheduled_37 : decode cX9_scheduled 37 = .ok (.iload 6, 2) := by decide +kernel
theorem dX9_scheduled_39 : decode cX9_scheduled 39 = .ok (.iconst 1, 1) := by decide +kernel
theorem dX9_scheduled_40 : decode cX9_scheduled 40 = .ok (.iadd, 1) := by decide +kernel
theorem dX9_scheduled_41 : decode cX9_scheduled 41 = .ok (.aload_n 0, 1) := by decide +kernel
theorem dX9_scheduled_42 : decode cX9_scheduled 42 = .ok (.getfield 7, 3) := by decide +kernel
theorem dX9_scheduled_45 : decode cX9_scheduled 45 = .ok (.iconst 0, 1) := by decide +kernel
theorem dX9_scheduled_46 : decode cX9_scheduled 46 = .ok (.iaload, 1) := by decide +kernel
theorem dX9_scheduled_47 : decode cX9_scheduled 47 = .ok (.if_icmp .ge 26, 3) := by decide +kernel
theorem dX9_scheduled_50 : decode cX9_scheduled 50 = .ok (.ldc2_w 151, 3) := by decide +kernel
theorem dX9_scheduled_53 : decode cX9_scheduled 53 = .ok (.iload_n 3, 1) := by decide +kernel
theorem dX9_scheduled_54 : decode cX9_scheduled 54 = .ok (.aload_n 0, 1) := by decide +kernel
theorem dX9_scheduled_55 : decode cX9_scheduled 55 = .ok (.getfield 7, 3) := by decide +kernel
theorem dX9_scheduled_58 : decode cX9_scheduled 58 = .ok (.iconst 1, 1) := by decide +kernel
theorem dX9_scheduled_59 : decode cX9_scheduled 59 = .ok (.iconst 2, 1) := by decide +kernel
theorem dX9_scheduled_60 : decode cX9_scheduled 60 = .ok (.iload 6, 2) := by decide +kernel
theorem dX9_scheduled_62 : decode cX9_scheduled 62 = .ok (.imul, 1) := by decide +kernel
theorem dX9_scheduled_63 : decode cX9_scheduled 63 = .ok (.iadd, 1) := by decide +kernel
theorem dX9_scheduled_64 : decode cX9_scheduled 64 = .ok (.iconst 2, 1) := by decide +kernel
theorem dX9_scheduled_65 : decode cX9_scheduled 65 = .ok (.iadd, 1) := by decide +kernel
theorem dX9_scheduled_66 : decode cX9_scheduled 66 = .ok (.iaload, 1) := by decide +kernel
theorem dX9_scheduled_67 : decode cX9_scheduled 67 = .ok (.imul, 1) := by decide +kernel
theorem dX9_scheduled_68 : decode cX9_scheduled 68 = .ok (.i2l, 1) := by decide +kernel
theorem dX9_scheduled_69 : decode cX9_scheduled 69 = .ok (.lmul, 1) := by decide +kernel
theorem dX9_scheduled_70 : decode cX9_scheduled 70 = .ok (.goto 4, 3) := by decide +kernel
theorem dX9_scheduled_73 : decode cX9_scheduled 73 = .ok (.lload_n 1, 1) := by decide +kernel
theorem dX9_scheduled_74 : decode cX9_scheduled 74 = .ok (.lstore 9, 2) := by decide +kernel
theorem dX9_scheduled_76 : decode cX9_scheduled 76 = .ok (.lload 4, 2) := by decide +kernel
theorem dX9_scheduled_78 : decode cX9_scheduled 78 = .ok (.lload_n 1, 1) := by decide +kernel
theorem dX9_scheduled_79 : decode cX9_scheduled 79 = .ok (.lload 9, 2) := by decide +kernel
theorem dX9_scheduled_81 : decode cX9_scheduled 81 = .ok (.invokestatic 153, 3) := by decide +kernel
theorem dX9_scheduled_84 : decode cX9_scheduled 84 = .ok (.lload 7, 2) := by decide +kernel
theorem dX9_scheduled_86 : decode cX9_scheduled 86 = .ok (.lsub, 1) := by decide +kernel
theorem dX9_scheduled_87 : decode cX9_scheduled 87 = .ok (.invokestatic 157, 3) := by decide +kernel
theorem dX9_scheduled_90 : decode cX9_scheduled 90 = .ok (.ldc2_w 149, 3) := by decide +kernel
theorem dX9_scheduled_93 : decode cX9_scheduled 93 = .ok (.ldiv, 1) := by decide +kernel
theorem dX9_scheduled_94 : decode cX9_scheduled 94 = .ok (.aload_n 0, 1) := by decide +kernel
theorem dX9_scheduled_95 : decode cX9_scheduled 95 = .ok (.getfield 7, 3) := by decide +kernel
theorem dX9_scheduled_98 : decode cX9_scheduled 98 = .ok (.iconst 1, 1) := by decide +kernel
theorem dX9_scheduled_99 : decode cX9_scheduled 99 = .ok (.iconst 2, 1) := by decide +kernel
theorem dX9_scheduled_100 : decode cX9_scheduled 100 = .ok (.iload 6, 2) := by decide +kernel
theorem dX9_scheduled_102 : decode cX9_scheduled 102 = .ok (.imul, 1) := by decide +kernel
theorem dX9_scheduled_103 : decode cX9_scheduled 103 = .ok (.iadd, 1) := by decide +kernel
theorem dX9_scheduled_104 : decode cX9_scheduled 104 = .ok (.iconst 1, 1) := by decide +kernel
theorem dX9_scheduled_105 : decode cX9_scheduled 105 = .ok (.iadd, 1) := by decide +kernel
theorem dX9_scheduled_106 : decode cX9_scheduled 106 = .ok (.iaload, 1) := by decide +kernel
theorem dX9_scheduled_107 : decode cX9_scheduled 107 = .ok (.i2l, 1) := by decide +kernel
theorem dX9_scheduled_108 : decode cX9_scheduled 108 = .ok (.lmul, 1) := by decide +kernel
theorem dX9_scheduled_109 : decode cX9_scheduled 109 = .ok (.ladd, 1) := by decide +kernel
theorem dX9_scheduled_110 : decode cX9_scheduled 110 = .ok (.lstore 4, 2) := by decide +kernel
theorem dX9_scheduled_112 : decode cX9_scheduled 112 = .ok (.iinc 6 1, 3) := by decide +kernel
theorem dX9_scheduled_115 : decode cX9_scheduled 115 = .ok (.goto (-109), 3) := by decide +kernel
theorem dX9_scheduled_118 : decode cX9_scheduled 118 = .ok (.lload 4, 2) := by decide +kernel
theorem dX9_scheduled_120 : decode cX9_scheduled 120 = .ok (.lreturn, 1) := by decide +kernel
theorem c_X9_scheduled {a0 : Nat} {a1 : Int64} {a2 : Int32} : CWp S N d MX9_scheduled [.ref a0, .long a1, .int a2] I J P Q ↔ Wp S N d MX9_scheduled 0 [some (.ref a0), some (.long a1), none, some (.int a2), none, none, none, none, none, none, none] [] I J P Q := by
  rw [cwp_iff]
  exact ⟨fun h => h.2, fun h => ⟨Nat.le_of_ble_eq_true rfl, h⟩⟩
theorem e_X9_scheduled_0  {x0 x1 x2 x3 x4 x5 x6 x7 x8 x9 x10 : Option Value} : Wp S N d MX9_scheduled 0 [x0, x1, x2, x3, x4, x5, x6, x7, x8, x9, x10] [] I J P Q ↔ Wp S N d MX9_scheduled 1 [x0, x1, x2, x3, x4, x5, x6, x7, x8, x9, x10] [.long 0] I J P Q := wp_lconst (by decide) dX9_scheduled_0
theorem e_X9_scheduled_1 {v0 : Int64} {x0 x1 x2 x3 x4 x5 x6 x7 x8 x9 x10 : Option Value} : Wp S N d MX9_scheduled 1 [x0, x1, x2, x3, x4, x5, x6, x7, x8, x9, x10] [.long v0] I J P Q ↔ Wp S N d MX9_scheduled 3 [x0, x1, x2, kl x3, some (.long v0), none, x6, x7, x8, x9, x10] [] I J P Q := wp_sto (len := 2) rfl rfl rfl rfl (Nat.le_of_ble_eq_true rfl) rfl dX9_scheduled_1
theorem e_X9_scheduled_3  {x0 x1 x2 x3 x4 x5 x6 x7 x8 x9 x10 : Option Value} : Wp S N d MX9_scheduled 3 [x0, x1, x2, x3, x4, x5, x6, x7, x8, x9, x10] [] I J P Q ↔ Wp S N d MX9_scheduled 4 [x0, x1, x2, x3, x4, x5, x6, x7, x8, x9, x10] [.int 0] I J P Q := wp_iconst (by decide) dX9_scheduled_3
theorem e_X9_scheduled_4 {v0 : Int32} {x0 x1 x2 x3 x4 x5 x6 x7 x8 x9 x10 : Option Value} : Wp S N d MX9_scheduled 4 [x0, x1, x2, x3, x4, x5, x6, x7, x8, x9, x10] [.int v0] I J P Q ↔ Wp S N d MX9_scheduled 6 [x0, x1, x2, x3, x4, kl x5, some (.int v0), x7, x8, x9, x10] [] I J P Q := wp_sto (len := 2) rfl rfl rfl rfl (Nat.le_of_ble_eq_true rfl) rfl dX9_scheduled_4
theorem e_X9_scheduled_6 {w : Int32} {x0 x1 x2 x3 x4 x5 x7 x8 x9 x10 : Option Value} : Wp S N d MX9_scheduled 6 [x0, x1, x2, x3, x4, x5, some (.int w), x7, x8, x9, x10] [] I J P Q ↔ Wp S N d MX9_scheduled 8 [x0, x1, x2, x3, x4, x5, some (.int w), x7, x8, x9, x10] [.int w] I J P Q := wp_lod (len := 2) rfl rfl rfl rfl dX9_scheduled_6
theorem e_X9_scheduled_8 {v0 : Int32} {w : Nat} {x1 x2 x3 x4 x5 x6 x7 x8 x9 x10 : Option Value} : Wp S N d MX9_scheduled 8 [some (.ref w), x1, x2, x3, x4, x5, x6, x7, x8, x9, x10] [.int v0] I J P Q ↔ Wp S N d MX9_scheduled 9 [some (.ref w), x1, x2, x3, x4, x5, x6, x7, x8, x9, x10] [.ref w, .int v0] I J P Q := wp_lod (len := 1) rfl rfl rfl rfl dX9_scheduled_8
theorem e_X9_scheduled_9 {v0 : Nat} {v1 : Int32} {x0 x1 x2 x3 x4 x5 x6 x7 x8 x9 x10 : Option Value} : Wp S N d MX9_scheduled 9 [x0, x1, x2, x3, x4, x5, x6, x7, x8, x9, x10] [.ref v0, .int v1] I J P Q ↔ S v0 = 9 ∧ Wp S N d MX9_scheduled 12 [x0, x1, x2, x3, x4, x5, x6, x7, x8, x9, x10] [va_rf (P v0 0), .int v1] I J P Q := wp_getf rfl rfl rfl rfl dX9_scheduled_9
theorem e_X9_scheduled_12 {v0 : Nat} {v1 : Int32} {x0 x1 x2 x3 x4 x5 x6 x7 x8 x9 x10 : Option Value} : Wp S N d MX9_scheduled 12 [x0, x1, x2, x3, x4, x5, x6, x7, x8, x9, x10] [.ref v0, .int v1] I J P Q ↔ Wp S N d MX9_scheduled 13 [x0, x1, x2, x3, x4, x5, x6, x7, x8, x9, x10] [.int 0, .ref v0, .int v1] I J P Q := wp_iconst (by decide) dX9_scheduled_12
theorem e_X9_scheduled_13 {v0 : Int32} {v1 : Nat} {v2 : Int32} {x0 x1 x2 x3 x4 x5 x6 x7 x8 x9 x10 : Option Value} : Wp S N d MX9_scheduled 13 [x0, x1, x2, x3, x4, x5, x6, x7, x8, x9, x10] [.int v0, .ref v1, .int v2] I J P Q ↔ (S v1 = 10 ∧ vp_in v0 (N v1)) ∧ Wp S N d MX9_scheduled 14 [x0, x1, x2, x3, x4, x5, x6, x7, x8, x9, x10] [.int (I v1 v0.toNatClampNeg), .int v2] I J P Q := wp_ald rfl rfl dX9_scheduled_13
theorem e_X9_scheduled_14 {v0 : Int32} {v1 : Int32} {x0 x1 x2 x3 x4 x5 x6 x7 x8 x9 x10 : Option Value} : Wp S N d MX9_scheduled 14 [x0, x1, x2, x3, x4, x5, x6, x7, x8, x9, x10] [.int v0, .int v1] I J P Q ↔ (v0 ≤ v1 → Wp S N d MX9_scheduled 118 [x0, x1, x2, x3, x4, x5, x6, x7, x8, x9, x10] [] I J P Q) ∧ (¬ v0 ≤ v1 → Wp S N d MX9_scheduled 17 [x0, x1, x2, x3, x4, x5, x6, x7, x8, x9, x10] [] I J P Q) := wp_br rfl rfl (by decide) dX9_scheduled_14
theorem e_X9_scheduled_17  {x0 x1 x2 x3 x4 x5 x6 x7 x8 x9 x10 : Option Value} : Wp S N d MX9_scheduled 17 [x0, x1, x2, x3, x4, x5, x6, x7, x8, x9, x10] [] I J P Q ↔ Wp S N d MX9_scheduled 20 [x0, x1, x2, x3, x4, x5, x6, x7, x8, x9, x10] [.long 1000000] I J P Q := wp_ldc2 rfl dX9_scheduled_17
theorem e_X9_scheduled_20 {v0 : Int64} {w : Int32} {x0 x1 x2 x4 x5 x6 x7 x8 x9 x10 : Option Value} : Wp S N d MX9_scheduled 20 [x0, x1, x2, some (.int w), x4, x5, x6, x7, x8, x9, x10] [.long v0] I J P Q ↔ Wp S N d MX9_scheduled 21 [x0, x1, x2, some (.int w), x4, x5, x6, x7, x8, x9, x10] [.int w, .long v0] I J P Q := wp_lod (len := 1) rfl rfl rfl rfl dX9_scheduled_20
theorem e_X9_scheduled_21 {v0 : Int32} {v1 : Int64} {w : Nat} {x1 x2 x3 x4 x5 x6 x7 x8 x9 x10 : Option Value} : Wp S N d MX9_scheduled 21 [some (.ref w), x1, x2, x3, x4, x5, x6, x7, x8, x9, x10] [.int v0, .long v1] I J P Q ↔ Wp S N d MX9_scheduled 22 [some (.ref w), x1, x2, x3, x4, x5, x6, x7, x8, x9, x10] [.ref w, .int v0, .long v1] I J P Q := wp_lod (len := 1) rfl rfl rfl rfl dX9_scheduled_21
theorem e_X9_scheduled_22 {v0 : Nat} {v1 : Int32} {v2 : Int64} {x0 x1 x2 x3 x4 x5 x6 x7 x8 x9 x10 : Option Value} : Wp S N d MX9_scheduled 22 [x0, x1, x2, x3, x4, x5, x6, x7, x8, x9, x10] [.ref v0, .int v1, .long v2] I J P Q ↔ S v0 = 9 ∧ Wp S N d MX9_scheduled 25 [x0, x1, x2, x3, x4, x5, x6, x7, x8, x9, x10] [va_rf (P v0 0), .int v1, .long v2] I J P Q := wp_getf rfl rfl rfl rfl dX9_scheduled_22
theorem e_X9_scheduled_25 {v0 : Nat} {v1 : Int32} {v2 : Int64} {x0 x1 x2 x3 x4 x5 x6 x7 x8 x9 x10 : Option Value} : Wp S N d MX9_scheduled 25 [x0, x1, x2, x3, x4, x5, x6, x7, x8, x9, x10] [.ref v0, .int v1, .long v2] I J P Q ↔ Wp S N d MX9_scheduled 26 [x0, x1, x2, x3, x4, x5, x6, x7, x8, x9, x10] [.int 1, .ref v0, .int v1, .long v2] I J P Q := wp_iconst (by decide) dX9_scheduled_25
theorem e_X9_scheduled_26 {v0 : Int32} {v1 : Nat} {v2 : Int32} {v3 : Int64} {x0 x1 x2 x3 x4 x5 x6 x7 x8 x9 x10 : Option Value} : Wp S N d MX9_scheduled 26 [x0, x1, x2, x3, x4, x5, x6, x7, x8, x9, x10] [.int v0, .ref v1, .int v2, .long v3] I J P Q ↔ Wp S N d MX9_scheduled 27 [x0, x1, x2, x3, x4, x5, x6, x7, x8, x9, x10] [.int 2, .int v0, .ref v1, .int v2, .long v3] I J P Q := wp_iconst (by decide) dX9_scheduled_26
theorem e_X9_scheduled_27 {v0 : Int32} {v1 : Int32} {v2 : Nat} {v3 : Int32} {v4 : Int64} {w : Int32} {x0 x1 x2 x3 x4 x5 x7 x8 x9 x10 : Option Value} : Wp S N d MX9_scheduled 27 [x0, x1, x2, x3, x4, x5, some (.int w), x7, x8, x9, x10] [.int v0, .int v1, .ref v2, .int v3, .long v4] I J P Q ↔ Wp S N d MX9_scheduled 29 [x0, x1, x2, x3, x4, x5, some (.int w), x7, x8, x9, x10] [.int w, .int v0, .int v1, .ref v2, .int v3, .long v4] I J P Q := wp_lod (len := 2) rfl rfl rfl rfl dX9_scheduled_27
theorem e_X9_scheduled_29 {v0 : Int32} {v1 : Int32} {v2 : Int32} {v3 : Nat} {v4 : Int32} {v5 : Int64} {x0 x1 x2 x3 x4 x5 x6 x7 x8 x9 x10 : Option Value} : Wp S N d MX9_scheduled 29 [x0, x1, x2, x3, x4, x5, x6, x7, x8, x9, x10] [.int v0, .int v1, .int v2, .ref v3, .int v4, .long v5] I J P Q ↔ Wp S N d MX9_scheduled 30 [x0, x1, x2, x3, x4, x5, x6, x7, x8, x9, x10] [.int (v1 * v0), .int v2, .ref v3, .int v4, .long v5] I J P Q := wp_alu (len := 1) rfl rfl rfl dX9_scheduled_29
theorem e_X9_scheduled_30 {v0 : Int32} {v1 : Int32} {v2 : Nat} {v3 : Int32} {v4 : Int64} {x0 x1 x2 x3 x4 x5 x6 x7 x8 x9 x10 : Option Value} : Wp S N d MX9_scheduled 30 [x0, x1, x2, x3, x4, x5, x6, x7, x8, x9, x10] [.int v0, .int v1, .ref v2, .int v3, .long v4] I J P Q ↔ Wp S N d MX9_scheduled 31 [x0, x1, x2, x3, x4, x5, x6, x7, x8, x9, x10] [.int (v1 + v0), .ref v2, .int v3, .long v4] I J P Q := wp_alu (len := 1) rfl rfl rfl dX9_scheduled_30
theorem e_X9_scheduled_31 {v0 : Int32} {v1 : Nat} {v2 : Int32} {v3 : Int64} {x0 x1 x2 x3 x4 x5 x6 x7 x8 x9 x10 : Option Value} : Wp S N d MX9_scheduled 31 [x0, x1, x2, x3, x4, x5, x6, x7, x8, x9, x10] [.int v0, .ref v1, .int v2, .long v3] I J P Q ↔ (S v1 = 10 ∧ vp_in v0 (N v1)) ∧ Wp S N d MX9_scheduled 32 [x0, x1, x2, x3, x4, x5, x6, x7, x8, x9, x10] [.int (I v1 v0.toNatClampNeg), .int v2, .long v3] I J P Q := wp_ald rfl rfl dX9_scheduled_31
theorem e_X9_scheduled_32 {v0 : Int32} {v1 : Int32} {v2 : Int64} {x0 x1 x2 x3 x4 x5 x6 x7 x8 x9 x10 : Option Value} : Wp S N d MX9_scheduled 32 [x0, x1, x2, x3, x4, x5, x6, x7, x8, x9, x10] [.int v0, .int v1, .long v2] I J P Q ↔ Wp S N d MX9_scheduled 33 [x0, x1, x2, x3, x4, x5, x6, x7, x8, x9, x10] [.int (v1 * v0), .long v2] I J P Q := wp_alu (len := 1) rfl rfl rfl dX9_scheduled_32
theorem e_X9_scheduled_33 {v0 : Int32} {v1 : Int64} {x0 x1 x2 x3 x4 x5 x6 x7 x8 x9 x10 : Option Value} : Wp S N d MX9_scheduled 33 [x0, x1, x2, x3, x4, x5, x6, x7, x8, x9, x10] [.int v0, .long v1] I J P Q ↔ Wp S N d MX9_scheduled 34 [x0, x1, x2, x3, x4, x5, x6, x7, x8, x9, x10] [.long v0.toInt64, .long v1] I J P Q := wp_alu (len := 1) rfl rfl rfl dX9_scheduled_33
theorem e_X9_scheduled_34 {v0 : Int64} {v1 : Int64} {x0 x1 x2 x3 x4 x5 x6 x7 x8 x9 x10 : Option Value} : Wp S N d MX9_scheduled 34 [x0, x1, x2, x3, x4, x5, x6, x7, x8, x9, x10] [.long v0, .long v1] I J P Q ↔ Wp S N d MX9_scheduled 35 [x0, x1, x2, x3, x4, x5, x6, x7, x8, x9, x10] [.long (v1 * v0)] I J P Q := wp_alu (len := 1) rfl rfl rfl dX9_scheduled_34
theorem e_X9_scheduled_35 {v0 : Int64} {x0 x1 x2 x3 x4 x5 x6 x7 x8 x9 x10 : Option Value} : Wp S N d MX9_scheduled 35 [x0, x1, x2, x3, x4, x5, x6, x7, x8, x9, x10] [.long v0] I J P Q ↔ Wp S N d MX9_scheduled 37 [x0, x1, x2, x3, x4, x5, kl x6, some (.long v0), none, x9, x10] [] I J P Q := wp_sto (len := 2) rfl rfl rfl rfl (Nat.le_of_ble_eq_true rfl) rfl dX9_scheduled_35
theorem e_X9_scheduled_37 {w : Int32} {x0 x1 x2 x3 x4 x5 x7 x8 x9 x10 : Option Value} : Wp S N d MX9_scheduled 37 [x0, x1, x2, x3, x4, x5, some (.int w), x7, x8, x9, x10] [] I J P Q ↔ Wp S N d MX9_scheduled 39 [x0, x1, x2, x3, x4, x5, some (.int w), x7, x8, x9, x10] [.int w] I J P Q := wp_lod (len := 2) rfl rfl rfl rfl dX9_scheduled_37
theorem e_X9_scheduled_39 {v0 : Int32} {x0 x1 x2 x3 x4 x5 x6 x7 x8 x9 x10 : Option Value} : Wp S N d MX9_scheduled 39 [x0, x1, x2, x3, x4, x5, x6, x7, x8, x9, x10] [.int v0] I J P Q ↔ Wp S N d MX9_scheduled 40 [x0, x1, x2, x3, x4, x5, x6, x7, x8, x9, x10] [.int 1, .int v0] I J P Q := wp_iconst (by decide) dX9_scheduled_39
theorem e_X9_scheduled_40 {v0 : Int32} {v1 : Int32} {x0 x1 x2 x3 x4 x5 x6 x7 x8 x9 x10 : Option Value} : Wp S N d MX9_scheduled 40 [x0, x1, x2, x3, x4, x5, x6, x7, x8, x9, x10] [.int v0, .int v1] I J P Q ↔ Wp S N d MX9_scheduled 41 [x0, x1, x2, x3, x4, x5, x6, x7, x8, x9, x10] [.int (v1 + v0)] I J P Q := wp_alu (len := 1) rfl rfl rfl dX9_scheduled_40
theorem e_X9_scheduled_41 {v0 : Int32} {w : Nat} {x1 x2 x3 x4 x5 x6 x7 x8 x9 x10 : Option Value} : Wp S N d MX9_scheduled 41 [some (.ref w), x1, x2, x3, x4, x5, x6, x7, x8, x9, x10] [.int v0] I J P Q ↔ Wp S N d MX9_scheduled 42 [some (.ref w), x1, x2, x3, x4, x5, x6, x7, x8, x9, x10] [.ref w, .int v0] I J P Q := wp_lod (len := 1) rfl rfl rfl rfl dX9_scheduled_41
theorem e_X9_scheduled_42 {v0 : Nat} {v1 : Int32} {x0 x1 x2 x3 x4 x5 x6 x7 x8 x9 x10 : Option Value} : Wp S N d MX9_scheduled 42 [x0, x1, x2, x3, x4, x5, x6, x7, x8, x9, x10] [.ref v0, .int v1] I J P Q ↔ S v0 = 9 ∧ Wp S N d MX9_scheduled 45 [x0, x1, x2, x3, x4, x5, x6, x7, x8, x9, x10] [va_rf (P v0 0), .int v1] I J P Q := wp_getf rfl rfl rfl rfl dX9_scheduled_42
theorem e_X9_scheduled_45 {v0 : Nat} {v1 : Int32} {x0 x1 x2 x3 x4 x5 x6 x7 x8 x9 x10 : Option Value} : Wp S N d MX9_scheduled 45 [x0, x1, x2, x3, x4, x5, x6, x7, x8, x9, x10] [.ref v0, .int v1] I J P Q ↔ Wp S N d MX9_scheduled 46 [x0, x1, x2, x3, x4, x5, x6, x7, x8, x9, x10] [.int 0, .ref v0, .int v1] I J P Q := wp_iconst (by decide) dX9_scheduled_45
theorem e_X9_scheduled_46 {v0 : Int32} {v1 : Nat} {v2 : Int32} {x0 x1 x2 x3 x4 x5 x6 x7 x8 x9 x10 : Option Value} : Wp S N d MX9_scheduled 46 [x0, x1, x2, x3, x4, x5, x6, x7, x8, x9, x10] [.int v0, .ref v1, .int v2] I J P Q ↔ (S v1 = 10 ∧ vp_in v0 (N v1)) ∧ Wp S N d MX9_scheduled 47 [x0, x1, x2, x3, x4, x5, x6, x7, x8, x9, x10] [.int (I v1 v0.toNatClampNeg), .int v2] I J P Q := wp_ald rfl rfl dX9_scheduled_46
theorem e_X9_scheduled_47 {v0 : Int32} {v1 : Int32} {x0 x1 x2 x3 x4 x5 x6 x7 x8 x9 x10 : Option Value} : Wp S N d MX9_scheduled 47 [x0, x1, x2, x3, x4, x5, x6, x7, x8, x9, x10] [.int v0, .int v1] I J P Q ↔ (v0 ≤ v1 → Wp S N d MX9_scheduled 73 [x0, x1, x2, x3, x4, x5, x6, x7, x8, x9, x10] [] I J P Q) ∧ (¬ v0 ≤ v1 → Wp S N d MX9_scheduled 50 [x0, x1, x2, x3, x4, x5, x6, x7, x8, x9, x10] [] I J P Q) := wp_br rfl rfl (by decide) dX9_scheduled_47
theorem e_X9_scheduled_50  {x0 x1 x2 x3 x4 x5 x6 x7 x8 x9 x10 : Option Value} : Wp S N d MX9_scheduled 50 [x0, x1, x2, x3, x4, x5, x6, x7, x8, x9, x10] [] I J P Q ↔ Wp S N d MX9_scheduled 53 [x0, x1, x2, x3, x4, x5, x6, x7, x8, x9, x10] [.long 1000000] I J P Q := wp_ldc2 rfl dX9_scheduled_50
theorem e_X9_scheduled_53 {v0 : Int64} {w : Int32} {x0 x1 x2 x4 x5 x6 x7 x8 x9 x10 : Option Value} : Wp S N d MX9_scheduled 53 [x0, x1, x2, some (.int w), x4, x5, x6, x7, x8, x9, x10] [.long v0] I J P Q ↔ Wp S N d MX9_scheduled 54 [x0, x1, x2, some (.int w), x4, x5, x6, x7, x8, x9, x10] [.int w, .long v0] I J P Q := wp_lod (len := 1) rfl rfl rfl rfl dX9_scheduled_53
theorem e_X9_scheduled_54 {v0 : Int32} {v1 : Int64} {w : Nat} {x1 x2 x3 x4 x5 x6 x7 x8 x9 x10 : Option Value} : Wp S N d MX9_scheduled 54 [some (.ref w), x1, x2, x3, x4, x5, x6, x7, x8, x9, x10] [.int v0, .long v1] I J P Q ↔ Wp S N d MX9_scheduled 55 [some (.ref w), x1, x2, x3, x4, x5, x6, x7, x8, x9, x10] [.ref w, .int v0, .long v1] I J P Q := wp_lod (len := 1) rfl rfl rfl rfl dX9_scheduled_54
theorem e_X9_scheduled_55 {v0 : Nat} {v1 : Int32} {v2 : Int64} {x0 x1 x2 x3 x4 x5 x6 x7 x8 x9 x10 : Option Value} : Wp S N d MX9_scheduled 55 [x0, x1, x2, x3, x4, x5, x6, x7, x8, x9, x10] [.ref v0, .int v1, .long v2] I J P Q ↔ S v0 = 9 ∧ Wp S N d MX9_scheduled 58 [x0, x1, x2, x3, x4, x5, x6, x7, x8, x9, x10] [va_rf (P v0 0), .int v1, .long v2] I J P Q := wp_getf rfl rfl rfl rfl dX9_scheduled_55
theorem e_X9_scheduled_58 {v0 : Nat} {v1 : Int32} {v2 : Int64} {x0 x1 x2 x3 x4 x5 x6 x7 x8 x9 x10 : Option Value} : Wp S N d MX9_scheduled 58 [x0, x1, x2, x3, x4, x5, x6, x7, x8, x9, x10] [.ref v0, .int v1, .long v2] I J P Q ↔ Wp S N d MX9_scheduled 59 [x0, x1, x2, x3, x4, x5, x6, x7, x8, x9, x10] [.int 1, .ref v0, .int v1, .long v2] I J P Q := wp_iconst (by decide) dX9_scheduled_58
theorem e_X9_scheduled_59 {v0 : Int32} {v1 : Nat} {v2 : Int32} {v3 : Int64} {x0 x1 x2 x3 x4 x5 x6 x7 x8 x9 x10 : Option Value} : Wp S N d MX9_scheduled 59 [x0, x1, x2, x3, x4, x5, x6, x7, x8, x9, x10] [.int v0, .ref v1, .int v2, .long v3] I J P Q ↔ Wp S N d MX9_scheduled 60 [x0, x1, x2, x3, x4, x5, x6, x7, x8, x9, x10] [.int 2, .int v0, .ref v1, .int v2, .long v3] I J P Q := wp_iconst (by decide) dX9_scheduled_59
theorem e_X9_scheduled_60 {v0 : Int32} {v1 : Int32} {v2 : Nat} {v3 : Int32} {v4 : Int64} {w : Int32} {x0 x1 x2 x3 x4 x5 x7 x8 x9 x10 : Option Value} : Wp S N d MX9_scheduled 60 [x0, x1, x2, x3, x4, x5, some (.int w), x7, x8, x9, x10] [.int v0, .int v1, .ref v2, .int v3, .long v4] I J P Q ↔ Wp S N d MX9_scheduled 62 [x0, x1, x2, x3, x4, x5, some (.int w), x7, x8, x9, x10] [.int w, .int v0, .int v1, .ref v2, .int v3, .long v4] I J P Q := wp_lod (len := 2) rfl rfl rfl rfl dX9_scheduled_60
theorem e_X9_scheduled_62 {v0 : Int32} {v1 : Int32} {v2 : Int32} {v3 : Nat} {v4 : Int32} {v5 : Int64} {x0 x1 x2 x3 x4 x5 x6 x7 x8 x9 x10 : Option Value} : Wp S N d MX9_scheduled 62 [x0, x1, x2, x3, x4, x5, x6, x7, x8, x9, x10] [.int v0, .int v1, .int v2, .ref v3, .int v4, .long v5] I J P Q ↔ Wp S N d MX9_scheduled 63 [x0, x1, x2, x3, x4, x5, x6, x7, x8, x9, x10] [.int (v1 * v0), .int v2, .ref v3, .int v4, .long v5] I J P Q := wp_alu (len := 1) rfl rfl rfl dX9_scheduled_62
theorem e_X9_scheduled_63 {v0 : Int32} {v1 : Int32} {v2 : Nat} {v3 : Int32} {v4 : Int64} {x0 x1 x2 x3 x4 x5 x6 x7 x8 x9 x10 : Option Value} : Wp S N d MX9_scheduled 63 [x0, x1, x2, x3, x4, x5, x6, x7, x8, x9, x10] [.int v0, .int v1, .ref v2, .int v3, .long v4] I J P Q ↔ Wp S N d MX9_scheduled 64 [x0, x1, x2, x3, x4, x5, x6, x7, x8, x9, x10] [.int (v1 + v0), .ref v2, .int v3, .long v4] I J P Q := wp_alu (len := 1) rfl rfl rfl dX9_scheduled_63
theorem e_X9_scheduled_64 {v0 : Int32} {v1 : Nat} {v2 : Int32} {v3 : Int64} {x0 x1 x2 x3 x4 x5 x6 x7 x8 x9 x10 : Option Value} : Wp S N d MX9_scheduled 64 [x0, x1, x2, x3, x4, x5, x6, x7, x8, x9, x10] [.int v0, .ref v1, .int v2, .long v3] I J P Q ↔ Wp S N d MX9_scheduled 65 [x0, x1, x2, x3, x4, x5, x6, x7, x8, x9, x10] [.int 2, .int v0, .ref v1, .int v2, .long v3] I J P Q := wp_iconst (by decide) dX9_scheduled_64
theorem e_X9_scheduled_65 {v0 : Int32} {v1 : Int32} {v2 : Nat} {v3 : Int32} {v4 : Int64} {x0 x1 x2 x3 x4 x5 x6 x7 x8 x9 x10 : Option Value} : Wp S N d MX9_scheduled 65 [x0, x1, x2, x3, x4, x5, x6, x7, x8, x9, x10] [.int v0, .int v1, .ref v2, .int v3, .long v4] I J P Q ↔ Wp S N d MX9_scheduled 66 [x0, x1, x2, x3, x4, x5, x6, x7, x8, x9, x10] [.int (v1 + v0), .ref v2, .int v3, .long v4] I J P Q := wp_alu (len := 1) rfl rfl rfl dX9_scheduled_65
theorem e_X9_scheduled_66 {v0 : Int32} {v1 : Nat} {v2 : Int32} {v3 : Int64} {x0 x1 x2 x3 x4 x5 x6 x7 x8 x9 x10 : Option Value} : Wp S N d MX9_scheduled 66 [x0, x1, x2, x3, x4, x5, x6, x7, x8, x9, x10] [.int v0, .ref v1, .int v2, .long v3] I J P Q ↔ (S v1 = 10 ∧ vp_in v0 (N v1)) ∧ Wp S N d MX9_scheduled 67 [x0, x1, x2, x3, x4, x5, x6, x7, x8, x9, x10] [.int (I v1 v0.toNatClampNeg), .int v2, .long v3] I J P Q := wp_ald rfl rfl dX9_scheduled_66
theorem e_X9_scheduled_67 {v0 : Int32} {v1 : Int32} {v2 : Int64} {x0 x1 x2 x3 x4 x5 x6 x7 x8 x9 x10 : Option Value} : Wp S N d MX9_scheduled 67 [x0, x1, x2, x3, x4, x5, x6, x7, x8, x9, x10] [.int v0, .int v1, .long v2] I J P Q ↔ Wp S N d MX9_scheduled 68 [x0, x1, x2, x3, x4, x5, x6, x7, x8, x9, x10] [.int (v1 * v0), .long v2] I J P Q := wp_alu (len := 1) rfl rfl rfl dX9_scheduled_67
theorem e_X9_scheduled_68 {v0 : Int32} {v1 : Int64} {x0 x1 x2 x3 x4 x5 x6 x7 x8 x9 x10 : Option Value} : Wp S N d MX9_scheduled 68 [x0, x1, x2, x3, x4, x5, x6, x7, x8, x9, x10] [.int v0, .long v1] I J P Q ↔ Wp S N d MX9_scheduled 69 [x0, x1, x2, x3, x4, x5, x6, x7, x8, x9, x10] [.long v0.toInt64, .long v1] I J P Q := wp_alu (len := 1) rfl rfl rfl dX9_scheduled_68
theorem e_X9_scheduled_69 {v0 : Int64} {v1 : Int64} {x0 x1 x2 x3 x4 x5 x6 x7 x8 x9 x10 : Option Value} : Wp S N d MX9_scheduled 69 [x0, x1, x2, x3, x4, x5, x6, x7, x8, x9, x10] [.long v0, .long v1] I J P Q ↔ Wp S N d MX9_scheduled 70 [x0, x1, x2, x3, x4, x5, x6, x7, x8, x9, x10] [.long (v1 * v0)] I J P Q := wp_alu (len := 1) rfl rfl rfl dX9_scheduled_69
theorem e_X9_scheduled_70 {v0 : Int64} {x0 x1 x2 x3 x4 x5 x6 x7 x8 x9 x10 : Option Value} : Wp S N d MX9_scheduled 70 [x0, x1, x2, x3, x4, x5, x6, x7, x8, x9, x10] [.long v0] I J P Q ↔ Wp S N d MX9_scheduled 74 [x0, x1, x2, x3, x4, x5, x6, x7, x8, x9, x10] [.long v0] I J P Q := wp_go (len := 3) rfl (fun _ _ => rfl) rfl (by decide) dX9_scheduled_70
theorem e_X9_scheduled_73 {w : Int64} {x0 x2 x3 x4 x5 x6 x7 x8 x9 x10 : Option Value} : Wp S N d MX9_scheduled 73 [x0, some (.long w), x2, x3, x4, x5, x6, x7, x8, x9, x10] [] I J P Q ↔ Wp S N d MX9_scheduled 74 [x0, some (.long w), x2, x3, x4, x5, x6, x7, x8, x9, x10] [.long w] I J P Q := wp_lod (len := 1) rfl rfl rfl rfl dX9_scheduled_73
theorem e_X9_scheduled_74 {v0 : Int64} {x0 x1 x2 x3 x4 x5 x6 x7 x8 x9 x10 : Option Value} : Wp S N d MX9_scheduled 74 [x0, x1, x2, x3, x4, x5, x6, x7, x8, x9, x10] [.long v0] I J P Q ↔ Wp S N d MX9_scheduled 76 [x0, x1, x2, x3, x4, x5, x6, x7, kl x8, some (.long v0), none] [] I J P Q := wp_sto (len := 2) rfl rfl rfl rfl (Nat.le_of_ble_eq_true rfl) rfl dX9_scheduled_74
theorem e_X9_scheduled_76 {w : Int64} {x0 x1 x2 x3 x5 x6 x7 x8 x9 x10 : Option Value} : Wp S N d MX9_scheduled 76 [x0, x1, x2, x3, some (.long w), x5, x6, x7, x8, x9, x10] [] I J P Q ↔ Wp S N d MX9_scheduled 78 [x0, x1, x2, x3, some (.long w), x5, x6, x7, x8, x9, x10] [.long w] I J P Q := wp_lod (len := 2) rfl rfl rfl rfl dX9_scheduled_76
theorem e_X9_scheduled_78 {v0 : Int64} {w : Int64} {x0 x2 x3 x4 x5 x6 x7 x8 x9 x10 : Option Value} : Wp S N d MX9_scheduled 78 [x0, some (.long w), x2, x3, x4, x5, x6, x7, x8, x9, x10] [.long v0] I J P Q ↔ Wp S N d MX9_scheduled 79 [x0, some (.long w), x2, x3, x4, x5, x6, x7, x8, x9, x10] [.long w, .long v0] I J P Q := wp_lod (len := 1) rfl rfl rfl rfl dX9_scheduled_78
theorem e_X9_scheduled_79 {v0 : Int64} {v1 : Int64} {w : Int64} {x0 x1 x2 x3 x4 x5 x6 x7 x8 x10 : Option Value} : Wp S N d MX9_scheduled 79 [x0, x1, x2, x3, x4, x5, x6, x7, x8, some (.long w), x10] [.long v0, .long v1] I J P Q ↔ Wp S N d MX9_scheduled 81 [x0, x1, x2, x3, x4, x5, x6, x7, x8, some (.long w), x10] [.long w, .long v0, .long v1] I J P Q := wp_lod (len := 2) rfl rfl rfl rfl dX9_scheduled_79
theorem e_X9_scheduled_81 {v0 : Int64} {v1 : Int64} {v2 : Int64} {x0 x1 x2 x3 x4 x5 x6 x7 x8 x9 x10 : Option Value} : Wp S N (d + 1) MX9_scheduled 81 [x0, x1, x2, x3, x4, x5, x6, x7, x8, x9, x10] [.long v0, .long v1, .long v2] I J P Q ↔ CWp S N d MX9_lesser [.long v1, .long v0] I J P (fun r I1 J1 P1 => Wp S N (d + 1) MX9_scheduled 84 [x0, x1, x2, x3, x4, x5, x6, x7, x8, x9, x10] (r.toList ++ [.long v2]) I1 J1 P1 Q) := wp_callS (M' := MX9_lesser) (As := [.long v1, .long v0]) rfl rfl rfl rfl (Nat.le_of_ble_eq_true rfl) dX9_scheduled_81
theorem e_X9_scheduled_84 {v0 : Int64} {v1 : Int64} {w : Int64} {x0 x1 x2 x3 x4 x5 x6 x8 x9 x10 : Option Value} : Wp S N d MX9_scheduled 84 [x0, x1, x2, x3, x4, x5, x6, some (.long w), x8, x9, x10] [.long v0, .long v1] I J P Q ↔ Wp S N d MX9_scheduled 86 [x0, x1, x2, x3, x4, x5, x6, some (.long w), x8, x9, x10] [.long w, .long v0, .long v1] I J P Q := wp_lod (len := 2) rfl rfl rfl rfl dX9_scheduled_84
theorem e_X9_scheduled_86 {v0 : Int64} {v1 : Int64} {v2 : Int64} {x0 x1 x2 x3 x4 x5 x6 x7 x8 x9 x10 : Option Value} : Wp S N d MX9_scheduled 86 [x0, x1, x2, x3, x4, x5, x6, x7, x8, x9, x10] [.long v0, .long v1, .long v2] I J P Q ↔ Wp S N d MX9_scheduled 87 [x0, x1, x2, x3, x4, x5, x6, x7, x8, x9, x10] [.long (v1 - v0), .long v2] I J P Q := wp_alu (len := 1) rfl rfl rfl dX9_scheduled_86
theorem e_X9_scheduled_87 {v0 : Int64} {v1 : Int64} {x0 x1 x2 x3 x4 x5 x6 x7 x8 x9 x10 : Option Value} : Wp S N (d + 1) MX9_scheduled 87 [x0, x1, x2, x3, x4, x5, x6, x7, x8, x9, x10] [.long v0, .long v1] I J P Q ↔ CWp S N d MX9_positive [.long v0] I J P (fun r I1 J1 P1 => Wp S N (d + 1) MX9_scheduled 90 [x0, x1, x2, x3, x4, x5, x6, x7, x8, x9, x10] (r.toList ++ [.long v1]) I1 J1 P1 Q) := wp_callS (M' := MX9_positive) (As := [.long v0]) rfl rfl rfl rfl (Nat.le_of_ble_eq_true rfl) dX9_scheduled_87
theorem e_X9_scheduled_90 {v0 : Int64} {v1 : Int64} {x0 x1 x2 x3 x4 x5 x6 x7 x8 x9 x10 : Option Value} : Wp S N d MX9_scheduled 90 [x0, x1, x2, x3, x4, x5, x6, x7, x8, x9, x10] [.long v0, .long v1] I J P Q ↔ Wp S N d MX9_scheduled 93 [x0, x1, x2, x3, x4, x5, x6, x7, x8, x9, x10] [.long 1000, .long v0, .long v1] I J P Q := wp_ldc2 rfl dX9_scheduled_90
theorem e_X9_scheduled_93 {v0 : Int64} {v1 : Int64} {v2 : Int64} (h0 : ¬ v0 = 0) {x0 x1 x2 x3 x4 x5 x6 x7 x8 x9 x10 : Option Value} : Wp S N d MX9_scheduled 93 [x0, x1, x2, x3, x4, x5, x6, x7, x8, x9, x10] [.long v0, .long v1, .long v2] I J P Q ↔ Wp S N d MX9_scheduled 94 [x0, x1, x2, x3, x4, x5, x6, x7, x8, x9, x10] [.long (v1 / v0), .long v2] I J P Q := wp_ldiv h0 dX9_scheduled_93
theorem e_X9_scheduled_94 {v0 : Int64} {v1 : Int64} {w : Nat} {x1 x2 x3 x4 x5 x6 x7 x8 x9 x10 : Option Value} : Wp S N d MX9_scheduled 94 [some (.ref w), x1, x2, x3, x4, x5, x6, x7, x8, x9, x10] [.long v0, .long v1] I J P Q ↔ Wp S N d MX9_scheduled 95 [some (.ref w), x1, x2, x3, x4, x5, x6, x7, x8, x9, x10] [.ref w, .long v0, .long v1] I J P Q := wp_lod (len := 1) rfl rfl rfl rfl dX9_scheduled_94
theorem e_X9_scheduled_95 {v0 : Nat} {v1 : Int64} {v2 : Int64} {x0 x1 x2 x3 x4 x5 x6 x7 x8 x9 x10 : Option Value} : Wp S N d MX9_scheduled 95 [x0, x1, x2, x3, x4, x5, x6, x7, x8, x9, x10] [.ref v0, .long v1, .long v2] I J P Q ↔ S v0 = 9 ∧ Wp S N d MX9_scheduled 98 [x0, x1, x2, x3, x4, x5, x6, x7, x8, x9, x10] [va_rf (P v0 0), .long v1, .long v2] I J P Q := wp_getf rfl rfl rfl rfl dX9_scheduled_95
theorem e_X9_scheduled_98 {v0 : Nat} {v1 : Int64} {v2 : Int64} {x0 x1 x2 x3 x4 x5 x6 x7 x8 x9 x10 : Option Value} : Wp S N d MX9_scheduled 98 [x0, x1, x2, x3, x4, x5, x6, x7, x8, x9, x10] [.ref v0, .long v1, .long v2] I J P Q ↔ Wp S N d MX9_scheduled 99 [x0, x1, x2, x3, x4, x5, x6, x7, x8, x9, x10] [.int 1, .ref v0, .long v1, .long v2] I J P Q := wp_iconst (by decide) dX9_scheduled_98
theorem e_X9_scheduled_99 {v0 : Int32} {v1 : Nat} {v2 : Int64} {v3 : Int64} {x0 x1 x2 x3 x4 x5 x6 x7 x8 x9 x10 : Option Value} : Wp S N d MX9_scheduled 99 [x0, x1, x2, x3, x4, x5, x6, x7, x8, x9, x10] [.int v0, .ref v1, .long v2, .long v3] I J P Q ↔ Wp S N d MX9_scheduled 100 [x0, x1, x2, x3, x4, x5, x6, x7, x8, x9, x10] [.int 2, .int v0, .ref v1, .long v2, .long v3] I J P Q := wp_iconst (by decide) dX9_scheduled_99
theorem e_X9_scheduled_100 {v0 : Int32} {v1 : Int32} {v2 : Nat} {v3 : Int64} {v4 : Int64} {w : Int32} {x0 x1 x2 x3 x4 x5 x7 x8 x9 x10 : Option Value} : Wp S N d MX9_scheduled 100 [x0, x1, x2, x3, x4, x5, some (.int w), x7, x8, x9, x10] [.int v0, .int v1, .ref v2, .long v3, .long v4] I J P Q ↔ Wp S N d MX9_scheduled 102 [x0, x1, x2, x3, x4, x5, some (.int w), x7, x8, x9, x10] [.int w, .int v0, .int v1, .ref v2, .long v3, .long v4] I J P Q := wp_lod (len := 2) rfl rfl rfl rfl dX9_scheduled_100
theorem e_X9_scheduled_102 {v0 : Int32} {v1 : Int32} {v2 : Int32} {v3 : Nat} {v4 : Int64} {v5 : Int64} {x0 x1 x2 x3 x4 x5 x6 x7 x8 x9 x10 : Option Value} : Wp S N d MX9_scheduled 102 [x0, x1, x2, x3, x4, x5, x6, x7, x8, x9, x10] [.int v0, .int v1, .int v2, .ref v3, .long v4, .long v5] I J P Q ↔ Wp S N d MX9_scheduled 103 [x0, x1, x2, x3, x4, x5, x6, x7, x8, x9, x10] [.int (v1 * v0), .int v2, .ref v3, .long v4, .long v5] I J P Q := wp_alu (len := 1) rfl rfl rfl dX9_scheduled_102
theorem e_X9_scheduled_103 {v0 : Int32} {v1 : Int32} {v2 : Nat} {v3 : Int64} {v4 : Int64} {x0 x1 x2 x3 x4 x5 x6 x7 x8 x9 x10 : Option Value} : Wp S N d MX9_scheduled 103 [x0, x1, x2, x3, x4, x5, x6, x7, x8, x9, x10] [.int v0, .int v1, .ref v2, .long v3, .long v4] I J P Q ↔ Wp S N d MX9_scheduled 104 [x0, x1, x2, x3, x4, x5, x6, x7, x8, x9, x10] [.int (v1 + v0), .ref v2, .long v3, .long v4] I J P Q := wp_alu (len := 1) rfl rfl rfl dX9_scheduled_103
theorem e_X9_scheduled_104 {v0 : Int32} {v1 : Nat} {v2 : Int64} {v3 : Int64} {x0 x1 x2 x3 x4 x5 x6 x7 x8 x9 x10 : Option Value} : Wp S N d MX9_scheduled 104 [x0, x1, x2, x3, x4, x5, x6, x7, x8, x9, x10] [.int v0, .ref v1, .long v2, .long v3] I J P Q ↔ Wp S N d MX9_scheduled 105 [x0, x1, x2, x3, x4, x5, x6, x7, x8, x9, x10] [.int 1, .int v0, .ref v1, .long v2, .long v3] I J P Q := wp_iconst (by decide) dX9_scheduled_104
theorem e_X9_scheduled_105 {v0 : Int32} {v1 : Int32} {v2 : Nat} {v3 : Int64} {v4 : Int64} {x0 x1 x2 x3 x4 x5 x6 x7 x8 x9 x10 : Option Value} : Wp S N d MX9_scheduled 105 [x0, x1, x2, x3, x4, x5, x6, x7, x8, x9, x10] [.int v0, .int v1, .ref v2, .long v3, .long v4] I J P Q ↔ Wp S N d MX9_scheduled 106 [x0, x1, x2, x3, x4, x5, x6, x7, x8, x9, x10] [.int (v1 + v0), .ref v2, .long v3, .long v4] I J P Q := wp_alu (len := 1) rfl rfl rfl dX9_scheduled_105
theorem e_X9_scheduled_106 {v0 : Int32} {v1 : Nat} {v2 : Int64} {v3 : Int64} {x0 x1 x2 x3 x4 x5 x6 x7 x8 x9 x10 : Option Value} : Wp S N d MX9_scheduled 106 [x0, x1, x2, x3, x4, x5, x6, x7, x8, x9, x10] [.int v0, .ref v1, .long v2, .long v3] I J P Q ↔ (S v1 = 10 ∧ vp_in v0 (N v1)) ∧ Wp S N d MX9_scheduled 107 [x0, x1, x2, x3, x4, x5, x6, x7, x8, x9, x10] [.int (I v1 v0.toNatClampNeg), .long v2, .long v3] I J P Q := wp_ald rfl rfl dX9_scheduled_106
theorem e_X9_scheduled_107 {v0 : Int32} {v1 : Int64} {v2 : Int64} {x0 x1 x2 x3 x4 x5 x6 x7 x8 x9 x10 : Option Value} : Wp S N d MX9_scheduled 107 [x0, x1, x2, x3, x4, x5, x6, x7, x8, x9, x10] [.int v0, .long v1, .long v2] I J P Q ↔ Wp S N d MX9_scheduled 108 [x0, x1, x2, x3, x4, x5, x6, x7, x8, x9, x10] [.long v0.toInt64, .long v1, .long v2] I J P Q := wp_alu (len := 1) rfl rfl rfl dX9_scheduled_107
theorem e_X9_scheduled_108 {v0 : Int64} {v1 : Int64} {v2 : Int64} {x0 x1 x2 x3 x4 x5 x6 x7 x8 x9 x10 : Option Value} : Wp S N d MX9_scheduled 108 [x0, x1, x2, x3, x4, x5, x6, x7, x8, x9, x10] [.long v0, .long v1, .long v2] I J P Q ↔ Wp S N d MX9_scheduled 109 [x0, x1, x2, x3, x4, x5, x6, x7, x8, x9, x10] [.long (v1 * v0), .long v2] I J P Q := wp_alu (len := 1) rfl rfl rfl dX9_scheduled_108
theorem e_X9_scheduled_109 {v0 : Int64} {v1 : Int64} {x0 x1 x2 x3 x4 x5 x6 x7 x8 x9 x10 : Option Value} : Wp S N d MX9_scheduled 109 [x0, x1, x2, x3, x4, x5, x6, x7, x8, x9, x10] [.long v0, .long v1] I J P Q ↔ Wp S N d MX9_scheduled 110 [x0, x1, x2, x3, x4, x5, x6, x7, x8, x9, x10] [.long (v1 + v0)] I J P Q := wp_alu (len := 1) rfl rfl rfl dX9_scheduled_109
theorem e_X9_scheduled_110 {v0 : Int64} {x0 x1 x2 x3 x4 x5 x6 x7 x8 x9 x10 : Option Value} : Wp S N d MX9_scheduled 110 [x0, x1, x2, x3, x4, x5, x6, x7, x8, x9, x10] [.long v0] I J P Q ↔ Wp S N d MX9_scheduled 112 [x0, x1, x2, kl x3, some (.long v0), none, x6, x7, x8, x9, x10] [] I J P Q := wp_sto (len := 2) rfl rfl rfl rfl (Nat.le_of_ble_eq_true rfl) rfl dX9_scheduled_110
theorem e_X9_scheduled_112 {w : Int32} {x0 x1 x2 x3 x4 x5 x7 x8 x9 x10 : Option Value} : Wp S N d MX9_scheduled 112 [x0, x1, x2, x3, x4, x5, some (.int w), x7, x8, x9, x10] [] I J P Q ↔ Wp S N d MX9_scheduled 115 [x0, x1, x2, x3, x4, kl x5, some (.int (w + 1)), x7, x8, x9, x10] [] I J P Q := wp_inc rfl rfl dX9_scheduled_112
theorem e_X9_scheduled_115  {x0 x1 x2 x3 x4 x5 x6 x7 x8 x9 x10 : Option Value} : Wp S N d MX9_scheduled 115 [x0, x1, x2, x3, x4, x5, x6, x7, x8, x9, x10] [] I J P Q ↔ Wp S N d MX9_scheduled 6 [x0, x1, x2, x3, x4, x5, x6, x7, x8, x9, x10] [] I J P Q := wp_go (len := 3) rfl (fun _ _ => rfl) rfl (by decide) dX9_scheduled_115
theorem e_X9_scheduled_118 {w : Int64} {x0 x1 x2 x3 x5 x6 x7 x8 x9 x10 : Option Value} : Wp S N d MX9_scheduled 118 [x0, x1, x2, x3, some (.long w), x5, x6, x7, x8, x9, x10] [] I J P Q ↔ Wp S N d MX9_scheduled 120 [x0, x1, x2, x3, some (.long w), x5, x6, x7, x8, x9, x10] [.long w] I J P Q := wp_lod (len := 2) rfl rfl rfl rfl dX9_scheduled_118
theorem e_X9_scheduled_120 {v0 : Int64} {x0 x1 x2 x3 x4 x5 x6 x7 x8 x9 x10 : Option Value} : Wp S N d MX9_scheduled 120 [x0, x1, x2, x3, x4, x5, x6, x7, x8, x9, x10] [.long v0] I J P Q ↔ Q (some (.long v0)) I J P := wp_lret rfl dX9_scheduled_120
theorem dX9_charges_0 : decode cX9_charges 0 = .ok (.lconst 0, 1) := by decide +kernel
theorem dX9_charges_1 : decode cX9_charges 1 = .ok (.lstore_n 3, 1) := by decide +kernel
theorem dX9_charges_2 : decode cX9_charges 2 = .ok (.iconst 0, 1) := by decide +kernel
theorem dX9_charges_3 : decode cX9_charges 3 = .ok (.istore 5, 2) := by decide +kernel
theorem dX9_charges_5 : decode cX9_charges 5 = .ok (.iload 5, 2) := by decide +kernel
theorem dX9_charges_7 : decode cX9_charges 7 = .ok (.aload_n 0, 1) := by decide +kernel
theorem dX9_charges_8 : decode cX9_charges 8 = .ok (.getfield 7, 3) := by decide +kernel
theorem dX9_charges_11 : decode cX9_charges 11 = .ok (.bipush 18, 2) := by decide +kernel
theorem dX9_charges_13 : decode cX9_charges 13 = .ok (.iaload, 1) := by decide +kernel
theorem dX9_charges_14 : decode cX9_charges 14 = .ok (.if_icmp .ge 53, 3) := by decide +kernel
theorem dX9_charges_17 : decode cX9_charges 17 = .ok (.lload_n 3, 1) := by decide +kernel
theorem dX9_charges_18 : decode cX9_charges 18 = .ok (.iload_n 1, 1) := by decide +kernel
theorem dX9_charges_19 : decode cX9_charges 19 = .ok (.iload_n 2, 1) := by decide +kernel
theorem dX9_charges_20 : decode cX9_charges 20 = .ok (.aload_n 0, 1) := by decide +kernel
theorem dX9_charges_21 : decode cX9_charges 21 = .ok (.getfield 7, 3) := by decide +kernel
theorem dX9_charges_24 : decode cX9_charges 24 = .ok (.bipush 19, 2) := by decide +kernel
theorem dX9_charges_26 : decode cX9_charges 26 = .ok (.iconst 2, 1) := by decide +kernel
theorem dX9_charges_27 : decode cX9_charges 27 = .ok (.iload 5, 2) := by decide +kernel
theorem dX9_charges_29 : decode cX9_charges 29 = .ok (.imul, 1) := by decide +kernel
theorem dX9_charges_30 : decode cX9_charges 30 = .ok (.iadd, 1) := by decide +kernel
theorem dX9_charges_31 : decode cX9_charges 31 = .ok (.iaload, 1) := by decide +kernel
theorem dX9_charges_32 : decode cX9_charges 32 = .ok (.imul, 1) := by decide +kernel
theorem dX9_charges_33 : decode cX9_charges 33 = .ok (.if_icmp .lt 25, 3) := by decide +kernel
theorem dX9_charges_36 : decode cX9_charges 36 = .ok (.ldc2_w 151, 3) := by decide +kernel
theorem dX9_charges_39 : decode cX9_charges 39 = .ok (.aload_n 0, 1) := by decide +kernel
theorem dX9_charges_40 : decode cX9_charges 40 = .ok (.getfield 7, 3) := by decide +kernel
theorem dX9_charges_43 : decode cX9_charges 43 = .ok (.bipush 19, 2) := by decide +kernel
theorem dX9_charges_45 : decode cX9_charges 45 = .ok (.iconst 2, 1) := by decide +kernel
theorem dX9_charges_46 : decode cX9_charges 46 = .ok (.iload 5, 2) := by decide +kernel
theorem dX9_charges_48 : decode cX9_charges 48 = .ok (.imul, 1) := by decide +kernel
theorem dX9_charges_49 : decode cX9_charges 49 = .ok (.iadd, 1) := by decide +kernel
theorem dX9_charges_50 : decode cX9_charges 50 = .ok (.iconst 1, 1) := by decide +kernel
theorem dX9_charges_51 : decode cX9_charges 51 = .ok (.iadd, 1) := by decide +kernel
theorem dX9_charges_52 : decode cX9_charges 52 = .ok (.iaload, 1) := by decide +kernel
theorem dX9_charges_53 : decode cX9_charges 53 = .ok (.i2l, 1) := by decide +kernel
theorem dX9_charges_54 : decode cX9_charges 54 = .ok (.lmul, 1) := by decide +kernel
theorem dX9_charges_55 : decode cX9_charges 55 = .ok (.goto 4, 3) := by decide +kernel
theorem dX9_charges_58 : decode cX9_charges 58 = .ok (.lconst 0, 1) := by decide +kernel
theorem dX9_charges_59 : decode cX9_charges 59 = .ok (.ladd, 1) := by decide +kernel
theorem dX9_charges_60 : decode cX9_charges 60 = .ok (.lstore_n 3, 1) := by decide +kernel
theorem dX9_charges_61 : decode cX9_charges 61 = .ok (.iinc 5 1, 3) := by decide +kernel
theorem dX9_charges_64 : decode cX9_charges 64 = .ok (.goto (-59), 3) := by decide +kernel
theorem dX9_charges_67 : decode cX9_charges 67 = .ok (.lload_n 3, 1) := by decide +kernel
theorem dX9_charges_68 : decode cX9_charges 68 = .ok (.lreturn, 1) := by decide +kernel
theorem c_X9_charges {a0 : Nat} {a1 : Int32} {a2 : Int32} : CWp S N d MX9_charges [.ref a0, .int a1, .int a2] I J P Q ↔ Wp S N d MX9_charges 0 [some (.ref a0), some (.int a1), some (.int a2), none, none, none] [] I J P Q := by
  rw [cwp_iff]
  exact ⟨fun h => h.2, fun h => ⟨Nat.le_of_ble_eq_true rfl, h⟩⟩
theorem e_X9_charges_0  {x0 x1 x2 x3 x4 x5 : Option Value} : Wp S N d MX9_charges 0 [x0, x1, x2, x3, x4, x5] [] I J P Q ↔ Wp S N d MX9_charges 1 [x0, x1, x2, x3, x4, x5] [.long 0] I J P Q := wp_lconst (by decide) dX9_charges_0
theorem e_X9_charges_1 {v0 : Int64} {x0 x1 x2 x3 x4 x5 : Option Value} : Wp S N d MX9_charges 1 [x0, x1, x2, x3, x4, x5] [.long v0] I J P Q ↔ Wp S N d MX9_charges 2 [x0, x1, kl x2, some (.long v0), none, x5] [] I J P Q := wp_sto (len := 1) rfl rfl rfl rfl (Nat.le_of_ble_eq_true rfl) rfl dX9_charges_1
theorem e_X9_charges_2  {x0 x1 x2 x3 x4 x5 : Option Value} : Wp S N d MX9_charges 2 [x0, x1, x2, x3, x4, x5] [] I J P Q ↔ Wp S N d MX9_charges 3 [x0, x1, x2, x3, x4, x5] [.int 0] I J P Q := wp_iconst (by decide) dX9_charges_2
theorem e_X9_charges_3 {v0 : Int32} {x0 x1 x2 x3 x4 x5 : Option Value} : Wp S N d MX9_charges 3 [x0, x1, x2, x3, x4, x5] [.int v0] I J P Q ↔ Wp S N d MX9_charges 5 [x0, x1, x2, x3, kl x4, some (.int v0)] [] I J P Q := wp_sto (len := 2) rfl rfl rfl rfl (Nat.le_of_ble_eq_true rfl) rfl dX9_charges_3
theorem e_X9_charges_5 {w : Int32} {x0 x1 x2 x3 x4 : Option Value} : Wp S N d MX9_charges 5 [x0, x1, x2, x3, x4, some (.int w)] [] I J P Q ↔ Wp S N d MX9_charges 7 [x0, x1, x2, x3, x4, some (.int w)] [.int w] I J P Q := wp_lod (len := 2) rfl rfl rfl rfl dX9_charges_5
theorem e_X9_charges_7 {v0 : Int32} {w : Nat} {x1 x2 x3 x4 x5 : Option Value} : Wp S N d MX9_charges 7 [some (.ref w), x1, x2, x3, x4, x5] [.int v0] I J P Q ↔ Wp S N d MX9_charges 8 [some (.ref w), x1, x2, x3, x4, x5] [.ref w, .int v0] I J P Q := wp_lod (len := 1) rfl rfl rfl rfl dX9_charges_7
theorem e_X9_charges_8 {v0 : Nat} {v1 : Int32} {x0 x1 x2 x3 x4 x5 : Option Value} : Wp S N d MX9_charges 8 [x0, x1, x2, x3, x4, x5] [.ref v0, .int v1] I J P Q ↔ S v0 = 9 ∧ Wp S N d MX9_charges 11 [x0, x1, x2, x3, x4, x5] [va_rf (P v0 0), .int v1] I J P Q := wp_getf rfl rfl rfl rfl dX9_charges_8
theorem e_X9_charges_11 {v0 : Nat} {v1 : Int32} {x0 x1 x2 x3 x4 x5 : Option Value} : Wp S N d MX9_charges 11 [x0, x1, x2, x3, x4, x5] [.ref v0, .int v1] I J P Q ↔ Wp S N d MX9_charges 13 [x0, x1, x2, x3, x4, x5] [.int 18, .ref v0, .int v1] I J P Q := wp_bipush (by decide) dX9_charges_11
theorem e_X9_charges_13 {v0 : Int32} {v1 : Nat} {v2 : Int32} {x0 x1 x2 x3 x4 x5 : Option Value} : Wp S N d MX9_charges 13 [x0, x1, x2, x3, x4, x5] [.int v0, .ref v1, .int v2] I J P Q ↔ (S v1 = 10 ∧ vp_in v0 (N v1)) ∧ Wp S N d MX9_charges 14 [x0, x1, x2, x3, x4, x5] [.int (I v1 v0.toNatClampNeg), .int v2] I J P Q := wp_ald rfl rfl dX9_charges_13
theorem e_X9_charges_14 {v0 : Int32} {v1 : Int32} {x0 x1 x2 x3 x4 x5 : Option Value} : Wp S N d MX9_charges 14 [x0, x1, x2, x3, x4, x5] [.int v0, .int v1] I J P Q ↔ (v0 ≤ v1 → Wp S N d MX9_charges 67 [x0, x1, x2, x3, x4, x5] [] I J P Q) ∧ (¬ v0 ≤ v1 → Wp S N d MX9_charges 17 [x0, x1, x2, x3, x4, x5] [] I J P Q) := wp_br rfl rfl (by decide) dX9_charges_14
theorem e_X9_charges_17 {w : Int64} {x0 x1 x2 x4 x5 : Option Value} : Wp S N d MX9_charges 17 [x0, x1, x2, some (.long w), x4, x5] [] I J P Q ↔ Wp S N d MX9_charges 18 [x0, x1, x2, some (.long w), x4, x5] [.long w] I J P Q := wp_lod (len := 1) rfl rfl rfl rfl dX9_charges_17
theorem e_X9_charges_18 {v0 : Int64} {w : Int32} {x0 x2 x3 x4 x5 : Option Value} : Wp S N d MX9_charges 18 [x0, some (.int w), x2, x3, x4, x5] [.long v0] I J P Q ↔ Wp S N d MX9_charges 19 [x0, some (.int w), x2, x3, x4, x5] [.int w, .long v0] I J P Q := wp_lod (len := 1) rfl rfl rfl rfl dX9_charges_18
theorem e_X9_charges_19 {v0 : Int32} {v1 : Int64} {w : Int32} {x0 x1 x3 x4 x5 : Option Value} : Wp S N d MX9_charges 19 [x0, x1, some (.int w), x3, x4, x5] [.int v0, .long v1] I J P Q ↔ Wp S N d MX9_charges 20 [x0, x1, some (.int w), x3, x4, x5] [.int w, .int v0, .long v1] I J P Q := wp_lod (len := 1) rfl rfl rfl rfl dX9_charges_19
theorem e_X9_charges_20 {v0 : Int32} {v1 : Int32} {v2 : Int64} {w : Nat} {x1 x2 x3 x4 x5 : Option Value} : Wp S N d MX9_charges 20 [some (.ref w), x1, x2, x3, x4, x5] [.int v0, .int v1, .long v2] I J P Q ↔ Wp S N d MX9_charges 21 [some (.ref w), x1, x2, x3, x4, x5] [.ref w, .int v0, .int v1, .long v2] I J P Q := wp_lod (len := 1) rfl rfl rfl rfl dX9_charges_20
theorem e_X9_charges_21 {v0 : Nat} {v1 : Int32} {v2 : Int32} {v3 : Int64} {x0 x1 x2 x3 x4 x5 : Option Value} : Wp S N d MX9_charges 21 [x0, x1, x2, x3, x4, x5] [.ref v0, .int v1, .int v2, .long v3] I J P Q ↔ S v0 = 9 ∧ Wp S N d MX9_charges 24 [x0, x1, x2, x3, x4, x5] [va_rf (P v0 0), .int v1, .int v2, .long v3] I J P Q := wp_getf rfl rfl rfl rfl dX9_charges_21
theorem e_X9_charges_24 {v0 : Nat} {v1 : Int32} {v2 : Int32} {v3 : Int64} {x0 x1 x2 x3 x4 x5 : Option Value} : Wp S N d MX9_charges 24 [x0, x1, x2, x3, x4, x5] [.ref v0, .int v1, .int v2, .long v3] I J P Q ↔ Wp S N d MX9_charges 26 [x0, x1, x2, x3, x4, x5] [.int 19, .ref v0, .int v1, .int v2, .long v3] I J P Q := wp_bipush (by decide) dX9_charges_24
theorem e_X9_charges_26 {v0 : Int32} {v1 : Nat} {v2 : Int32} {v3 : Int32} {v4 : Int64} {x0 x1 x2 x3 x4 x5 : Option Value} : Wp S N d MX9_charges 26 [x0, x1, x2, x3, x4, x5] [.int v0, .ref v1, .int v2, .int v3, .long v4] I J P Q ↔ Wp S N d MX9_charges 27 [x0, x1, x2, x3, x4, x5] [.int 2, .int v0, .ref v1, .int v2, .int v3, .long v4] I J P Q := wp_iconst (by decide) dX9_charges_26
theorem e_X9_charges_27 {v0 : Int32} {v1 : Int32} {v2 : Nat} {v3 : Int32} {v4 : Int32} {v5 : Int64} {w : Int32} {x0 x1 x2 x3 x4 : Option Value} : Wp S N d MX9_charges 27 [x0, x1, x2, x3, x4, some (.int w)] [.int v0, .int v1, .ref v2, .int v3, .int v4, .long v5] I J P Q ↔ Wp S N d MX9_charges 29 [x0, x1, x2, x3, x4, some (.int w)] [.int w, .int v0, .int v1, .ref v2, .int v3, .int v4, .long v5] I J P Q := wp_lod (len := 2) rfl rfl rfl rfl dX9_charges_27
theorem e_X9_charges_29 {v0 : Int32} {v1 : Int32} {v2 : Int32} {v3 : Nat} {v4 : Int32} {v5 : Int32} {v6 : Int64} {x0 x1 x2 x3 x4 x5 : Option Value} : Wp S N d MX9_charges 29 [x0, x1, x2, x3, x4, x5] [.int v0, .int v1, .int v2, .ref v3, .int v4, .int v5, .long v6] I J P Q ↔ Wp S N d MX9_charges 30 [x0, x1, x2, x3, x4, x5] [.int (v1 * v0), .int v2, .ref v3, .int v4, .int v5, .long v6] I J P Q := wp_alu (len := 1) rfl rfl rfl dX9_charges_29
theorem e_X9_charges_30 {v0 : Int32} {v1 : Int32} {v2 : Nat} {v3 : Int32} {v4 : Int32} {v5 : Int64} {x0 x1 x2 x3 x4 x5 : Option Value} : Wp S N d MX9_charges 30 [x0, x1, x2, x3, x4, x5] [.int v0, .int v1, .ref v2, .int v3, .int v4, .long v5] I J P Q ↔ Wp S N d MX9_charges 31 [x0, x1, x2, x3, x4, x5] [.int (v1 + v0), .ref v2, .int v3, .int v4, .long v5] I J P Q := wp_alu (len := 1) rfl rfl rfl dX9_charges_30
theorem e_X9_charges_31 {v0 : Int32} {v1 : Nat} {v2 : Int32} {v3 : Int32} {v4 : Int64} {x0 x1 x2 x3 x4 x5 : Option Value} : Wp S N d MX9_charges 31 [x0, x1, x2, x3, x4, x5] [.int v0, .ref v1, .int v2, .int v3, .long v4] I J P Q ↔ (S v1 = 10 ∧ vp_in v0 (N v1)) ∧ Wp S N d MX9_charges 32 [x0, x1, x2, x3, x4, x5] [.int (I v1 v0.toNatClampNeg), .int v2, .int v3, .long v4] I J P Q := wp_ald rfl rfl dX9_charges_31
theorem e_X9_charges_32 {v0 : Int32} {v1 : Int32} {v2 : Int32} {v3 : Int64} {x0 x1 x2 x3 x4 x5 : Option Value} : Wp S N d MX9_charges 32 [x0, x1, x2, x3, x4, x5] [.int v0, .int v1, .int v2, .long v3] I J P Q ↔ Wp S N d MX9_charges 33 [x0, x1, x2, x3, x4, x5] [.int (v1 * v0), .int v2, .long v3] I J P Q := wp_alu (len := 1) rfl rfl rfl dX9_charges_32
theorem e_X9_charges_33 {v0 : Int32} {v1 : Int32} {v2 : Int64} {x0 x1 x2 x3 x4 x5 : Option Value} : Wp S N d MX9_charges 33 [x0, x1, x2, x3, x4, x5] [.int v0, .int v1, .long v2] I J P Q ↔ (v1 < v0 → Wp S N d MX9_charges 58 [x0, x1, x2, x3, x4, x5] [.long v2] I J P Q) ∧ (¬ v1 < v0 → Wp S N d MX9_charges 36 [x0, x1, x2, x3, x4, x5] [.long v2] I J P Q) := wp_br rfl rfl (by decide) dX9_charges_33
theorem e_X9_charges_36 {v0 : Int64} {x0 x1 x2 x3 x4 x5 : Option Value} : Wp S N d MX9_charges 36 [x0, x1, x2, x3, x4, x5] [.long v0] I J P Q ↔ Wp S N d MX9_charges 39 [x0, x1, x2, x3, x4, x5] [.long 1000000, .long v0] I J P Q := wp_ldc2 rfl dX9_charges_36
theorem e_X9_charges_39 {v0 : Int64} {v1 : Int64} {w : Nat} {x1 x2 x3 x4 x5 : Option Value} : Wp S N d MX9_charges 39 [some (.ref w), x1, x2, x3, x4, x5] [.long v0, .long v1] I J P Q ↔ Wp S N d MX9_charges 40 [some (.ref w), x1, x2, x3, x4, x5] [.ref w, .long v0, .long v1] I J P Q := wp_lod (len := 1) rfl rfl rfl rfl dX9_charges_39
theorem e_X9_charges_40 {v0 : Nat} {v1 : Int64} {v2 : Int64} {x0 x1 x2 x3 x4 x5 : Option Value} : Wp S N d MX9_charges 40 [x0, x1, x2, x3, x4, x5] [.ref v0, .long v1, .long v2] I J P Q ↔ S v0 = 9 ∧ Wp S N d MX9_charges 43 [x0, x1, x2, x3, x4, x5] [va_rf (P v0 0), .long v1, .long v2] I J P Q := wp_getf rfl rfl rfl rfl dX9_charges_40
theorem e_X9_charges_43 {v0 : Nat} {v1 : Int64} {v2 : Int64} {x0 x1 x2 x3 x4 x5 : Option Value} : Wp S N d MX9_charges 43 [x0, x1, x2, x3, x4, x5] [.ref v0, .long v1, .long v2] I J P Q ↔ Wp S N d MX9_charges 45 [x0, x1, x2, x3, x4, x5] [.int 19, .ref v0, .long v1, .long v2] I J P Q := wp_bipush (by decide) dX9_charges_43
theorem e_X9_charges_45 {v0 : Int32} {v1 : Nat} {v2 : Int64} {v3 : Int64} {x0 x1 x2 x3 x4 x5 : Option Value} : Wp S N d MX9_charges 45 [x0, x1, x2, x3, x4, x5] [.int v0, .ref v1, .long v2, .long v3] I J P Q ↔ Wp S N d MX9_charges 46 [x0, x1, x2, x3, x4, x5] [.int 2, .int v0, .ref v1, .long v2, .long v3] I J P Q := wp_iconst (by decide) dX9_charges_45
theorem e_X9_charges_46 {v0 : Int32} {v1 : Int32} {v2 : Nat} {v3 : Int64} {v4 : Int64} {w : Int32} {x0 x1 x2 x3 x4 : Option Value} : Wp S N d MX9_charges 46 [x0, x1, x2, x3, x4, some (.int w)] [.int v0, .int v1, .ref v2, .long v3, .long v4] I J P Q ↔ Wp S N d MX9_charges 48 [x0, x1, x2, x3, x4, some (.int w)] [.int w, .int v0, .int v1, .ref v2, .long v3, .long v4] I J P Q := wp_lod (len := 2) rfl rfl rfl rfl dX9_charges_46
theorem e_X9_charges_48 {v0 : Int32} {v1 : Int32} {v2 : Int32} {v3 : Nat} {v4 : Int64} {v5 : Int64} {x0 x1 x2 x3 x4 x5 : Option Value} : Wp S N d MX9_charges 48 [x0, x1, x2, x3, x4, x5] [.int v0, .int v1, .int v2, .ref v3, .long v4, .long v5] I J P Q ↔ Wp S N d MX9_charges 49 [x0, x1, x2, x3, x4, x5] [.int (v1 * v0), .int v2, .ref v3, .long v4, .long v5] I J P Q := wp_alu (len := 1) rfl rfl rfl dX9_charges_48
theorem e_X9_charges_49 {v0 : Int32} {v1 : Int32} {v2 : Nat} {v3 : Int64} {v4 : Int64} {x0 x1 x2 x3 x4 x5 : Option Value} : Wp S N d MX9_charges 49 [x0, x1, x2, x3, x4, x5] [.int v0, .int v1, .ref v2, .long v3, .long v4] I J P Q ↔ Wp S N d MX9_charges 50 [x0, x1, x2, x3, x4, x5] [.int (v1 + v0), .ref v2, .long v3, .long v4] I J P Q := wp_alu (len := 1) rfl rfl rfl dX9_charges_49
theorem e_X9_charges_50 {v0 : Int32} {v1 : Nat} {v2 : Int64} {v3 : Int64} {x0 x1 x2 x3 x4 x5 : Option Value} : Wp S N d MX9_charges 50 [x0, x1, x2, x3, x4, x5] [.int v0, .ref v1, .long v2, .long v3] I J P Q ↔ Wp S N d MX9_charges 51 [x0, x1, x2, x3, x4, x5] [.int 1, .int v0, .ref v1, .long v2, .long v3] I J P Q := wp_iconst (by decide) dX9_charges_50
theorem e_X9_charges_51 {v0 : Int32} {v1 : Int32} {v2 : Nat} {v3 : Int64} {v4 : Int64} {x0 x1 x2 x3 x4 x5 : Option Value} : Wp S N d MX9_charges 51 [x0, x1, x2, x3, x4, x5] [.int v0, .int v1, .ref v2, .long v3, .long v4] I J P Q ↔ Wp S N d MX9_charges 52 [x0, x1, x2, x3, x4, x5] [.int (v1 + v0), .ref v2, .long v3, .long v4] I J P Q := wp_alu (len := 1) rfl rfl rfl dX9_charges_51
theorem e_X9_charges_52 {v0 : Int32} {v1 : Nat} {v2 : Int64} {v3 : Int64} {x0 x1 x2 x3 x4 x5 : Option Value} : Wp S N d MX9_charges 52 [x0, x1, x2, x3, x4, x5] [.int v0, .ref v1, .long v2, .long v3] I J P Q ↔ (S v1 = 10 ∧ vp_in v0 (N v1)) ∧ Wp S N d MX9_charges 53 [x0, x1, x2, x3, x4, x5] [.int (I v1 v0.toNatClampNeg), .long v2, .long v3] I J P Q := wp_ald rfl rfl dX9_charges_52
theorem e_X9_charges_53 {v0 : Int32} {v1 : Int64} {v2 : Int64} {x0 x1 x2 x3 x4 x5 : Option Value} : Wp S N d MX9_charges 53 [x0, x1, x2, x3, x4, x5] [.int v0, .long v1, .long v2] I J P Q ↔ Wp S N d MX9_charges 54 [x0, x1, x2, x3, x4, x5] [.long v0.toInt64, .long v1, .long v2] I J P Q := wp_alu (len := 1) rfl rfl rfl dX9_charges_53
theorem e_X9_charges_54 {v0 : Int64} {v1 : Int64} {v2 : Int64} {x0 x1 x2 x3 x4 x5 : Option Value} : Wp S N d MX9_charges 54 [x0, x1, x2, x3, x4, x5] [.long v0, .long v1, .long v2] I J P Q ↔ Wp S N d MX9_charges 55 [x0, x1, x2, x3, x4, x5] [.long (v1 * v0), .long v2] I J P Q := wp_alu (len := 1) rfl rfl rfl dX9_charges_54
theorem e_X9_charges_55 {v0 : Int64} {v1 : Int64} {x0 x1 x2 x3 x4 x5 : Option Value} : Wp S N d MX9_charges 55 [x0, x1, x2, x3, x4, x5] [.long v0, .long v1] I J P Q ↔ Wp S N d MX9_charges 59 [x0, x1, x2, x3, x4, x5] [.long v0, .long v1] I J P Q := wp_go (len := 3) rfl (fun _ _ => rfl) rfl (by decide) dX9_charges_55
theorem e_X9_charges_58 {v0 : Int64} {x0 x1 x2 x3 x4 x5 : Option Value} : Wp S N d MX9_charges 58 [x0, x1, x2, x3, x4, x5] [.long v0] I J P Q ↔ Wp S N d MX9_charges 59 [x0, x1, x2, x3, x4, x5] [.long 0, .long v0] I J P Q := wp_lconst (by decide) dX9_charges_58
theorem e_X9_charges_59 {v0 : Int64} {v1 : Int64} {x0 x1 x2 x3 x4 x5 : Option Value} : Wp S N d MX9_charges 59 [x0, x1, x2, x3, x4, x5] [.long v0, .long v1] I J P Q ↔ Wp S N d MX9_charges 60 [x0, x1, x2, x3, x4, x5] [.long (v1 + v0)] I J P Q := wp_alu (len := 1) rfl rfl rfl dX9_charges_59
theorem e_X9_charges_60 {v0 : Int64} {x0 x1 x2 x3 x4 x5 : Option Value} : Wp S N d MX9_charges 60 [x0, x1, x2, x3, x4, x5] [.long v0] I J P Q ↔ Wp S N d MX9_charges 61 [x0, x1, kl x2, some (.long v0), none, x5] [] I J P Q := wp_sto (len := 1) rfl rfl rfl rfl (Nat.le_of_ble_eq_true rfl) rfl dX9_charges_60
theorem e_X9_charges_61 {w : Int32} {x0 x1 x2 x3 x4 : Option Value} : Wp S N d MX9_charges 61 [x0, x1, x2, x3, x4, some (.int w)] [] I J P Q ↔ Wp S N d MX9_charges 64 [x0, x1, x2, x3, kl x4, some (.int (w + 1))] [] I J P Q := wp_inc rfl rfl dX9_charges_61
theorem e_X9_charges_64  {x0 x1 x2 x3 x4 x5 : Option Value} : Wp S N d MX9_charges 64 [x0, x1, x2, x3, x4, x5] [] I J P Q ↔ Wp S N d MX9_charges 5 [x0, x1, x2, x3, x4, x5] [] I J P Q := wp_go (len := 3) rfl (fun _ _ => rfl) rfl (by decide) dX9_charges_64
theorem e_X9_charges_67 {w : Int64} {x0 x1 x2 x4 x5 : Option Value} : Wp S N d MX9_charges 67 [x0, x1, x2, some (.long w), x4, x5] [] I J P Q ↔ Wp S N d MX9_charges 68 [x0, x1, x2, some (.long w), x4, x5] [.long w] I J P Q := wp_lod (len := 1) rfl rfl rfl rfl dX9_charges_67
theorem e_X9_charges_68 {v0 : Int64} {x0 x1 x2 x3 x4 x5 : Option Value} : Wp S N d MX9_charges 68 [x0, x1, x2, x3, x4, x5] [.long v0] I J P Q ↔ Q (some (.long v0)) I J P := wp_lret rfl dX9_charges_68
theorem dX9_valueOf_0 : decode cX9_valueOf 0 = .ok (.ldc2_w 151, 3) := by decide +kernel
theorem dX9_valueOf_3 : decode cX9_valueOf 3 = .ok (.aload_n 0, 1) := by decide +kernel
theorem dX9_valueOf_4 : decode cX9_valueOf 4 = .ok (.iload_n 1, 1) := by decide +kernel
theorem dX9_valueOf_5 : decode cX9_valueOf 5 = .ok (.iconst 1, 1) := by decide +kernel
theorem dX9_valueOf_6 : decode cX9_valueOf 6 = .ok (.invokevirtual 129, 3) := by decide +kernel
theorem dX9_valueOf_9 : decode cX9_valueOf 9 = .ok (.i2l, 1) := by decide +kernel
theorem dX9_valueOf_10 : decode cX9_valueOf 10 = .ok (.lmul, 1) := by decide +kernel
theorem dX9_valueOf_11 : decode cX9_valueOf 11 = .ok (.aload_n 0, 1) := by decide +kernel
theorem dX9_valueOf_12 : decode cX9_valueOf 12 = .ok (.iload_n 1, 1) := by decide +kernel
theorem dX9_valueOf_13 : decode cX9_valueOf 13 = .ok (.iconst 5, 1) := by decide +kernel
theorem dX9_valueOf_14 : decode cX9_valueOf 14 = .ok (.invokevirtual 129, 3) := by decide +kernel
theorem dX9_valueOf_17 : decode cX9_valueOf 17 = .ok (.iconst 1, 1) := by decide +kernel
theorem dX9_valueOf_18 : decode cX9_valueOf 18 = .ok (.if_icmp .ne 8, 3) := by decide +kernel
theorem dX9_valueOf_21 : decode cX9_valueOf 21 = .ok (.iload 4, 2) := by decide +kernel
theorem dX9_valueOf_23 : decode cX9_valueOf 23 = .ok (.goto 4, 3) := by decide +kernel
theorem dX9_valueOf_26 : decode cX9_valueOf 26 = .ok (.iconst 1, 1) := by decide +kernel
theorem dX9_valueOf_27 : decode cX9_valueOf 27 = .ok (.i2l, 1) := by decide +kernel
theorem dX9_valueOf_28 : decode cX9_valueOf 28 = .ok (.lmul, 1) := by decide +kernel
theorem dX9_valueOf_29 : decode cX9_valueOf 29 = .ok (.lstore 6, 2) := by decide +kernel
theorem dX9_valueOf_31 : decode cX9_valueOf 31 = .ok (.aload_n 0, 1) := by decide +kernel
theorem dX9_valueOf_32 : decode cX9_valueOf 32 = .ok (.iload_n 1, 1) := by decide +kernel
theorem dX9_valueOf_33 : decode cX9_valueOf 33 = .ok (.iconst 2, 1) := by decide +kernel
theorem dX9_valueOf_34 : decode cX9_valueOf 34 = .ok (.invokevirtual 129, 3) := by decide +kernel
theorem dX9_valueOf_37 : decode cX9_valueOf 37 = .ok (.ifCond .ne 8, 3) := by decide +kernel
theorem dX9_valueOf_40 : decode cX9_valueOf 40 = .ok (.lload 6, 2) := by decide +kernel
theorem dX9_valueOf_42 : decode cX9_valueOf 42 = .ok (.goto 22, 3) := by decide +kernel
theorem dX9_valueOf_45 : decode cX9_valueOf 45 = .ok (.lload 6, 2) := by decide +kernel
theorem dX9_valueOf_47 : decode cX9_valueOf 47 = .ok (.ldc2_w 149, 3) := by decide +kernel
theorem dX9_valueOf_50 : decode cX9_valueOf 50 = .ok (.aload_n 0, 1) := by decide +kernel
theorem dX9_valueOf_51 : decode cX9_valueOf 51 = .ok (.iload_n 1, 1) := by decide +kernel
theorem dX9_valueOf_52 : decode cX9_valueOf 52 = .ok (.iconst 2, 1) := by decide +kernel
theorem dX9_valueOf_53 : decode cX9_valueOf 53 = .ok (.invokevirtual 129, 3) := by decide +kernel
theorem dX9_valueOf_56 : decode cX9_valueOf 56 = .ok (.i2l, 1) := by decide +kernel
theorem dX9_valueOf_57 : decode cX9_valueOf 57 = .ok (.lmul, 1) := by decide +kernel
theorem dX9_valueOf_58 : decode cX9_valueOf 58 = .ok (.iload_n 2, 1) := by decide +kernel
theorem dX9_valueOf_59 : decode cX9_valueOf 59 = .ok (.i2l, 1) := by decide +kernel
theorem dX9_valueOf_60 : decode cX9_valueOf 60 = .ok (.lmul, 1) := by decide +kernel
theorem dX9_valueOf_61 : decode cX9_valueOf 61 = .ok (.invokestatic 153, 3) := by decide +kernel
theorem dX9_valueOf_64 : decode cX9_valueOf 64 = .ok (.lstore 6, 2) := by decide +kernel
theorem dX9_valueOf_66 : decode cX9_valueOf 66 = .ok (.lload 6, 2) := by decide +kernel
theorem dX9_valueOf_68 : decode cX9_valueOf 68 = .ok (.aload_n 0, 1) := by decide +kernel
theorem dX9_valueOf_69 : decode cX9_valueOf 69 = .ok (.iload_n 1, 1) := by decide +kernel
theorem dX9_valueOf_70 : decode cX9_valueOf 70 = .ok (.iconst 4, 1) := by decide +kernel
theorem dX9_valueOf_71 : decode cX9_valueOf 71 = .ok (.invokevirtual 129, 3) := by decide +kernel
theorem dX9_valueOf_74 : decode cX9_valueOf 74 = .ok (.iload_n 3, 1) := by decide +kernel
theorem dX9_valueOf_75 : decode cX9_valueOf 75 = .ok (.iload 5, 2) := by decide +kernel
theorem dX9_valueOf_77 : decode cX9_valueOf 77 = .ok (.aload_n 0, 1) := by decide +kernel
theorem dX9_valueOf_78 : decode cX9_valueOf 78 = .ok (.iload_n 1, 1) := by decide +kernel
theorem dX9_valueOf_79 : decode cX9_valueOf 79 = .ok (.iconst 3, 1) := by decide +kernel
theorem dX9_valueOf_80 : decode cX9_valueOf 80 = .ok (.invokevirtual 129, 3) := by decide +kernel
theorem dX9_valueOf_83 : decode cX9_valueOf 83 = .ok (.imul, 1) := by decide +kernel
theorem dX9_valueOf_84 : decode cX9_valueOf 84 = .ok (.invokestatic 161, 3) := by decide +kernel
theorem dX9_valueOf_87 : decode cX9_valueOf 87 = .ok (.lsub, 1) := by decide +kernel
theorem dX9_valueOf_88 : decode cX9_valueOf 88 = .ok (.invokestatic 157, 3) := by decide +kernel
theorem dX9_valueOf_91 : decode cX9_valueOf 91 = .ok (.lreturn, 1) := by decide +kernel
theorem c_X9_valueOf {a0 : Nat} {a1 : Int32} {a2 : Int32} {a3 : Int32} {a4 : Int32} {a5 : Int32} : CWp S N d MX9_valueOf [.ref a0, .int a1, .int a2, .int a3, .int a4, .int a5] I J P Q ↔ Wp S N d MX9_valueOf 0 [some (.ref a0), some (.int a1), some (.int a2), some (.int a3), some (.int a4), some (.int a5), none, none] [] I J P Q := by
  rw [cwp_iff]
  exact ⟨fun h => h.2, fun h => ⟨Nat.le_of_ble_eq_true rfl, h⟩⟩
theorem e_X9_valueOf_0  {x0 x1 x2 x3 x4 x5 x6 x7 : Option Value} : Wp S N d MX9_valueOf 0 [x0, x1, x2, x3, x4, x5, x6, x7] [] I J P Q ↔ Wp S N d MX9_valueOf 3 [x0, x1, x2, x3, x4, x5, x6, x7] [.long 1000000] I J P Q := wp_ldc2 rfl dX9_valueOf_0
theorem e_X9_valueOf_3 {v0 : Int64} {w : Nat} {x1 x2 x3 x4 x5 x6 x7 : Option Value} : Wp S N d MX9_valueOf 3 [some (.ref w), x1, x2, x3, x4, x5, x6, x7] [.long v0] I J P Q ↔ Wp S N d MX9_valueOf 4 [some (.ref w), x1, x2, x3, x4, x5, x6, x7] [.ref w, .long v0] I J P Q := wp_lod (len := 1) rfl rfl rfl rfl dX9_valueOf_3
theorem e_X9_valueOf_4 {v0 : Nat} {v1 : Int64} {w : Int32} {x0 x2 x3 x4 x5 x6 x7 : Option Value} : Wp S N d MX9_valueOf 4 [x0, some (.int w), x2, x3, x4, x5, x6, x7] [.ref v0, .long v1] I J P Q ↔ Wp S N d MX9_valueOf 5 [x0, some (.int w), x2, x3, x4, x5, x6, x7] [.int w, .ref v0, .long v1] I J P Q := wp_lod (len := 1) rfl rfl rfl rfl dX9_valueOf_4
theorem e_X9_valueOf_5 {v0 : Int32} {v1 : Nat} {v2 : Int64} {x0 x1 x2 x3 x4 x5 x6 x7 : Option Value} : Wp S N d MX9_valueOf 5 [x0, x1, x2, x3, x4, x5, x6, x7] [.int v0, .ref v1, .long v2] I J P Q ↔ Wp S N d MX9_valueOf 6 [x0, x1, x2, x3, x4, x5, x6, x7] [.int 1, .int v0, .ref v1, .long v2] I J P Q := wp_iconst (by decide) dX9_valueOf_5
theorem e_X9_valueOf_6 {v0 : Int32} {v1 : Int32} {v2 : Nat} {v3 : Int64} {x0 x1 x2 x3 x4 x5 x6 x7 : Option Value} : Wp S N (d + 1) MX9_valueOf 6 [x0, x1, x2, x3, x4, x5, x6, x7] [.int v0, .int v1, .ref v2, .long v3] I J P Q ↔ S v2 = 9 ∧ CWp S N d MX9_creditOf [.ref v2, .int v1, .int v0] I J P (fun r I1 J1 P1 => Wp S N (d + 1) MX9_valueOf 9 [x0, x1, x2, x3, x4, x5, x6, x7] (r.toList ++ [.long v3]) I1 J1 P1 Q) := wp_callV (M' := MX9_creditOf) (As := [.int v1, .int v0]) rfl rfl rfl rfl (by decide) (Nat.le_of_ble_eq_true rfl) dX9_valueOf_6
theorem e_X9_valueOf_9 {v0 : Int32} {v1 : Int64} {x0 x1 x2 x3 x4 x5 x6 x7 : Option Value} : Wp S N d MX9_valueOf 9 [x0, x1, x2, x3, x4, x5, x6, x7] [.int v0, .long v1] I J P Q ↔ Wp S N d MX9_valueOf 10 [x0, x1, x2, x3, x4, x5, x6, x7] [.long v0.toInt64, .long v1] I J P Q := wp_alu (len := 1) rfl rfl rfl dX9_valueOf_9
theorem e_X9_valueOf_10 {v0 : Int64} {v1 : Int64} {x0 x1 x2 x3 x4 x5 x6 x7 : Option Value} : Wp S N d MX9_valueOf 10 [x0, x1, x2, x3, x4, x5, x6, x7] [.long v0, .long v1] I J P Q ↔ Wp S N d MX9_valueOf 11 [x0, x1, x2, x3, x4, x5, x6, x7] [.long (v1 * v0)] I J P Q := wp_alu (len := 1) rfl rfl rfl dX9_valueOf_10
theorem e_X9_valueOf_11 {v0 : Int64} {w : Nat} {x1 x2 x3 x4 x5 x6 x7 : Option Value} : Wp S N d MX9_valueOf 11 [some (.ref w), x1, x2, x3, x4, x5, x6, x7] [.long v0] I J P Q ↔ Wp S N d MX9_valueOf 12 [some (.ref w), x1, x2, x3, x4, x5, x6, x7] [.ref w, .long v0] I J P Q := wp_lod (len := 1) rfl rfl rfl rfl dX9_valueOf_11
theorem e_X9_valueOf_12 {v0 : Nat} {v1 : Int64} {w : Int32} {x0 x2 x3 x4 x5 x6 x7 : Option Value} : Wp S N d MX9_valueOf 12 [x0, some (.int w), x2, x3, x4, x5, x6, x7] [.ref v0, .long v1] I J P Q ↔ Wp S N d MX9_valueOf 13 [x0, some (.int w), x2, x3, x4, x5, x6, x7] [.int w, .ref v0, .long v1] I J P Q := wp_lod (len := 1) rfl rfl rfl rfl dX9_valueOf_12
theorem e_X9_valueOf_13 {v0 : Int32} {v1 : Nat} {v2 : Int64} {x0 x1 x2 x3 x4 x5 x6 x7 : Option Value} : Wp S N d MX9_valueOf 13 [x0, x1, x2, x3, x4, x5, x6, x7] [.int v0, .ref v1, .long v2] I J P Q ↔ Wp S N d MX9_valueOf 14 [x0, x1, x2, x3, x4, x5, x6, x7] [.int 5, .int v0, .ref v1, .long v2] I J P Q := wp_iconst (by decide) dX9_valueOf_13
theorem e_X9_valueOf_14 {v0 : Int32} {v1 : Int32} {v2 : Nat} {v3 : Int64} {x0 x1 x2 x3 x4 x5 x6 x7 : Option Value} : Wp S N (d + 1) MX9_valueOf 14 [x0, x1, x2, x3, x4, x5, x6, x7] [.int v0, .int v1, .ref v2, .long v3] I J P Q ↔ S v2 = 9 ∧ CWp S N d MX9_creditOf [.ref v2, .int v1, .int v0] I J P (fun r I1 J1 P1 => Wp S N (d + 1) MX9_valueOf 17 [x0, x1, x2, x3, x4, x5, x6, x7] (r.toList ++ [.long v3]) I1 J1 P1 Q) := wp_callV (M' := MX9_creditOf) (As := [.int v1, .int v0]) rfl rfl rfl rfl (by decide) (Nat.le_of_ble_eq_true rfl) dX9_valueOf_14
theorem e_X9_valueOf_17 {v0 : Int32} {v1 : Int64} {x0 x1 x2 x3 x4 x5 x6 x7 : Option Value} : Wp S N d MX9_valueOf 17 [x0, x1, x2, x3, x4, x5, x6, x7] [.int v0, .long v1] I J P Q ↔ Wp S N d MX9_valueOf 18 [x0, x1, x2, x3, x4, x5, x6, x7] [.int 1, .int v0, .long v1] I J P Q := wp_iconst (by decide) dX9_valueOf_17
theorem e_X9_valueOf_18 {v0 : Int32} {v1 : Int32} {v2 : Int64} {x0 x1 x2 x3 x4 x5 x6 x7 : Option Value} : Wp S N d MX9_valueOf 18 [x0, x1, x2, x3, x4, x5, x6, x7] [.int v0, .int v1, .long v2] I J P Q ↔ (¬ v1 = v0 → Wp S N d MX9_valueOf 26 [x0, x1, x2, x3, x4, x5, x6, x7] [.long v2] I J P Q) ∧ (v1 = v0 → Wp S N d MX9_valueOf 21 [x0, x1, x2, x3, x4, x5, x6, x7] [.long v2] I J P Q) := wp_brn rfl rfl (by decide) dX9_valueOf_18
theorem e_X9_valueOf_21 {v0 : Int64} {w : Int32} {x0 x1 x2 x3 x5 x6 x7 : Option Value} : Wp S N d MX9_valueOf 21 [x0, x1, x2, x3, some (.int w), x5, x6, x7] [.long v0] I J P Q ↔ Wp S N d MX9_valueOf 23 [x0, x1, x2, x3, some (.int w), x5, x6, x7] [.int w, .long v0] I J P Q := wp_lod (len := 2) rfl rfl rfl rfl dX9_valueOf_21
theorem e_X9_valueOf_23 {v0 : Int32} {v1 : Int64} {x0 x1 x2 x3 x4 x5 x6 x7 : Option Value} : Wp S N d MX9_valueOf 23 [x0, x1, x2, x3, x4, x5, x6, x7] [.int v0, .long v1] I J P Q ↔ Wp S N d MX9_valueOf 27 [x0, x1, x2, x3, x4, x5, x6, x7] [.int v0, .long v1] I J P Q := wp_go (len := 3) rfl (fun _ _ => rfl) rfl (by decide) dX9_valueOf_23
theorem e_X9_valueOf_26 {v0 : Int64} {x0 x1 x2 x3 x4 x5 x6 x7 : Option Value} : Wp S N d MX9_valueOf 26 [x0, x1, x2, x3, x4, x5, x6, x7] [.long v0] I J P Q ↔ Wp S N d MX9_valueOf 27 [x0, x1, x2, x3, x4, x5, x6, x7] [.int 1, .long v0] I J P Q := wp_iconst (by decide) dX9_valueOf_26
theorem e_X9_valueOf_27 {v0 : Int32} {v1 : Int64} {x0 x1 x2 x3 x4 x5 x6 x7 : Option Value} : Wp S N d MX9_valueOf 27 [x0, x1, x2, x3, x4, x5, x6, x7] [.int v0, .long v1] I J P Q ↔ Wp S N d MX9_valueOf 28 [x0, x1, x2, x3, x4, x5, x6, x7] [.long v0.toInt64, .long v1] I J P Q := wp_alu (len := 1) rfl rfl rfl dX9_valueOf_27
theorem e_X9_valueOf_28 {v0 : Int64} {v1 : Int64} {x0 x1 x2 x3 x4 x5 x6 x7 : Option Value} : Wp S N d MX9_valueOf 28 [x0, x1, x2, x3, x4, x5, x6, x7] [.long v0, .long v1] I J P Q ↔ Wp S N d MX9_valueOf 29 [x0, x1, x2, x3, x4, x5, x6, x7] [.long (v1 * v0)] I J P Q := wp_alu (len := 1) rfl rfl rfl dX9_valueOf_28
theorem e_X9_valueOf_29 {v0 : Int64} {x0 x1 x2 x3 x4 x5 x6 x7 : Option Value} : Wp S N d MX9_valueOf 29 [x0, x1, x2, x3, x4, x5, x6, x7] [.long v0] I J P Q ↔ Wp S N d MX9_valueOf 31 [x0, x1, x2, x3, x4, kl x5, some (.long v0), none] [] I J P Q := wp_sto (len := 2) rfl rfl rfl rfl (Nat.le_of_ble_eq_true rfl) rfl dX9_valueOf_29
theorem e_X9_valueOf_31 {w : Nat} {x1 x2 x3 x4 x5 x6 x7 : Option Value} : Wp S N d MX9_valueOf 31 [some (.ref w), x1, x2, x3, x4, x5, x6, x7] [] I J P Q ↔ Wp S N d MX9_valueOf 32 [some (.ref w), x1, x2, x3, x4, x5, x6, x7] [.ref w] I J P Q := wp_lod (len := 1) rfl rfl rfl rfl dX9_valueOf_31
theorem e_X9_valueOf_32 {v0 : Nat} {w : Int32} {x0 x2 x3 x4 x5 x6 x7 : Option Value} : Wp S N d MX9_valueOf 32 [x0, some (.int w), x2, x3, x4, x5, x6, x7] [.ref v0] I J P Q ↔ Wp S N d MX9_valueOf 33 [x0, some (.int w), x2, x3, x4, x5, x6, x7] [.int w, .ref v0] I J P Q := wp_lod (len := 1) rfl rfl rfl rfl dX9_valueOf_32
theorem e_X9_valueOf_33 {v0 : Int32} {v1 : Nat} {x0 x1 x2 x3 x4 x5 x6 x7 : Option Value} : Wp S N d MX9_valueOf 33 [x0, x1, x2, x3, x4, x5, x6, x7] [.int v0, .ref v1] I J P Q ↔ Wp S N d MX9_valueOf 34 [x0, x1, x2, x3, x4, x5, x6, x7] [.int 2, .int v0, .ref v1] I J P Q := wp_iconst (by decide) dX9_valueOf_33
theorem e_X9_valueOf_34 {v0 : Int32} {v1 : Int32} {v2 : Nat} {x0 x1 x2 x3 x4 x5 x6 x7 : Option Value} : Wp S N (d + 1) MX9_valueOf 34 [x0, x1, x2, x3, x4, x5, x6, x7] [.int v0, .int v1, .ref v2] I J P Q ↔ S v2 = 9 ∧ CWp S N d MX9_creditOf [.ref v2, .int v1, .int v0] I J P (fun r I1 J1 P1 => Wp S N (d + 1) MX9_valueOf 37 [x0, x1, x2, x3, x4, x5, x6, x7] (r.toList ++ []) I1 J1 P1 Q) := wp_callV (M' := MX9_creditOf) (As := [.int v1, .int v0]) rfl rfl rfl rfl (by decide) (Nat.le_of_ble_eq_true rfl) dX9_valueOf_34
theorem e_X9_valueOf_37 {v0 : Int32} {x0 x1 x2 x3 x4 x5 x6 x7 : Option Value} : Wp S N d MX9_valueOf 37 [x0, x1, x2, x3, x4, x5, x6, x7] [.int v0] I J P Q ↔ (¬ v0 = 0 → Wp S N d MX9_valueOf 45 [x0, x1, x2, x3, x4, x5, x6, x7] [] I J P Q) ∧ (v0 = 0 → Wp S N d MX9_valueOf 40 [x0, x1, x2, x3, x4, x5, x6, x7] [] I J P Q) := wp_brn rfl rfl (by decide) dX9_valueOf_37
theorem e_X9_valueOf_40 {w : Int64} {x0 x1 x2 x3 x4 x5 x7 : Option Value} : Wp S N d MX9_valueOf 40 [x0, x1, x2, x3, x4, x5, some (.long w), x7] [] I J P Q ↔ Wp S N d MX9_valueOf 42 [x0, x1, x2, x3, x4, x5, some (.long w), x7] [.long w] I J P Q := wp_lod (len := 2) rfl rfl rfl rfl dX9_valueOf_40
theorem e_X9_valueOf_42 {v0 : Int64} {x0 x1 x2 x3 x4 x5 x6 x7 : Option Value} : Wp S N d MX9_valueOf 42 [x0, x1, x2, x3, x4, x5, x6, x7] [.long v0] I J P Q ↔ Wp S N d MX9_valueOf 64 [x0, x1, x2, x3, x4, x5, x6, x7] [.long v0] I J P Q := wp_go (len := 3) rfl (fun _ _ => rfl) rfl (by decide) dX9_valueOf_42
theorem e_X9_valueOf_45 {w : Int64} {x0 x1 x2 x3 x4 x5 x7 : Option Value} : Wp S N d MX9_valueOf 45 [x0, x1, x2, x3, x4, x5, some (.long w), x7] [] I J P Q ↔ Wp S N d MX9_valueOf 47 [x0, x1, x2, x3, x4, x5, some (.long w), x7] [.long w] I J P Q := wp_lod (len := 2) rfl rfl rfl rfl dX9_valueOf_45
theorem e_X9_valueOf_47 {v0 : Int64} {x0 x1 x2 x3 x4 x5 x6 x7 : Option Value} : Wp S N d MX9_valueOf 47 [x0, x1, x2, x3, x4, x5, x6, x7] [.long v0] I J P Q ↔ Wp S N d MX9_valueOf 50 [x0, x1, x2, x3, x4, x5, x6, x7] [.long 1000, .long v0] I J P Q := wp_ldc2 rfl dX9_valueOf_47
theorem e_X9_valueOf_50 {v0 : Int64} {v1 : Int64} {w : Nat} {x1 x2 x3 x4 x5 x6 x7 : Option Value} : Wp S N d MX9_valueOf 50 [some (.ref w), x1, x2, x3, x4, x5, x6, x7] [.long v0, .long v1] I J P Q ↔ Wp S N d MX9_valueOf 51 [some (.ref w), x1, x2, x3, x4, x5, x6, x7] [.ref w, .long v0, .long v1] I J P Q := wp_lod (len := 1) rfl rfl rfl rfl dX9_valueOf_50
theorem e_X9_valueOf_51 {v0 : Nat} {v1 : Int64} {v2 : Int64} {w : Int32} {x0 x2 x3 x4 x5 x6 x7 : Option Value} : Wp S N d MX9_valueOf 51 [x0, some (.int w), x2, x3, x4, x5, x6, x7] [.ref v0, .long v1, .long v2] I J P Q ↔ Wp S N d MX9_valueOf 52 [x0, some (.int w), x2, x3, x4, x5, x6, x7] [.int w, .ref v0, .long v1, .long v2] I J P Q := wp_lod (len := 1) rfl rfl rfl rfl dX9_valueOf_51
theorem e_X9_valueOf_52 {v0 : Int32} {v1 : Nat} {v2 : Int64} {v3 : Int64} {x0 x1 x2 x3 x4 x5 x6 x7 : Option Value} : Wp S N d MX9_valueOf 52 [x0, x1, x2, x3, x4, x5, x6, x7] [.int v0, .ref v1, .long v2, .long v3] I J P Q ↔ Wp S N d MX9_valueOf 53 [x0, x1, x2, x3, x4, x5, x6, x7] [.int 2, .int v0, .ref v1, .long v2, .long v3] I J P Q := wp_iconst (by decide) dX9_valueOf_52
theorem e_X9_valueOf_53 {v0 : Int32} {v1 : Int32} {v2 : Nat} {v3 : Int64} {v4 : Int64} {x0 x1 x2 x3 x4 x5 x6 x7 : Option Value} : Wp S N (d + 1) MX9_valueOf 53 [x0, x1, x2, x3, x4, x5, x6, x7] [.int v0, .int v1, .ref v2, .long v3, .long v4] I J P Q ↔ S v2 = 9 ∧ CWp S N d MX9_creditOf [.ref v2, .int v1, .int v0] I J P (fun r I1 J1 P1 => Wp S N (d + 1) MX9_valueOf 56 [x0, x1, x2, x3, x4, x5, x6, x7] (r.toList ++ [.long v3, .long v4]) I1 J1 P1 Q) := wp_callV (M' := MX9_creditOf) (As := [.int v1, .int v0]) rfl rfl rfl rfl (by decide) (Nat.le_of_ble_eq_true rfl) dX9_valueOf_53
theorem e_X9_valueOf_56 {v0 : Int32} {v1 : Int64} {v2 : Int64} {x0 x1 x2 x3 x4 x5 x6 x7 : Option Value} : Wp S N d MX9_valueOf 56 [x0, x1, x2, x3, x4, x5, x6, x7] [.int v0, .long v1, .long v2] I J P Q ↔ Wp S N d MX9_valueOf 57 [x0, x1, x2, x3, x4, x5, x6, x7] [.long v0.toInt64, .long v1, .long v2] I J P Q := wp_alu (len := 1) rfl rfl rfl dX9_valueOf_56
theorem e_X9_valueOf_57 {v0 : Int64} {v1 : Int64} {v2 : Int64} {x0 x1 x2 x3 x4 x5 x6 x7 : Option Value} : Wp S N d MX9_valueOf 57 [x0, x1, x2, x3, x4, x5, x6, x7] [.long v0, .long v1, .long v2] I J P Q ↔ Wp S N d MX9_valueOf 58 [x0, x1, x2, x3, x4, x5, x6, x7] [.long (v1 * v0), .long v2] I J P Q := wp_alu (len := 1) rfl rfl rfl dX9_valueOf_57
theorem e_X9_valueOf_58 {v0 : Int64} {v1 : Int64} {w : Int32} {x0 x1 x3 x4 x5 x6 x7 : Option Value} : Wp S N d MX9_valueOf 58 [x0, x1, some (.int w), x3, x4, x5, x6, x7] [.long v0, .long v1] I J P Q ↔ Wp S N d MX9_valueOf 59 [x0, x1, some (.int w), x3, x4, x5, x6, x7] [.int w, .long v0, .long v1] I J P Q := wp_lod (len := 1) rfl rfl rfl rfl dX9_valueOf_58
theorem e_X9_valueOf_59 {v0 : Int32} {v1 : Int64} {v2 : Int64} {x0 x1 x2 x3 x4 x5 x6 x7 : Option Value} : Wp S N d MX9_valueOf 59 [x0, x1, x2, x3, x4, x5, x6, x7] [.int v0, .long v1, .long v2] I J P Q ↔ Wp S N d MX9_valueOf 60 [x0, x1, x2, x3, x4, x5, x6, x7] [.long v0.toInt64, .long v1, .long v2] I J P Q := wp_alu (len := 1) rfl rfl rfl dX9_valueOf_59
theorem e_X9_valueOf_60 {v0 : Int64} {v1 : Int64} {v2 : Int64} {x0 x1 x2 x3 x4 x5 x6 x7 : Option Value} : Wp S N d MX9_valueOf 60 [x0, x1, x2, x3, x4, x5, x6, x7] [.long v0, .long v1, .long v2] I J P Q ↔ Wp S N d MX9_valueOf 61 [x0, x1, x2, x3, x4, x5, x6, x7] [.long (v1 * v0), .long v2] I J P Q := wp_alu (len := 1) rfl rfl rfl dX9_valueOf_60
theorem e_X9_valueOf_61 {v0 : Int64} {v1 : Int64} {x0 x1 x2 x3 x4 x5 x6 x7 : Option Value} : Wp S N (d + 1) MX9_valueOf 61 [x0, x1, x2, x3, x4, x5, x6, x7] [.long v0, .long v1] I J P Q ↔ CWp S N d MX9_lesser [.long v1, .long v0] I J P (fun r I1 J1 P1 => Wp S N (d + 1) MX9_valueOf 64 [x0, x1, x2, x3, x4, x5, x6, x7] (r.toList ++ []) I1 J1 P1 Q) := wp_callS (M' := MX9_lesser) (As := [.long v1, .long v0]) rfl rfl rfl rfl (Nat.le_of_ble_eq_true rfl) dX9_valueOf_61
theorem e_X9_valueOf_64 {v0 : Int64} {x0 x1 x2 x3 x4 x5 x6 x7 : Option Value} : Wp S N d MX9_valueOf 64 [x0, x1, x2, x3, x4, x5, x6, x7] [.long v0] I J P Q ↔ Wp S N d MX9_valueOf 66 [x0, x1, x2, x3, x4, kl x5, some (.long v0), none] [] I J P Q := wp_sto (len := 2) rfl rfl rfl rfl (Nat.le_of_ble_eq_true rfl) rfl dX9_valueOf_64
theorem e_X9_valueOf_66 {w : Int64} {x0 x1 x2 x3 x4 x5 x7 : Option Value} : Wp S N d MX9_valueOf 66 [x0, x1, x2, x3, x4, x5, some (.long w), x7] [] I J P Q ↔ Wp S N d MX9_valueOf 68 [x0, x1, x2, x3, x4, x5, some (.long w), x7] [.long w] I J P Q := wp_lod (len := 2) rfl rfl rfl rfl dX9_valueOf_66
theorem e_X9_valueOf_68 {v0 : Int64} {w : Nat} {x1 x2 x3 x4 x5 x6 x7 : Option Value} : Wp S N d MX9_valueOf 68 [some (.ref w), x1, x2, x3, x4, x5, x6, x7] [.long v0] I J P Q ↔ Wp S N d MX9_valueOf 69 [some (.ref w), x1, x2, x3, x4, x5, x6, x7] [.ref w, .long v0] I J P Q := wp_lod (len := 1) rfl rfl rfl rfl dX9_valueOf_68
theorem e_X9_valueOf_69 {v0 : Nat} {v1 : Int64} {w : Int32} {x0 x2 x3 x4 x5 x6 x7 : Option Value} : Wp S N d MX9_valueOf 69 [x0, some (.int w), x2, x3, x4, x5, x6, x7] [.ref v0, .long v1] I J P Q ↔ Wp S N d MX9_valueOf 70 [x0, some (.int w), x2, x3, x4, x5, x6, x7] [.int w, .ref v0, .long v1] I J P Q := wp_lod (len := 1) rfl rfl rfl rfl dX9_valueOf_69
theorem e_X9_valueOf_70 {v0 : Int32} {v1 : Nat} {v2 : Int64} {x0 x1 x2 x3 x4 x5 x6 x7 : Option Value} : Wp S N d MX9_valueOf 70 [x0, x1, x2, x3, x4, x5, x6, x7] [.int v0, .ref v1, .long v2] I J P Q ↔ Wp S N d MX9_valueOf 71 [x0, x1, x2, x3, x4, x5, x6, x7] [.int 4, .int v0, .ref v1, .long v2] I J P Q := wp_iconst (by decide) dX9_valueOf_70
theorem e_X9_valueOf_71 {v0 : Int32} {v1 : Int32} {v2 : Nat} {v3 : Int64} {x0 x1 x2 x3 x4 x5 x6 x7 : Option Value} : Wp S N (d + 1) MX9_valueOf 71 [x0, x1, x2, x3, x4, x5, x6, x7] [.int v0, .int v1, .ref v2, .long v3] I J P Q ↔ S v2 = 9 ∧ CWp S N d MX9_creditOf [.ref v2, .int v1, .int v0] I J P (fun r I1 J1 P1 => Wp S N (d + 1) MX9_valueOf 74 [x0, x1, x2, x3, x4, x5, x6, x7] (r.toList ++ [.long v3]) I1 J1 P1 Q) := wp_callV (M' := MX9_creditOf) (As := [.int v1, .int v0]) rfl rfl rfl rfl (by decide) (Nat.le_of_ble_eq_true rfl) dX9_valueOf_71
theorem e_X9_valueOf_74 {v0 : Int32} {v1 : Int64} {w : Int32} {x0 x1 x2 x4 x5 x6 x7 : Option Value} : Wp S N d MX9_valueOf 74 [x0, x1, x2, some (.int w), x4, x5, x6, x7] [.int v0, .long v1] I J P Q ↔ Wp S N d MX9_valueOf 75 [x0, x1, x2, some (.int w), x4, x5, x6, x7] [.int w, .int v0, .long v1] I J P Q := wp_lod (len := 1) rfl rfl rfl rfl dX9_valueOf_74
theorem e_X9_valueOf_75 {v0 : Int32} {v1 : Int32} {v2 : Int64} {w : Int32} {x0 x1 x2 x3 x4 x6 x7 : Option Value} : Wp S N d MX9_valueOf 75 [x0, x1, x2, x3, x4, some (.int w), x6, x7] [.int v0, .int v1, .long v2] I J P Q ↔ Wp S N d MX9_valueOf 77 [x0, x1, x2, x3, x4, some (.int w), x6, x7] [.int w, .int v0, .int v1, .long v2] I J P Q := wp_lod (len := 2) rfl rfl rfl rfl dX9_valueOf_75
theorem e_X9_valueOf_77 {v0 : Int32} {v1 : Int32} {v2 : Int32} {v3 : Int64} {w : Nat} {x1 x2 x3 x4 x5 x6 x7 : Option Value} : Wp S N d MX9_valueOf 77 [some (.ref w), x1, x2, x3, x4, x5, x6, x7] [.int v0, .int v1, .int v2, .long v3] I J P Q ↔ Wp S N d MX9_valueOf 78 [some (.ref w), x1, x2, x3, x4, x5, x6, x7] [.ref w, .int v0, .int v1, .int v2, .long v3] I J P Q := wp_lod (len := 1) rfl rfl rfl rfl dX9_valueOf_77
theorem e_X9_valueOf_78 {v0 : Nat} {v1 : Int32} {v2 : Int32} {v3 : Int32} {v4 : Int64} {w : Int32} {x0 x2 x3 x4 x5 x6 x7 : Option Value} : Wp S N d MX9_valueOf 78 [x0, some (.int w), x2, x3, x4, x5, x6, x7] [.ref v0, .int v1, .int v2, .int v3, .long v4] I J P Q ↔ Wp S N d MX9_valueOf 79 [x0, some (.int w), x2, x3, x4, x5, x6, x7] [.int w, .ref v0, .int v1, .int v2, .int v3, .long v4] I J P Q := wp_lod (len := 1) rfl rfl rfl rfl dX9_valueOf_78
theorem e_X9_valueOf_79 {v0 : Int32} {v1 : Nat} {v2 : Int32} {v3 : Int32} {v4 : Int32} {v5 : Int64} {x0 x1 x2 x3 x4 x5 x6 x7 : Option Value} : Wp S N d MX9_valueOf 79 [x0, x1, x2, x3, x4, x5, x6, x7] [.int v0, .ref v1, .int v2, .int v3, .int v4, .long v5] I J P Q ↔ Wp S N d MX9_valueOf 80 [x0, x1, x2, x3, x4, x5, x6, x7] [.int 3, .int v0, .ref v1, .int v2, .int v3, .int v4, .long v5] I J P Q := wp_iconst (by decide) dX9_valueOf_79
theorem e_X9_valueOf_80 {v0 : Int32} {v1 : Int32} {v2 : Nat} {v3 : Int32} {v4 : Int32} {v5 : Int32} {v6 : Int64} {x0 x1 x2 x3 x4 x5 x6 x7 : Option Value} : Wp S N (d + 1) MX9_valueOf 80 [x0, x1, x2, x3, x4, x5, x6, x7] [.int v0, .int v1, .ref v2, .int v3, .int v4, .int v5, .long v6] I J P Q ↔ S v2 = 9 ∧ CWp S N d MX9_creditOf [.ref v2, .int v1, .int v0] I J P (fun r I1 J1 P1 => Wp S N (d + 1) MX9_valueOf 83 [x0, x1, x2, x3, x4, x5, x6, x7] (r.toList ++ [.int v3, .int v4, .int v5, .long v6]) I1 J1 P1 Q) := wp_callV (M' := MX9_creditOf) (As := [.int v1, .int v0]) rfl rfl rfl rfl (by decide) (Nat.le_of_ble_eq_true rfl) dX9_valueOf_80
theorem e_X9_valueOf_83 {v0 : Int32} {v1 : Int32} {v2 : Int32} {v3 : Int32} {v4 : Int64} {x0 x1 x2 x3 x4 x5 x6 x7 : Option Value} : Wp S N d MX9_valueOf 83 [x0, x1, x2, x3, x4, x5, x6, x7] [.int v0, .int v1, .int v2, .int v3, .long v4] I J P Q ↔ Wp S N d MX9_valueOf 84 [x0, x1, x2, x3, x4, x5, x6, x7] [.int (v1 * v0), .int v2, .int v3, .long v4] I J P Q := wp_alu (len := 1) rfl rfl rfl dX9_valueOf_83
theorem e_X9_valueOf_84 {v0 : Int32} {v1 : Int32} {v2 : Int32} {v3 : Int64} {x0 x1 x2 x3 x4 x5 x6 x7 : Option Value} : Wp S N (d + 1) MX9_valueOf 84 [x0, x1, x2, x3, x4, x5, x6, x7] [.int v0, .int v1, .int v2, .long v3] I J P Q ↔ CWp S N d MX9_above [.int v2, .int v1, .int v0] I J P (fun r I1 J1 P1 => Wp S N (d + 1) MX9_valueOf 87 [x0, x1, x2, x3, x4, x5, x6, x7] (r.toList ++ [.long v3]) I1 J1 P1 Q) := wp_callS (M' := MX9_above) (As := [.int v2, .int v1, .int v0]) rfl rfl rfl rfl (Nat.le_of_ble_eq_true rfl) dX9_valueOf_84
theorem e_X9_valueOf_87 {v0 : Int64} {v1 : Int64} {x0 x1 x2 x3 x4 x5 x6 x7 : Option Value} : Wp S N d MX9_valueOf 87 [x0, x1, x2, x3, x4, x5, x6, x7] [.long v0, .long v1] I J P Q ↔ Wp S N d MX9_valueOf 88 [x0, x1, x2, x3, x4, x5, x6, x7] [.long (v1 - v0)] I J P Q := wp_alu (len := 1) rfl rfl rfl dX9_valueOf_87
theorem e_X9_valueOf_88 {v0 : Int64} {x0 x1 x2 x3 x4 x5 x6 x7 : Option Value} : Wp S N (d + 1) MX9_valueOf 88 [x0, x1, x2, x3, x4, x5, x6, x7] [.long v0] I J P Q ↔ CWp S N d MX9_positive [.long v0] I J P (fun r I1 J1 P1 => Wp S N (d + 1) MX9_valueOf 91 [x0, x1, x2, x3, x4, x5, x6, x7] (r.toList ++ []) I1 J1 P1 Q) := wp_callS (M' := MX9_positive) (As := [.long v0]) rfl rfl rfl rfl (Nat.le_of_ble_eq_true rfl) dX9_valueOf_88
theorem e_X9_valueOf_91 {v0 : Int64} {x0 x1 x2 x3 x4 x5 x6 x7 : Option Value} : Wp S N d MX9_valueOf 91 [x0, x1, x2, x3, x4, x5, x6, x7] [.long v0] I J P Q ↔ Q (some (.long v0)) I J P := wp_lret rfl dX9_valueOf_91
theorem dX9_taxOf_0 : decode cX9_taxOf 0 = .ok (.aload_n 0, 1) := by decide +kernel
theorem dX9_taxOf_1 : decode cX9_taxOf 1 = .ok (.getfield 39, 3) := by decide +kernel
theorem dX9_taxOf_4 : decode cX9_taxOf 4 = .ok (.iconst 0, 1) := by decide +kernel
theorem dX9_taxOf_5 : decode cX9_taxOf 5 = .ok (.ldc2_w 151, 3) := by decide +kernel
theorem dX9_taxOf_8 : decode cX9_taxOf 8 = .ok (.iload 4, 2) := by decide +kernel
theorem dX9_taxOf_10 : decode cX9_taxOf 10 = .ok (.aload_n 0, 1) := by decide +kernel
theorem dX9_taxOf_11 : decode cX9_taxOf 11 = .ok (.getfield 7, 3) := by decide +kernel
theorem dX9_taxOf_14 : decode cX9_taxOf 14 = .ok (.bipush 13, 2) := by decide +kernel
theorem dX9_taxOf_16 : decode cX9_taxOf 16 = .ok (.iaload, 1) := by decide +kernel
theorem dX9_taxOf_17 : decode cX9_taxOf 17 = .ok (.imul, 1) := by decide +kernel
theorem dX9_taxOf_18 : decode cX9_taxOf 18 = .ok (.i2l, 1) := by decide +kernel
theorem dX9_taxOf_19 : decode cX9_taxOf 19 = .ok (.lmul, 1) := by decide +kernel
theorem dX9_taxOf_20 : decode cX9_taxOf 20 = .ok (.aload_n 0, 1) := by decide +kernel
theorem dX9_taxOf_21 : decode cX9_taxOf 21 = .ok (.getfield 7, 3) := by decide +kernel
theorem dX9_taxOf_24 : decode cX9_taxOf 24 = .ok (.bipush 15, 2) := by decide +kernel
theorem dX9_taxOf_26 : decode cX9_taxOf 26 = .ok (.iaload, 1) := by decide +kernel
theorem dX9_taxOf_27 : decode cX9_taxOf 27 = .ok (.iload_n 2, 1) := by decide +kernel
theorem dX9_taxOf_28 : decode cX9_taxOf 28 = .ok (.iload 4, 2) := by decide +kernel
theorem dX9_taxOf_30 : decode cX9_taxOf 30 = .ok (.aload_n 0, 1) := by decide +kernel
theorem dX9_taxOf_31 : decode cX9_taxOf 31 = .ok (.getfield 7, 3) := by decide +kernel
theorem dX9_taxOf_34 : decode cX9_taxOf 34 = .ok (.bipush 14, 2) := by decide +kernel
theorem dX9_taxOf_36 : decode cX9_taxOf 36 = .ok (.iaload, 1) := by decide +kernel
theorem dX9_taxOf_37 : decode cX9_taxOf 37 = .ok (.imul, 1) := by decide +kernel
theorem dX9_taxOf_38 : decode cX9_taxOf 38 = .ok (.invokestatic 161, 3) := by decide +kernel
theorem dX9_taxOf_41 : decode cX9_taxOf 41 = .ok (.lsub, 1) := by decide +kernel
theorem dX9_taxOf_42 : decode cX9_taxOf 42 = .ok (.invokestatic 157, 3) := by decide +kernel
theorem dX9_taxOf_45 : decode cX9_taxOf 45 = .ok (.lastore, 1) := by decide +kernel
theorem dX9_taxOf_46 : decode cX9_taxOf 46 = .ok (.aload_n 0, 1) := by decide +kernel
theorem dX9_taxOf_47 : decode cX9_taxOf 47 = .ok (.getfield 39, 3) := by decide +kernel
theorem dX9_taxOf_50 : decode cX9_taxOf 50 = .ok (.iconst 1, 1) := by decide +kernel
theorem dX9_taxOf_51 : decode cX9_taxOf 51 = .ok (.ldc2_w 151, 3) := by decide +kernel
theorem dX9_taxOf_54 : decode cX9_taxOf 54 = .ok (.iload_n 2, 1) := by decide +kernel
theorem dX9_taxOf_55 : decode cX9_taxOf 55 = .ok (.i2l, 1) := by decide +kernel
theorem dX9_taxOf_56 : decode cX9_taxOf 56 = .ok (.lmul, 1) := by decide +kernel
theorem dX9_taxOf_57 : decode cX9_taxOf 57 = .ok (.aload_n 0, 1) := by decide +kernel
theorem dX9_taxOf_58 : decode cX9_taxOf 58 = .ok (.getfield 39, 3) := by decide +kernel
theorem dX9_taxOf_61 : decode cX9_taxOf 61 = .ok (.iconst 0, 1) := by decide +kernel
theorem dX9_taxOf_62 : decode cX9_taxOf 62 = .ok (.laload, 1) := by decide +kernel
theorem dX9_taxOf_63 : decode cX9_taxOf 63 = .ok (.lsub, 1) := by decide +kernel
theorem dX9_taxOf_64 : decode cX9_taxOf 64 = .ok (.invokestatic 157, 3) := by decide +kernel
theorem dX9_taxOf_67 : decode cX9_taxOf 67 = .ok (.lastore, 1) := by decide +kernel
theorem dX9_taxOf_68 : decode cX9_taxOf 68 = .ok (.aload_n 0, 1) := by decide +kernel
theorem dX9_taxOf_69 : decode cX9_taxOf 69 = .ok (.getfield 39, 3) := by decide +kernel
theorem dX9_taxOf_72 : decode cX9_taxOf 72 = .ok (.iconst 2, 1) := by decide +kernel
theorem dX9_taxOf_73 : decode cX9_taxOf 73 = .ok (.aload_n 0, 1) := by decide +kernel
theorem dX9_taxOf_74 : decode cX9_taxOf 74 = .ok (.aload_n 0, 1) := by decide +kernel
theorem dX9_taxOf_75 : decode cX9_taxOf 75 = .ok (.getfield 39, 3) := by decide +kernel
theorem dX9_taxOf_78 : decode cX9_taxOf 78 = .ok (.iconst 1, 1) := by decide +kernel
theorem dX9_taxOf_79 : decode cX9_taxOf 79 = .ok (.laload, 1) := by decide +kernel
theorem dX9_taxOf_80 : decode cX9_taxOf 80 = .ok (.iload 4, 2) := by decide +kernel
theorem dX9_taxOf_82 : decode cX9_taxOf 82 = .ok (.invokevirtual 165, 3) := by decide +kernel
theorem dX9_taxOf_85 : decode cX9_taxOf 85 = .ok (.lastore, 1) := by decide +kernel
theorem dX9_taxOf_86 : decode cX9_taxOf 86 = .ok (.aload_n 0, 1) := by decide +kernel
theorem dX9_taxOf_87 : decode cX9_taxOf 87 = .ok (.getfield 39, 3) := by decide +kernel
theorem dX9_taxOf_90 : decode cX9_taxOf 90 = .ok (.iconst 3, 1) := by decide +kernel
theorem dX9_taxOf_91 : decode cX9_taxOf 91 = .ok (.aload_n 0, 1) := by decide +kernel
theorem dX9_taxOf_92 : decode cX9_taxOf 92 = .ok (.getfield 7, 3) := by decide +kernel
theorem dX9_taxOf_95 : decode cX9_taxOf 95 = .ok (.bipush 17, 2) := by decide +kernel
theorem dX9_taxOf_97 : decode cX9_taxOf 97 = .ok (.iaload, 1) := by decide +kernel
theorem dX9_taxOf_98 : decode cX9_taxOf 98 = .ok (.iload_n 2, 1) := by decide +kernel
theorem dX9_taxOf_99 : decode cX9_taxOf 99 = .ok (.iload 4, 2) := by decide +kernel
theorem dX9_taxOf_101 : decode cX9_taxOf 101 = .ok (.aload_n 0, 1) := by decide +kernel
theorem dX9_taxOf_102 : decode cX9_taxOf 102 = .ok (.getfield 7, 3) := by decide +kernel
theorem dX9_taxOf_105 : decode cX9_taxOf 105 = .ok (.bipush 16, 2) := by decide +kernel
theorem dX9_taxOf_107 : decode cX9_taxOf 107 = .ok (.iaload, 1) := by decide +kernel
theorem dX9_taxOf_108 : decode cX9_taxOf 108 = .ok (.imul, 1) := by decide +kernel
theorem dX9_taxOf_109 : decode cX9_taxOf 109 = .ok (.invokestatic 161, 3) := by decide +kernel
theorem dX9_taxOf_112 : decode cX9_taxOf 112 = .ok (.lastore, 1) := by decide +kernel
theorem dX9_taxOf_113 : decode cX9_taxOf 113 = .ok (.aload_n 0, 1) := by decide +kernel
theorem dX9_taxOf_114 : decode cX9_taxOf 114 = .ok (.getfield 39, 3) := by decide +kernel
theorem dX9_taxOf_117 : decode cX9_taxOf 117 = .ok (.iconst 4, 1) := by decide +kernel
theorem dX9_taxOf_118 : decode cX9_taxOf 118 = .ok (.aload_n 0, 1) := by decide +kernel
theorem dX9_taxOf_119 : decode cX9_taxOf 119 = .ok (.getfield 39, 3) := by decide +kernel
theorem dX9_taxOf_122 : decode cX9_taxOf 122 = .ok (.iconst 2, 1) := by decide +kernel
theorem dX9_taxOf_123 : decode cX9_taxOf 123 = .ok (.laload, 1) := by decide +kernel
theorem dX9_taxOf_124 : decode cX9_taxOf 124 = .ok (.aload_n 0, 1) := by decide +kernel
theorem dX9_taxOf_125 : decode cX9_taxOf 125 = .ok (.getfield 39, 3) := by decide +kernel
theorem dX9_taxOf_128 : decode cX9_taxOf 128 = .ok (.iconst 3, 1) := by decide +kernel
theorem dX9_taxOf_129 : decode cX9_taxOf 129 = .ok (.laload, 1) := by decide +kernel
theorem dX9_taxOf_130 : decode cX9_taxOf 130 = .ok (.lcmp, 1) := by decide +kernel
theorem dX9_taxOf_131 : decode cX9_taxOf 131 = .ok (.ifCond .le 12, 3) := by decide +kernel
theorem dX9_taxOf_134 : decode cX9_taxOf 134 = .ok (.aload_n 0, 1) := by decide +kernel
theorem dX9_taxOf_135 : decode cX9_taxOf 135 = .ok (.getfield 39, 3) := by decide +kernel
theorem dX9_taxOf_138 : decode cX9_taxOf 138 = .ok (.iconst 2, 1) := by decide +kernel
theorem dX9_taxOf_139 : decode cX9_taxOf 139 = .ok (.laload, 1) := by decide +kernel
theorem dX9_taxOf_140 : decode cX9_taxOf 140 = .ok (.goto 9, 3) := by decide +kernel
theorem dX9_taxOf_143 : decode cX9_taxOf 143 = .ok (.aload_n 0, 1) := by decide +kernel
theorem dX9_taxOf_144 : decode cX9_taxOf 144 = .ok (.getfield 39, 3) := by decide +kernel
theorem dX9_taxOf_147 : decode cX9_taxOf 147 = .ok (.iconst 3, 1) := by decide +kernel
theorem dX9_taxOf_148 : decode cX9_taxOf 148 = .ok (.laload, 1) := by decide +kernel
theorem dX9_taxOf_149 : decode cX9_taxOf 149 = .ok (.lastore, 1) := by decide +kernel
theorem dX9_taxOf_150 : decode cX9_taxOf 150 = .ok (.aload_n 0, 1) := by decide +kernel
theorem dX9_taxOf_151 : decode cX9_taxOf 151 = .ok (.getfield 39, 3) := by decide +kernel
theorem dX9_taxOf_154 : decode cX9_taxOf 154 = .ok (.iconst 5, 1) := by decide +kernel
theorem dX9_taxOf_155 : decode cX9_taxOf 155 = .ok (.aload_n 0, 1) := by decide +kernel
theorem dX9_taxOf_156 : decode cX9_taxOf 156 = .ok (.getfield 39, 3) := by decide +kernel
theorem dX9_taxOf_159 : decode cX9_taxOf 159 = .ok (.iconst 4, 1) := by decide +kernel
theorem dX9_taxOf_160 : decode cX9_taxOf 160 = .ok (.laload, 1) := by decide +kernel
theorem dX9_taxOf_161 : decode cX9_taxOf 161 = .ok (.aload_n 0, 1) := by decide +kernel
theorem dX9_taxOf_162 : decode cX9_taxOf 162 = .ok (.iload_n 2, 1) := by decide +kernel
theorem dX9_taxOf_163 : decode cX9_taxOf 163 = .ok (.iload 4, 2) := by decide +kernel
theorem dX9_taxOf_165 : decode cX9_taxOf 165 = .ok (.invokevirtual 169, 3) := by decide +kernel
theorem dX9_taxOf_168 : decode cX9_taxOf 168 = .ok (.ladd, 1) := by decide +kernel
theorem dX9_taxOf_169 : decode cX9_taxOf 169 = .ok (.lastore, 1) := by decide +kernel
theorem dX9_taxOf_170 : decode cX9_taxOf 170 = .ok (.aload_n 0, 1) := by decide +kernel
theorem dX9_taxOf_171 : decode cX9_taxOf 171 = .ok (.getfield 39, 3) := by decide +kernel
theorem dX9_taxOf_174 : decode cX9_taxOf 174 = .ok (.iconst 5, 1) := by decide +kernel
theorem dX9_taxOf_175 : decode cX9_taxOf 175 = .ok (.laload, 1) := by decide +kernel
theorem dX9_taxOf_176 : decode cX9_taxOf 176 = .ok (.lstore 5, 2) := by decide +kernel
theorem dX9_taxOf_178 : decode cX9_taxOf 178 = .ok (.iconst 0, 1) := by decide +kernel
theorem dX9_taxOf_179 : decode cX9_taxOf 179 = .ok (.istore 7, 2) := by decide +kernel
theorem dX9_taxOf_181 : decode cX9_taxOf 181 = .ok (.iload 7, 2) := by decide +kernel
theorem dX9_taxOf_183 : decode cX9_taxOf 183 = .ok (.aload_n 0, 1) := by decide +kernel
theorem dX9_taxOf_184 : decode cX9_taxOf 184 = .ok (.getfield 7, 3) := by decide +kernel
theorem dX9_taxOf_187 : decode cX9_taxOf 187 = .ok (.bipush 27, 2) := by decide +kernel
theorem dX9_taxOf_189 : decode cX9_taxOf 189 = .ok (.iaload, 1) := by decide +kernel
theorem dX9_taxOf_190 : decode cX9_taxOf 190 = .ok (.if_icmp .ge 113, 3) := by decide +kernel
theorem dX9_taxOf_193 : decode cX9_taxOf 193 = .ok (.aload_n 0, 1) := by decide +kernel
theorem dX9_taxOf_194 : decode cX9_taxOf 194 = .ok (.getfield 45, 3) := by decide +kernel
theorem dX9_taxOf_197 : decode cX9_taxOf 197 = .ok (.iload 7, 2) := by decide +kernel
theorem dX9_taxOf_199 : decode cX9_taxOf 199 = .ok (.aload_n 0, 1) := by decide +kernel
theorem dX9_taxOf_200 : decode cX9_taxOf 200 = .ok (.iload 7, 2) := by decide +kernel
theorem dX9_taxOf_202 : decode cX9_taxOf 202 = .ok (.iload_n 1, 1) := by decide +kernel
theorem dX9_taxOf_203 : decode cX9_taxOf 203 = .ok (.iload_n 2, 1) := by decide +kernel
theorem dX9_taxOf_204 : decode cX9_taxOf 204 = .ok (.iload_n 3, 1) := by decide +kernel
theorem dX9_taxOf_205 : decode cX9_taxOf 205 = .ok (.iload 4, 2) := by decide +kernel
theorem dX9_taxOf_207 : decode cX9_taxOf 207 = .ok (.invokevirtual 173, 3) := by decide +kernel
theorem dX9_taxOf_210 : decode cX9_taxOf 210 = .ok (.lastore, 1) := by decide +kernel
theorem dX9_taxOf_211 : decode cX9_taxOf 211 = .ok (.aload_n 0, 1) := by decide +kernel
theorem dX9_taxOf_212 : decode cX9_taxOf 212 = .ok (.getfield 45, 3) := by decide +kernel
theorem dX9_taxOf_215 : decode cX9_taxOf 215 = .ok (.iload 7, 2) := by decide +kernel
theorem dX9_taxOf_217 : decode cX9_taxOf 217 = .ok (.laload, 1) := by decide +kernel
theorem dX9_taxOf_218 : decode cX9_taxOf 218 = .ok (.aload_n 0, 1) := by decide +kernel
theorem dX9_taxOf_219 : decode cX9_taxOf 219 = .ok (.iload 7, 2) := by decide +kernel
theorem dX9_taxOf_221 : decode cX9_taxOf 221 = .ok (.iconst 0, 1) := by decide +kernel
theorem dX9_taxOf_222 : decode cX9_taxOf 222 = .ok (.invokevirtual 129, 3) := by decide +kernel
theorem dX9_taxOf_225 : decode cX9_taxOf 225 = .ok (.iconst 2, 1) := by decide +kernel
theorem dX9_taxOf_226 : decode cX9_taxOf 226 = .ok (.if_icmp .ne 13, 3) := by decide +kernel
theorem dX9_taxOf_229 : decode cX9_taxOf 229 = .ok (.aload_n 0, 1) := by decide +kernel
theorem dX9_taxOf_230 : decode cX9_taxOf 230 = .ok (.getfield 42, 3) := by decide +kernel
theorem dX9_taxOf_233 : decode cX9_taxOf 233 = .ok (.iload 7, 2) := by decide +kernel
theorem dX9_taxOf_235 : decode cX9_taxOf 235 = .ok (.laload, 1) := by decide +kernel
theorem dX9_taxOf_236 : decode cX9_taxOf 236 = .ok (.goto 4, 3) := by decide +kernel
theorem dX9_taxOf_239 : decode cX9_taxOf 239 = .ok (.lconst 0, 1) := by decide +kernel
theorem dX9_taxOf_240 : decode cX9_taxOf 240 = .ok (.ladd, 1) := by decide +kernel
theorem dX9_taxOf_241 : decode cX9_taxOf 241 = .ok (.lstore 8, 2) := by decide +kernel
theorem dX9_taxOf_243 : decode cX9_taxOf 243 = .ok (.aload_n 0, 1) := by decide +kernel
theorem dX9_taxOf_244 : decode cX9_taxOf 244 = .ok (.getfield 48, 3) := by decide +kernel
theorem dX9_taxOf_247 : decode cX9_taxOf 247 = .ok (.iload 7, 2) := by decide +kernel
theorem dX9_taxOf_249 : decode cX9_taxOf 249 = .ok (.aload_n 0, 1) := by decide +kernel
theorem dX9_taxOf_250 : decode cX9_taxOf 250 = .ok (.iload 7, 2) := by decide +kernel
theorem dX9_taxOf_252 : decode cX9_taxOf 252 = .ok (.iconst 0, 1) := by decide +kernel
theorem dX9_taxOf_253 : decode cX9_taxOf 253 = .ok (.invokevirtual 129, 3) := by decide +kernel
theorem dX9_taxOf_256 : decode cX9_taxOf 256 = .ok (.iconst 1, 1) := by decide +kernel
theorem dX9_taxOf_257 : decode cX9_taxOf 257 = .ok (.if_icmp .ne 8, 3) := by decide +kernel
theorem dX9_taxOf_260 : decode cX9_taxOf 260 = .ok (.lload 8, 2) := by decide +kernel
theorem dX9_taxOf_262 : decode cX9_taxOf 262 = .ok (.goto 13, 3) := by decide +kernel
theorem dX9_taxOf_265 : decode cX9_taxOf 265 = .ok (.lload 8, 2) := by decide +kernel
theorem dX9_taxOf_267 : decode cX9_taxOf 267 = .ok (.lload 5, 2) := by decide +kernel
theorem dX9_taxOf_269 : decode cX9_taxOf 269 = .ok (.invokestatic 157, 3) := by decide +kernel
theorem dX9_taxOf_272 : decode cX9_taxOf 272 = .ok (.invokestatic 153, 3) := by decide +kernel
theorem dX9_taxOf_275 : decode cX9_taxOf 275 = .ok (.lastore, 1) := by decide +kernel
theorem dX9_taxOf_276 : decode cX9_taxOf 276 = .ok (.lload 5, 2) := by decide +kernel
theorem dX9_taxOf_278 : decode cX9_taxOf 278 = .ok (.aload_n 0, 1) := by decide +kernel
theorem dX9_taxOf_279 : decode cX9_taxOf 279 = .ok (.getfield 48, 3) := by decide +kernel
theorem dX9_taxOf_282 : decode cX9_taxOf 282 = .ok (.iload 7, 2) := by decide +kernel
theorem dX9_taxOf_284 : decode cX9_taxOf 284 = .ok (.laload, 1) := by decide +kernel
theorem dX9_taxOf_285 : decode cX9_taxOf 285 = .ok (.lsub, 1) := by decide +kernel
theorem dX9_taxOf_286 : decode cX9_taxOf 286 = .ok (.lstore 5, 2) := by decide +kernel
theorem dX9_taxOf_288 : decode cX9_taxOf 288 = .ok (.aload_n 0, 1) := by decide +kernel
theorem dX9_taxOf_289 : decode cX9_taxOf 289 = .ok (.getfield 51, 3) := by decide +kernel
theorem dX9_taxOf_292 : decode cX9_taxOf 292 = .ok (.iload 7, 2) := by decide +kernel
theorem dX9_taxOf_294 : decode cX9_taxOf 294 = .ok (.lload 5, 2) := by decide +kernel
theorem dX9_taxOf_296 : decode cX9_taxOf 296 = .ok (.lastore, 1) := by decide +kernel
theorem dX9_taxOf_297 : decode cX9_taxOf 297 = .ok (.iinc 7 1, 3) := by decide +kernel
theorem dX9_taxOf_300 : decode cX9_taxOf 300 = .ok (.goto (-119), 3) := by decide +kernel
theorem dX9_taxOf_303 : decode cX9_taxOf 303 = .ok (.lload 5, 2) := by decide +kernel
theorem dX9_taxOf_305 : decode cX9_taxOf 305 = .ok (.lreturn, 1) := by decide +kernel
theorem c_X9_taxOf {a0 : Nat} {a1 : Int32} {a2 : Int32} {a3 : Int32} {a4 : Int32} : CWp S N d MX9_taxOf [.ref a0, .int a1, .int a2, .int a3, .int a4] I J P Q ↔ Wp S N d MX9_taxOf 0 [some (.ref a0), some (.int a1), some (.int a2), some (.int a3), some (.int a4), none, none, none, none, none] [] I J P Q := by
  rw [cwp_iff]
  exact ⟨fun h => h.2, fun h => ⟨Nat.le_of_ble_eq_true rfl, h⟩⟩
theorem e_X9_taxOf_0 {w : Nat} {x1 x2 x3 x4 x5 x6 x7 x8 x9 : Option Value} : Wp S N d MX9_taxOf 0 [some (.ref w), x1, x2, x3, x4, x5, x6, x7, x8, x9] [] I J P Q ↔ Wp S N d MX9_taxOf 1 [some (.ref w), x1, x2, x3, x4, x5, x6, x7, x8, x9] [.ref w] I J P Q := wp_lod (len := 1) rfl rfl rfl rfl dX9_taxOf_0
theorem e_X9_taxOf_1 {v0 : Nat} {x0 x1 x2 x3 x4 x5 x6 x7 x8 x9 : Option Value} : Wp S N d MX9_taxOf 1 [x0, x1, x2, x3, x4, x5, x6, x7, x8, x9] [.ref v0] I J P Q ↔ S v0 = 9 ∧ Wp S N d MX9_taxOf 4 [x0, x1, x2, x3, x4, x5, x6, x7, x8, x9] [va_rf (P v0 16)] I J P Q := wp_getf rfl rfl rfl rfl dX9_taxOf_1
theorem e_X9_taxOf_4 {v0 : Nat} {x0 x1 x2 x3 x4 x5 x6 x7 x8 x9 : Option Value} : Wp S N d MX9_taxOf 4 [x0, x1, x2, x3, x4, x5, x6, x7, x8, x9] [.ref v0] I J P Q ↔ Wp S N d MX9_taxOf 5 [x0, x1, x2, x3, x4, x5, x6, x7, x8, x9] [.int 0, .ref v0] I J P Q := wp_iconst (by decide) dX9_taxOf_4
theorem e_X9_taxOf_5 {v0 : Int32} {v1 : Nat} {x0 x1 x2 x3 x4 x5 x6 x7 x8 x9 : Option Value} : Wp S N d MX9_taxOf 5 [x0, x1, x2, x3, x4, x5, x6, x7, x8, x9] [.int v0, .ref v1] I J P Q ↔ Wp S N d MX9_taxOf 8 [x0, x1, x2, x3, x4, x5, x6, x7, x8, x9] [.long 1000000, .int v0, .ref v1] I J P Q := wp_ldc2 rfl dX9_taxOf_5
theorem e_X9_taxOf_8 {v0 : Int64} {v1 : Int32} {v2 : Nat} {w : Int32} {x0 x1 x2 x3 x5 x6 x7 x8 x9 : Option Value} : Wp S N d MX9_taxOf 8 [x0, x1, x2, x3, some (.int w), x5, x6, x7, x8, x9] [.long v0, .int v1, .ref v2] I J P Q ↔ Wp S N d MX9_taxOf 10 [x0, x1, x2, x3, some (.int w), x5, x6, x7, x8, x9] [.int w, .long v0, .int v1, .ref v2] I J P Q := wp_lod (len := 2) rfl rfl rfl rfl dX9_taxOf_8
theorem e_X9_taxOf_10 {v0 : Int32} {v1 : Int64} {v2 : Int32} {v3 : Nat} {w : Nat} {x1 x2 x3 x4 x5 x6 x7 x8 x9 : Option Value} : Wp S N d MX9_taxOf 10 [some (.ref w), x1, x2, x3, x4, x5, x6, x7, x8, x9] [.int v0, .long v1, .int v2, .ref v3] I J P Q ↔ Wp S N d MX9_taxOf 11 [some (.ref w), x1, x2, x3, x4, x5, x6, x7, x8, x9] [.ref w, .int v0, .long v1, .int v2, .ref v3] I J P Q := wp_lod (len := 1) rfl rfl rfl rfl dX9_taxOf_10
theorem e_X9_taxOf_11 {v0 : Nat} {v1 : Int32} {v2 : Int64} {v3 : Int32} {v4 : Nat} {x0 x1 x2 x3 x4 x5 x6 x7 x8 x9 : Option Value} : Wp S N d MX9_taxOf 11 [x0, x1, x2, x3, x4, x5, x6, x7, x8, x9] [.ref v0, .int v1, .long v2, .int v3, .ref v4] I J P Q ↔ S v0 = 9 ∧ Wp S N d MX9_taxOf 14 [x0, x1, x2, x3, x4, x5, x6, x7, x8, x9] [va_rf (P v0 0), .int v1, .long v2, .int v3, .ref v4] I J P Q := wp_getf rfl rfl rfl rfl dX9_taxOf_11
theorem e_X9_taxOf_14 {v0 : Nat} {v1 : Int32} {v2 : Int64} {v3 : Int32} {v4 : Nat} {x0 x1 x2 x3 x4 x5 x6 x7 x8 x9 : Option Value} : Wp S N d MX9_taxOf 14 [x0, x1, x2, x3, x4, x5, x6, x7, x8, x9] [.ref v0, .int v1, .long v2, .int v3, .ref v4] I J P Q ↔ Wp S N d MX9_taxOf 16 [x0, x1, x2, x3, x4, x5, x6, x7, x8, x9] [.int 13, .ref v0, .int v1, .long v2, .int v3, .ref v4] I J P Q := wp_bipush (by decide) dX9_taxOf_14
theorem e_X9_taxOf_16 {v0 : Int32} {v1 : Nat} {v2 : Int32} {v3 : Int64} {v4 : Int32} {v5 : Nat} {x0 x1 x2 x3 x4 x5 x6 x7 x8 x9 : Option Value} : Wp S N d MX9_taxOf 16 [x0, x1, x2, x3, x4, x5, x6, x7, x8, x9] [.int v0, .ref v1, .int v2, .long v3, .int v4, .ref v5] I J P Q ↔ (S v1 = 10 ∧ vp_in v0 (N v1)) ∧ Wp S N d MX9_taxOf 17 [x0, x1, x2, x3, x4, x5, x6, x7, x8, x9] [.int (I v1 v0.toNatClampNeg), .int v2, .long v3, .int v4, .ref v5] I J P Q := wp_ald rfl rfl dX9_taxOf_16
theorem e_X9_taxOf_17 {v0 : Int32} {v1 : Int32} {v2 : Int64} {v3 : Int32} {v4 : Nat} {x0 x1 x2 x3 x4 x5 x6 x7 x8 x9 : Option Value} : Wp S N d MX9_taxOf 17 [x0, x1, x2, x3, x4, x5, x6, x7, x8, x9] [.int v0, .int v1, .long v2, .int v3, .ref v4] I J P Q ↔ Wp S N d MX9_taxOf 18 [x0, x1, x2, x3, x4, x5, x6, x7, x8, x9] [.int (v1 * v0), .long v2, .int v3, .ref v4] I J P Q := wp_alu (len := 1) rfl rfl rfl dX9_taxOf_17
theorem e_X9_taxOf_18 {v0 : Int32} {v1 : Int64} {v2 : Int32} {v3 : Nat} {x0 x1 x2 x3 x4 x5 x6 x7 x8 x9 : Option Value} : Wp S N d MX9_taxOf 18 [x0, x1, x2, x3, x4, x5, x6, x7, x8, x9] [.int v0, .long v1, .int v2, .ref v3] I J P Q ↔ Wp S N d MX9_taxOf 19 [x0, x1, x2, x3, x4, x5, x6, x7, x8, x9] [.long v0.toInt64, .long v1, .int v2, .ref v3] I J P Q := wp_alu (len := 1) rfl rfl rfl dX9_taxOf_18
theorem e_X9_taxOf_19 {v0 : Int64} {v1 : Int64} {v2 : Int32} {v3 : Nat} {x0 x1 x2 x3 x4 x5 x6 x7 x8 x9 : Option Value} : Wp S N d MX9_taxOf 19 [x0, x1, x2, x3, x4, x5, x6, x7, x8, x9] [.long v0, .long v1, .int v2, .ref v3] I J P Q ↔ Wp S N d MX9_taxOf 20 [x0, x1, x2, x3, x4, x5, x6, x7, x8, x9] [.long (v1 * v0), .int v2, .ref v3] I J P Q := wp_alu (len := 1) rfl rfl rfl dX9_taxOf_19
theorem e_X9_taxOf_20 {v0 : Int64} {v1 : Int32} {v2 : Nat} {w : Nat} {x1 x2 x3 x4 x5 x6 x7 x8 x9 : Option Value} : Wp S N d MX9_taxOf 20 [some (.ref w), x1, x2, x3, x4, x5, x6, x7, x8, x9] [.long v0, .int v1, .ref v2] I J P Q ↔ Wp S N d MX9_taxOf 21 [some (.ref w), x1, x2, x3, x4, x5, x6, x7, x8, x9] [.ref w, .long v0, .int v1, .ref v2] I J P Q := wp_lod (len := 1) rfl rfl rfl rfl dX9_taxOf_20
theorem e_X9_taxOf_21 {v0 : Nat} {v1 : Int64} {v2 : Int32} {v3 : Nat} {x0 x1 x2 x3 x4 x5 x6 x7 x8 x9 : Option Value} : Wp S N d MX9_taxOf 21 [x0, x1, x2, x3, x4, x5, x6, x7, x8, x9] [.ref v0, .long v1, .int v2, .ref v3] I J P Q ↔ S v0 = 9 ∧ Wp S N d MX9_taxOf 24 [x0, x1, x2, x3, x4, x5, x6, x7, x8, x9] [va_rf (P v0 0), .long v1, .int v2, .ref v3] I J P Q := wp_getf rfl rfl rfl rfl dX9_taxOf_21
theorem e_X9_taxOf_24 {v0 : Nat} {v1 : Int64} {v2 : Int32} {v3 : Nat} {x0 x1 x2 x3 x4 x5 x6 x7 x8 x9 : Option Value} : Wp S N d MX9_taxOf 24 [x0, x1, x2, x3, x4, x5, x6, x7, x8, x9] [.ref v0, .long v1, .int v2, .ref v3] I J P Q ↔ Wp S N d MX9_taxOf 26 [x0, x1, x2, x3, x4, x5, x6, x7, x8, x9] [.int 15, .ref v0, .long v1, .int v2, .ref v3] I J P Q := wp_bipush (by decide) dX9_taxOf_24
theorem e_X9_taxOf_26 {v0 : Int32} {v1 : Nat} {v2 : Int64} {v3 : Int32} {v4 : Nat} {x0 x1 x2 x3 x4 x5 x6 x7 x8 x9 : Option Value} : Wp S N d MX9_taxOf 26 [x0, x1, x2, x3, x4, x5, x6, x7, x8, x9] [.int v0, .ref v1, .long v2, .int v3, .ref v4] I J P Q ↔ (S v1 = 10 ∧ vp_in v0 (N v1)) ∧ Wp S N d MX9_taxOf 27 [x0, x1, x2, x3, x4, x5, x6, x7, x8, x9] [.int (I v1 v0.toNatClampNeg), .long v2, .int v3, .ref v4] I J P Q := wp_ald rfl rfl dX9_taxOf_26
theorem e_X9_taxOf_27 {v0 : Int32} {v1 : Int64} {v2 : Int32} {v3 : Nat} {w : Int32} {x0 x1 x3 x4 x5 x6 x7 x8 x9 : Option Value} : Wp S N d MX9_taxOf 27 [x0, x1, some (.int w), x3, x4, x5, x6, x7, x8, x9] [.int v0, .long v1, .int v2, .ref v3] I J P Q ↔ Wp S N d MX9_taxOf 28 [x0, x1, some (.int w), x3, x4, x5, x6, x7, x8, x9] [.int w, .int v0, .long v1, .int v2, .ref v3] I J P Q := wp_lod (len := 1) rfl rfl rfl rfl dX9_taxOf_27
theorem e_X9_taxOf_28 {v0 : Int32} {v1 : Int32} {v2 : Int64} {v3 : Int32} {v4 : Nat} {w : Int32} {x0 x1 x2 x3 x5 x6 x7 x8 x9 : Option Value} : Wp S N d MX9_taxOf 28 [x0, x1, x2, x3, some (.int w), x5, x6, x7, x8, x9] [.int v0, .int v1, .long v2, .int v3, .ref v4] I J P Q ↔ Wp S N d MX9_taxOf 30 [x0, x1, x2, x3, some (.int w), x5, x6, x7, x8, x9] [.int w, .int v0, .int v1, .long v2, .int v3, .ref v4] I J P Q := wp_lod (len := 2) rfl rfl rfl rfl dX9_taxOf_28
theorem e_X9_taxOf_30 {v0 : Int32} {v1 : Int32} {v2 : Int32} {v3 : Int64} {v4 : Int32} {v5 : Nat} {w : Nat} {x1 x2 x3 x4 x5 x6 x7 x8 x9 : Option Value} : Wp S N d MX9_taxOf 30 [some (.ref w), x1, x2, x3, x4, x5, x6, x7, x8, x9] [.int v0, .int v1, .int v2, .long v3, .int v4, .ref v5] I J P Q ↔ Wp S N d MX9_taxOf 31 [some (.ref w), x1, x2, x3, x4, x5, x6, x7, x8, x9] [.ref w, .int v0, .int v1, .int v2, .long v3, .int v4, .ref v5] I J P Q := wp_lod (len := 1) rfl rfl rfl rfl dX9_taxOf_30
theorem e_X9_taxOf_31 {v0 : Nat} {v1 : Int32} {v2 : Int32} {v3 : Int32} {v4 : Int64} {v5 : Int32} {v6 : Nat} {x0 x1 x2 x3 x4 x5 x6 x7 x8 x9 : Option Value} : Wp S N d MX9_taxOf 31 [x0, x1, x2, x3, x4, x5, x6, x7, x8, x9] [.ref v0, .int v1, .int v2, .int v3, .long v4, .int v5, .ref v6] I J P Q ↔ S v0 = 9 ∧ Wp S N d MX9_taxOf 34 [x0, x1, x2, x3, x4, x5, x6, x7, x8, x9] [va_rf (P v0 0), .int v1, .int v2, .int v3, .long v4, .int v5, .ref v6] I J P Q := wp_getf rfl rfl rfl rfl dX9_taxOf_31
theorem e_X9_taxOf_34 {v0 : Nat} {v1 : Int32} {v2 : Int32} {v3 : Int32} {v4 : Int64} {v5 : Int32} {v6 : Nat} {x0 x1 x2 x3 x4 x5 x6 x7 x8 x9 : Option Value} : Wp S N d MX9_taxOf 34 [x0, x1, x2, x3, x4, x5, x6, x7, x8, x9] [.ref v0, .int v1, .int v2, .int v3, .long v4, .int v5, .ref v6] I J P Q ↔ Wp S N d MX9_taxOf 36 [x0, x1, x2, x3, x4, x5, x6, x7, x8, x9] [.int 14, .ref v0, .int v1, .int v2, .int v3, .long v4, .int v5, .ref v6] I J P Q := wp_bipush (by decide) dX9_taxOf_34
theorem e_X9_taxOf_36 {v0 : Int32} {v1 : Nat} {v2 : Int32} {v3 : Int32} {v4 : Int32} {v5 : Int64} {v6 : Int32} {v7 : Nat} {x0 x1 x2 x3 x4 x5 x6 x7 x8 x9 : Option Value} : Wp S N d MX9_taxOf 36 [x0, x1, x2, x3, x4, x5, x6, x7, x8, x9] [.int v0, .ref v1, .int v2, .int v3, .int v4, .long v5, .int v6, .ref v7] I J P Q ↔ (S v1 = 10 ∧ vp_in v0 (N v1)) ∧ Wp S N d MX9_taxOf 37 [x0, x1, x2, x3, x4, x5, x6, x7, x8, x9] [.int (I v1 v0.toNatClampNeg), .int v2, .int v3, .int v4, .long v5, .int v6, .ref v7] I J P Q := wp_ald rfl rfl dX9_taxOf_36
theorem e_X9_taxOf_37 {v0 : Int32} {v1 : Int32} {v2 : Int32} {v3 : Int32} {v4 : Int64} {v5 : Int32} {v6 : Nat} {x0 x1 x2 x3 x4 x5 x6 x7 x8 x9 : Option Value} : Wp S N d MX9_taxOf 37 [x0, x1, x2, x3, x4, x5, x6, x7, x8, x9] [.int v0, .int v1, .int v2, .int v3, .long v4, .int v5, .ref v6] I J P Q ↔ Wp S N d MX9_taxOf 38 [x0, x1, x2, x3, x4, x5, x6, x7, x8, x9] [.int (v1 * v0), .int v2, .int v3, .long v4, .int v5, .ref v6] I J P Q := wp_alu (len := 1) rfl rfl rfl dX9_taxOf_37
theorem e_X9_taxOf_38 {v0 : Int32} {v1 : Int32} {v2 : Int32} {v3 : Int64} {v4 : Int32} {v5 : Nat} {x0 x1 x2 x3 x4 x5 x6 x7 x8 x9 : Option Value} : Wp S N (d + 1) MX9_taxOf 38 [x0, x1, x2, x3, x4, x5, x6, x7, x8, x9] [.int v0, .int v1, .int v2, .long v3, .int v4, .ref v5] I J P Q ↔ CWp S N d MX9_above [.int v2, .int v1, .int v0] I J P (fun r I1 J1 P1 => Wp S N (d + 1) MX9_taxOf 41 [x0, x1, x2, x3, x4, x5, x6, x7, x8, x9] (r.toList ++ [.long v3, .int v4, .ref v5]) I1 J1 P1 Q) := wp_callS (M' := MX9_above) (As := [.int v2, .int v1, .int v0]) rfl rfl rfl rfl (Nat.le_of_ble_eq_true rfl) dX9_taxOf_38
theorem e_X9_taxOf_41 {v0 : Int64} {v1 : Int64} {v2 : Int32} {v3 : Nat} {x0 x1 x2 x3 x4 x5 x6 x7 x8 x9 : Option Value} : Wp S N d MX9_taxOf 41 [x0, x1, x2, x3, x4, x5, x6, x7, x8, x9] [.long v0, .long v1, .int v2, .ref v3] I J P Q ↔ Wp S N d MX9_taxOf 42 [x0, x1, x2, x3, x4, x5, x6, x7, x8, x9] [.long (v1 - v0), .int v2, .ref v3] I J P Q := wp_alu (len := 1) rfl rfl rfl dX9_taxOf_41
theorem e_X9_taxOf_42 {v0 : Int64} {v1 : Int32} {v2 : Nat} {x0 x1 x2 x3 x4 x5 x6 x7 x8 x9 : Option Value} : Wp S N (d + 1) MX9_taxOf 42 [x0, x1, x2, x3, x4, x5, x6, x7, x8, x9] [.long v0, .int v1, .ref v2] I J P Q ↔ CWp S N d MX9_positive [.long v0] I J P (fun r I1 J1 P1 => Wp S N (d + 1) MX9_taxOf 45 [x0, x1, x2, x3, x4, x5, x6, x7, x8, x9] (r.toList ++ [.int v1, .ref v2]) I1 J1 P1 Q) := wp_callS (M' := MX9_positive) (As := [.long v0]) rfl rfl rfl rfl (Nat.le_of_ble_eq_true rfl) dX9_taxOf_42
theorem e_X9_taxOf_45 {v0 : Int64} {v1 : Int32} {v2 : Nat} {x0 x1 x2 x3 x4 x5 x6 x7 x8 x9 : Option Value} : Wp S N d MX9_taxOf 45 [x0, x1, x2, x3, x4, x5, x6, x7, x8, x9] [.long v0, .int v1, .ref v2] I J P Q ↔ (S v2 = 11 ∧ vp_in v1 (N v2)) ∧ Wp S N d MX9_taxOf 46 [x0, x1, x2, x3, x4, x5, x6, x7, x8, x9] [] I (u2 J v2 v1.toNatClampNeg v0) P Q := wp_ast rfl rfl dX9_taxOf_45
theorem e_X9_taxOf_46 {w : Nat} {x1 x2 x3 x4 x5 x6 x7 x8 x9 : Option Value} : Wp S N d MX9_taxOf 46 [some (.ref w), x1, x2, x3, x4, x5, x6, x7, x8, x9] [] I J P Q ↔ Wp S N d MX9_taxOf 47 [some (.ref w), x1, x2, x3, x4, x5, x6, x7, x8, x9] [.ref w] I J P Q := wp_lod (len := 1) rfl rfl rfl rfl dX9_taxOf_46
theorem e_X9_taxOf_47 {v0 : Nat} {x0 x1 x2 x3 x4 x5 x6 x7 x8 x9 : Option Value} : Wp S N d MX9_taxOf 47 [x0, x1, x2, x3, x4, x5, x6, x7, x8, x9] [.ref v0] I J P Q ↔ S v0 = 9 ∧ Wp S N d MX9_taxOf 50 [x0, x1, x2, x3, x4, x5, x6, x7, x8, x9] [va_rf (P v0 16)] I J P Q := wp_getf rfl rfl rfl rfl dX9_taxOf_47
theorem e_X9_taxOf_50 {v0 : Nat} {x0 x1 x2 x3 x4 x5 x6 x7 x8 x9 : Option Value} : Wp S N d MX9_taxOf 50 [x0, x1, x2, x3, x4, x5, x6, x7, x8, x9] [.ref v0] I J P Q ↔ Wp S N d MX9_taxOf 51 [x0, x1, x2, x3, x4, x5, x6, x7, x8, x9] [.int 1, .ref v0] I J P Q := wp_iconst (by decide) dX9_taxOf_50
theorem e_X9_taxOf_51 {v0 : Int32} {v1 : Nat} {x0 x1 x2 x3 x4 x5 x6 x7 x8 x9 : Option Value} : Wp S N d MX9_taxOf 51 [x0, x1, x2, x3, x4, x5, x6, x7, x8, x9] [.int v0, .ref v1] I J P Q ↔ Wp S N d MX9_taxOf 54 [x0, x1, x2, x3, x4, x5, x6, x7, x8, x9] [.long 1000000, .int v0, .ref v1] I J P Q := wp_ldc2 rfl dX9_taxOf_51
theorem e_X9_taxOf_54 {v0 : Int64} {v1 : Int32} {v2 : Nat} {w : Int32} {x0 x1 x3 x4 x5 x6 x7 x8 x9 : Option Value} : Wp S N d MX9_taxOf 54 [x0, x1, some (.int w), x3, x4, x5, x6, x7, x8, x9] [.long v0, .int v1, .ref v2] I J P Q ↔ Wp S N d MX9_taxOf 55 [x0, x1, some (.int w), x3, x4, x5, x6, x7, x8, x9] [.int w, .long v0, .int v1, .ref v2] I J P Q := wp_lod (len := 1) rfl rfl rfl rfl dX9_taxOf_54
theorem e_X9_taxOf_55 {v0 : Int32} {v1 : Int64} {v2 : Int32} {v3 : Nat} {x0 x1 x2 x3 x4 x5 x6 x7 x8 x9 : Option Value} : Wp S N d MX9_taxOf 55 [x0, x1, x2, x3, x4, x5, x6, x7, x8, x9] [.int v0, .long v1, .int v2, .ref v3] I J P Q ↔ Wp S N d MX9_taxOf 56 [x0, x1, x2, x3, x4, x5, x6, x7, x8, x9] [.long v0.toInt64, .long v1, .int v2, .ref v3] I J P Q := wp_alu (len := 1) rfl rfl rfl dX9_taxOf_55
theorem e_X9_taxOf_56 {v0 : Int64} {v1 : Int64} {v2 : Int32} {v3 : Nat} {x0 x1 x2 x3 x4 x5 x6 x7 x8 x9 : Option Value} : Wp S N d MX9_taxOf 56 [x0, x1, x2, x3, x4, x5, x6, x7, x8, x9] [.long v0, .long v1, .int v2, .ref v3] I J P Q ↔ Wp S N d MX9_taxOf 57 [x0, x1, x2, x3, x4, x5, x6, x7, x8, x9] [.long (v1 * v0), .int v2, .ref v3] I J P Q := wp_alu (len := 1) rfl rfl rfl dX9_taxOf_56
theorem e_X9_taxOf_57 {v0 : Int64} {v1 : Int32} {v2 : Nat} {w : Nat} {x1 x2 x3 x4 x5 x6 x7 x8 x9 : Option Value} : Wp S N d MX9_taxOf 57 [some (.ref w), x1, x2, x3, x4, x5, x6, x7, x8, x9] [.long v0, .int v1, .ref v2] I J P Q ↔ Wp S N d MX9_taxOf 58 [some (.ref w), x1, x2, x3, x4, x5, x6, x7, x8, x9] [.ref w, .long v0, .int v1, .ref v2] I J P Q := wp_lod (len := 1) rfl rfl rfl rfl dX9_taxOf_57
theorem e_X9_taxOf_58 {v0 : Nat} {v1 : Int64} {v2 : Int32} {v3 : Nat} {x0 x1 x2 x3 x4 x5 x6 x7 x8 x9 : Option Value} : Wp S N d MX9_taxOf 58 [x0, x1, x2, x3, x4, x5, x6, x7, x8, x9] [.ref v0, .long v1, .int v2, .ref v3] I J P Q ↔ S v0 = 9 ∧ Wp S N d MX9_taxOf 61 [x0, x1, x2, x3, x4, x5, x6, x7, x8, x9] [va_rf (P v0 16), .long v1, .int v2, .ref v3] I J P Q := wp_getf rfl rfl rfl rfl dX9_taxOf_58
theorem e_X9_taxOf_61 {v0 : Nat} {v1 : Int64} {v2 : Int32} {v3 : Nat} {x0 x1 x2 x3 x4 x5 x6 x7 x8 x9 : Option Value} : Wp S N d MX9_taxOf 61 [x0, x1, x2, x3, x4, x5, x6, x7, x8, x9] [.ref v0, .long v1, .int v2, .ref v3] I J P Q ↔ Wp S N d MX9_taxOf 62 [x0, x1, x2, x3, x4, x5, x6, x7, x8, x9] [.int 0, .ref v0, .long v1, .int v2, .ref v3] I J P Q := wp_iconst (by decide) dX9_taxOf_61
theorem e_X9_taxOf_62 {v0 : Int32} {v1 : Nat} {v2 : Int64} {v3 : Int32} {v4 : Nat} {x0 x1 x2 x3 x4 x5 x6 x7 x8 x9 : Option Value} : Wp S N d MX9_taxOf 62 [x0, x1, x2, x3, x4, x5, x6, x7, x8, x9] [.int v0, .ref v1, .long v2, .int v3, .ref v4] I J P Q ↔ (S v1 = 11 ∧ vp_in v0 (N v1)) ∧ Wp S N d MX9_taxOf 63 [x0, x1, x2, x3, x4, x5, x6, x7, x8, x9] [.long (J v1 v0.toNatClampNeg), .long v2, .int v3, .ref v4] I J P Q := wp_ald rfl rfl dX9_taxOf_62
theorem e_X9_taxOf_63 {v0 : Int64} {v1 : Int64} {v2 : Int32} {v3 : Nat} {x0 x1 x2 x3 x4 x5 x6 x7 x8 x9 : Option Value} : Wp S N d MX9_taxOf 63 [x0, x1, x2, x3, x4, x5, x6, x7, x8, x9] [.long v0, .long v1, .int v2, .ref v3] I J P Q ↔ Wp S N d MX9_taxOf 64 [x0, x1, x2, x3, x4, x5, x6, x7, x8, x9] [.long (v1 - v0), .int v2, .ref v3] I J P Q := wp_alu (len := 1) rfl rfl rfl dX9_taxOf_63
theorem e_X9_taxOf_64 {v0 : Int64} {v1 : Int32} {v2 : Nat} {x0 x1 x2 x3 x4 x5 x6 x7 x8 x9 : Option Value} : Wp S N (d + 1) MX9_taxOf 64 [x0, x1, x2, x3, x4, x5, x6, x7, x8, x9] [.long v0, .int v1, .ref v2] I J P Q ↔ CWp S N d MX9_positive [.long v0] I J P (fun r I1 J1 P1 => Wp S N (d + 1) MX9_taxOf 67 [x0, x1, x2, x3, x4, x5, x6, x7, x8, x9] (r.toList ++ [.int v1, .ref v2]) I1 J1 P1 Q) := wp_callS (M' := MX9_positive) (As := [.long v0]) rfl rfl rfl rfl (Nat.le_of_ble_eq_true rfl) dX9_taxOf_64
theorem e_X9_taxOf_67 {v0 : Int64} {v1 : Int32} {v2 : Nat} {x0 x1 x2 x3 x4 x5 x6 x7 x8 x9 : Option Value} : Wp S N d MX9_taxOf 67 [x0, x1, x2, x3, x4, x5, x6, x7, x8, x9] [.long v0, .int v1, .ref v2] I J P Q ↔ (S v2 = 11 ∧ vp_in v1 (N v2)) ∧ Wp S N d MX9_taxOf 68 [x0, x1, x2, x3, x4, x5, x6, x7, x8, x9] [] I (u2 J v2 v1.toNatClampNeg v0) P Q := wp_ast rfl rfl dX9_taxOf_67
theorem e_X9_taxOf_68 {w : Nat} {x1 x2 x3 x4 x5 x6 x7 x8 x9 : Option Value} : Wp S N d MX9_taxOf 68 [some (.ref w), x1, x2, x3, x4, x5, x6, x7, x8, x9] [] I J P Q ↔ Wp S N d MX9_taxOf 69 [some (.ref w), x1, x2, x3, x4, x5, x6, x7, x8, x9] [.ref w] I J P Q := wp_lod (len := 1) rfl rfl rfl rfl dX9_taxOf_68
theorem e_X9_taxOf_69 {v0 : Nat} {x0 x1 x2 x3 x4 x5 x6 x7 x8 x9 : Option Value} : Wp S N d MX9_taxOf 69 [x0, x1, x2, x3, x4, x5, x6, x7, x8, x9] [.ref v0] I J P Q ↔ S v0 = 9 ∧ Wp S N d MX9_taxOf 72 [x0, x1, x2, x3, x4, x5, x6, x7, x8, x9] [va_rf (P v0 16)] I J P Q := wp_getf rfl rfl rfl rfl dX9_taxOf_69
theorem e_X9_taxOf_72 {v0 : Nat} {x0 x1 x2 x3 x4 x5 x6 x7 x8 x9 : Option Value} : Wp S N d MX9_taxOf 72 [x0, x1, x2, x3, x4, x5, x6, x7, x8, x9] [.ref v0] I J P Q ↔ Wp S N d MX9_taxOf 73 [x0, x1, x2, x3, x4, x5, x6, x7, x8, x9] [.int 2, .ref v0] I J P Q := wp_iconst (by decide) dX9_taxOf_72
theorem e_X9_taxOf_73 {v0 : Int32} {v1 : Nat} {w : Nat} {x1 x2 x3 x4 x5 x6 x7 x8 x9 : Option Value} : Wp S N d MX9_taxOf 73 [some (.ref w), x1, x2, x3, x4, x5, x6, x7, x8, x9] [.int v0, .ref v1] I J P Q ↔ Wp S N d MX9_taxOf 74 [some (.ref w), x1, x2, x3, x4, x5, x6, x7, x8, x9] [.ref w, .int v0, .ref v1] I J P Q := wp_lod (len := 1) rfl rfl rfl rfl dX9_taxOf_73
theorem e_X9_taxOf_74 {v0 : Nat} {v1 : Int32} {v2 : Nat} {w : Nat} {x1 x2 x3 x4 x5 x6 x7 x8 x9 : Option Value} : Wp S N d MX9_taxOf 74 [some (.ref w), x1, x2, x3, x4, x5, x6, x7, x8, x9] [.ref v0, .int v1, .ref v2] I J P Q ↔ Wp S N d MX9_taxOf 75 [some (.ref w), x1, x2, x3, x4, x5, x6, x7, x8, x9] [.ref w, .ref v0, .int v1, .ref v2] I J P Q := wp_lod (len := 1) rfl rfl rfl rfl dX9_taxOf_74
theorem e_X9_taxOf_75 {v0 : Nat} {v1 : Nat} {v2 : Int32} {v3 : Nat} {x0 x1 x2 x3 x4 x5 x6 x7 x8 x9 : Option Value} : Wp S N d MX9_taxOf 75 [x0, x1, x2, x3, x4, x5, x6, x7, x8, x9] [.ref v0, .ref v1, .int v2, .ref v3] I J P Q ↔ S v0 = 9 ∧ Wp S N d MX9_taxOf 78 [x0, x1, x2, x3, x4, x5, x6, x7, x8, x9] [va_rf (P v0 16), .ref v1, .int v2, .ref v3] I J P Q := wp_getf rfl rfl rfl rfl dX9_taxOf_75
theorem e_X9_taxOf_78 {v0 : Nat} {v1 : Nat} {v2 : Int32} {v3 : Nat} {x0 x1 x2 x3 x4 x5 x6 x7 x8 x9 : Option Value} : Wp S N d MX9_taxOf 78 [x0, x1, x2, x3, x4, x5, x6, x7, x8, x9] [.ref v0, .ref v1, .int v2, .ref v3] I J P Q ↔ Wp S N d MX9_taxOf 79 [x0, x1, x2, x3, x4, x5, x6, x7, x8, x9] [.int 1, .ref v0, .ref v1, .int v2, .ref v3] I J P Q := wp_iconst (by decide) dX9_taxOf_78
theorem e_X9_taxOf_79 {v0 : Int32} {v1 : Nat} {v2 : Nat} {v3 : Int32} {v4 : Nat} {x0 x1 x2 x3 x4 x5 x6 x7 x8 x9 : Option Value} : Wp S N d MX9_taxOf 79 [x0, x1, x2, x3, x4, x5, x6, x7, x8, x9] [.int v0, .ref v1, .ref v2, .int v3, .ref v4] I J P Q ↔ (S v1 = 11 ∧ vp_in v0 (N v1)) ∧ Wp S N d MX9_taxOf 80 [x0, x1, x2, x3, x4, x5, x6, x7, x8, x9] [.long (J v1 v0.toNatClampNeg), .ref v2, .int v3, .ref v4] I J P Q := wp_ald rfl rfl dX9_taxOf_79
theorem e_X9_taxOf_80 {v0 : Int64} {v1 : Nat} {v2 : Int32} {v3 : Nat} {w : Int32} {x0 x1 x2 x3 x5 x6 x7 x8 x9 : Option Value} : Wp S N d MX9_taxOf 80 [x0, x1, x2, x3, some (.int w), x5, x6, x7, x8, x9] [.long v0, .ref v1, .int v2, .ref v3] I J P Q ↔ Wp S N d MX9_taxOf 82 [x0, x1, x2, x3, some (.int w), x5, x6, x7, x8, x9] [.int w, .long v0, .ref v1, .int v2, .ref v3] I J P Q := wp_lod (len := 2) rfl rfl rfl rfl dX9_taxOf_80
theorem e_X9_taxOf_82 {v0 : Int32} {v1 : Int64} {v2 : Nat} {v3 : Int32} {v4 : Nat} {x0 x1 x2 x3 x4 x5 x6 x7 x8 x9 : Option Value} : Wp S N (d + 1) MX9_taxOf 82 [x0, x1, x2, x3, x4, x5, x6, x7, x8, x9] [.int v0, .long v1, .ref v2, .int v3, .ref v4] I J P Q ↔ S v2 = 9 ∧ CWp S N d MX9_scheduled [.ref v2, .long v1, .int v0] I J P (fun r I1 J1 P1 => Wp S N (d + 1) MX9_taxOf 85 [x0, x1, x2, x3, x4, x5, x6, x7, x8, x9] (r.toList ++ [.int v3, .ref v4]) I1 J1 P1 Q) := wp_callV (M' := MX9_scheduled) (As := [.long v1, .int v0]) rfl rfl rfl rfl (by decide) (Nat.le_of_ble_eq_true rfl) dX9_taxOf_82
theorem e_X9_taxOf_85 {v0 : Int64} {v1 : Int32} {v2 : Nat} {x0 x1 x2 x3 x4 x5 x6 x7 x8 x9 : Option Value} : Wp S N d MX9_taxOf 85 [x0, x1, x2, x3, x4, x5, x6, x7, x8, x9] [.long v0, .int v1, .ref v2] I J P Q ↔ (S v2 = 11 ∧ vp_in v1 (N v2)) ∧ Wp S N d MX9_taxOf 86 [x0, x1, x2, x3, x4, x5, x6, x7, x8, x9] [] I (u2 J v2 v1.toNatClampNeg v0) P Q := wp_ast rfl rfl dX9_taxOf_85
theorem e_X9_taxOf_86 {w : Nat} {x1 x2 x3 x4 x5 x6 x7 x8 x9 : Option Value} : Wp S N d MX9_taxOf 86 [some (.ref w), x1, x2, x3, x4, x5, x6, x7, x8, x9] [] I J P Q ↔ Wp S N d MX9_taxOf 87 [some (.ref w), x1, x2, x3, x4, x5, x6, x7, x8, x9] [.ref w] I J P Q := wp_lod (len := 1) rfl rfl rfl rfl dX9_taxOf_86
theorem e_X9_taxOf_87 {v0 : Nat} {x0 x1 x2 x3 x4 x5 x6 x7 x8 x9 : Option Value} : Wp S N d MX9_taxOf 87 [x0, x1, x2, x3, x4, x5, x6, x7, x8, x9] [.ref v0] I J P Q ↔ S v0 = 9 ∧ Wp S N d MX9_taxOf 90 [x0, x1, x2, x3, x4, x5, x6, x7, x8, x9] [va_rf (P v0 16)] I J P Q := wp_getf rfl rfl rfl rfl dX9_taxOf_87
theorem e_X9_taxOf_90 {v0 : Nat} {x0 x1 x2 x3 x4 x5 x6 x7 x8 x9 : Option Value} : Wp S N d MX9_taxOf 90 [x0, x1, x2, x3, x4, x5, x6, x7, x8, x9] [.ref v0] I J P Q ↔ Wp S N d MX9_taxOf 91 [x0, x1, x2, x3, x4, x5, x6, x7, x8, x9] [.int 3, .ref v0] I J P Q := wp_iconst (by decide) dX9_taxOf_90
theorem e_X9_taxOf_91 {v0 : Int32} {v1 : Nat} {w : Nat} {x1 x2 x3 x4 x5 x6 x7 x8 x9 : Option Value} : Wp S N d MX9_taxOf 91 [some (.ref w), x1, x2, x3, x4, x5, x6, x7, x8, x9] [.int v0, .ref v1] I J P Q ↔ Wp S N d MX9_taxOf 92 [some (.ref w), x1, x2, x3, x4, x5, x6, x7, x8, x9] [.ref w, .int v0, .ref v1] I J P Q := wp_lod (len := 1) rfl rfl rfl rfl dX9_taxOf_91
theorem e_X9_taxOf_92 {v0 : Nat} {v1 : Int32} {v2 : Nat} {x0 x1 x2 x3 x4 x5 x6 x7 x8 x9 : Option Value} : Wp S N d MX9_taxOf 92 [x0, x1, x2, x3, x4, x5, x6, x7, x8, x9] [.ref v0, .int v1, .ref v2] I J P Q ↔ S v0 = 9 ∧ Wp S N d MX9_taxOf 95 [x0, x1, x2, x3, x4, x5, x6, x7, x8, x9] [va_rf (P v0 0), .int v1, .ref v2] I J P Q := wp_getf rfl rfl rfl rfl dX9_taxOf_92
theorem e_X9_taxOf_95 {v0 : Nat} {v1 : Int32} {v2 : Nat} {x0 x1 x2 x3 x4 x5 x6 x7 x8 x9 : Option Value} : Wp S N d MX9_taxOf 95 [x0, x1, x2, x3, x4, x5, x6, x7, x8, x9] [.ref v0, .int v1, .ref v2] I J P Q ↔ Wp S N d MX9_taxOf 97 [x0, x1, x2, x3, x4, x5, x6, x7, x8, x9] [.int 17, .ref v0, .int v1, .ref v2] I J P Q := wp_bipush (by decide) dX9_taxOf_95
theorem e_X9_taxOf_97 {v0 : Int32} {v1 : Nat} {v2 : Int32} {v3 : Nat} {x0 x1 x2 x3 x4 x5 x6 x7 x8 x9 : Option Value} : Wp S N d MX9_taxOf 97 [x0, x1, x2, x3, x4, x5, x6, x7, x8, x9] [.int v0, .ref v1, .int v2, .ref v3] I J P Q ↔ (S v1 = 10 ∧ vp_in v0 (N v1)) ∧ Wp S N d MX9_taxOf 98 [x0, x1, x2, x3, x4, x5, x6, x7, x8, x9] [.int (I v1 v0.toNatClampNeg), .int v2, .ref v3] I J P Q := wp_ald rfl rfl dX9_taxOf_97
theorem e_X9_taxOf_98 {v0 : Int32} {v1 : Int32} {v2 : Nat} {w : Int32} {x0 x1 x3 x4 x5 x6 x7 x8 x9 : Option Value} : Wp S N d MX9_taxOf 98 [x0, x1, some (.int w), x3, x4, x5, x6, x7, x8, x9] [.int v0, .int v1, .ref v2] I J P Q ↔ Wp S N d MX9_taxOf 99 [x0, x1, some (.int w), x3, x4, x5, x6, x7, x8, x9] [.int w, .int v0, .int v1, .ref v2] I J P Q := wp_lod (len := 1) rfl rfl rfl rfl dX9_taxOf_98
theorem e_X9_taxOf_99 {v0 : Int32} {v1 : Int32} {v2 : Int32} {v3 : Nat} {w : Int32} {x0 x1 x2 x3 x5 x6 x7 x8 x9 : Option Value} : Wp S N d MX9_taxOf 99 [x0, x1, x2, x3, some (.int w), x5, x6, x7, x8, x9] [.int v0, .int v1, .int v2, .ref v3] I J P Q ↔ Wp S N d MX9_taxOf 101 [x0, x1, x2, x3, some (.int w), x5, x6, x7, x8, x9] [.int w, .int v0, .int v1, .int v2, .ref v3] I J P Q := wp_lod (len := 2) rfl rfl rfl rfl dX9_taxOf_99
theorem e_X9_taxOf_101 {v0 : Int32} {v1 : Int32} {v2 : Int32} {v3 : Int32} {v4 : Nat} {w : Nat} {x1 x2 x3 x4 x5 x6 x7 x8 x9 : Option Value} : Wp S N d MX9_taxOf 101 [some (.ref w), x1, x2, x3, x4, x5, x6, x7, x8, x9] [.int v0, .int v1, .int v2, .int v3, .ref v4] I J P Q ↔ Wp S N d MX9_taxOf 102 [some (.ref w), x1, x2, x3, x4, x5, x6, x7, x8, x9] [.ref w, .int v0, .int v1, .int v2, .int v3, .ref v4] I J P Q := wp_lod (len := 1) rfl rfl rfl rfl dX9_taxOf_101
theorem e_X9_taxOf_102 {v0 : Nat} {v1 : Int32} {v2 : Int32} {v3 : Int32} {v4 : Int32} {v5 : Nat} {x0 x1 x2 x3 x4 x5 x6 x7 x8 x9 : Option Value} : Wp S N d MX9_taxOf 102 [x0, x1, x2, x3, x4, x5, x6, x7, x8, x9] [.ref v0, .int v1, .int v2, .int v3, .int v4, .ref v5] I J P Q ↔ S v0 = 9 ∧ Wp S N d MX9_taxOf 105 [x0, x1, x2, x3, x4, x5, x6, x7, x8, x9] [va_rf (P v0 0), .int v1, .int v2, .int v3, .int v4, .ref v5] I J P Q := wp_getf rfl rfl rfl rfl dX9_taxOf_102
theorem e_X9_taxOf_105 {v0 : Nat} {v1 : Int32} {v2 : Int32} {v3 : Int32} {v4 : Int32} {v5 : Nat} {x0 x1 x2 x3 x4 x5 x6 x7 x8 x9 : Option Value} : Wp S N d MX9_taxOf 105 [x0, x1, x2, x3, x4, x5, x6, x7, x8, x9] [.ref v0, .int v1, .int v2, .int v3, .int v4, .ref v5] I J P Q ↔ Wp S N d MX9_taxOf 107 [x0, x1, x2, x3, x4, x5, x6, x7, x8, x9] [.int 16, .ref v0, .int v1, .int v2, .int v3, .int v4, .ref v5] I J P Q := wp_bipush (by decide) dX9_taxOf_105
theorem e_X9_taxOf_107 {v0 : Int32} {v1 : Nat} {v2 : Int32} {v3 : Int32} {v4 : Int32} {v5 : Int32} {v6 : Nat} {x0 x1 x2 x3 x4 x5 x6 x7 x8 x9 : Option Value} : Wp S N d MX9_taxOf 107 [x0, x1, x2, x3, x4, x5, x6, x7, x8, x9] [.int v0, .ref v1, .int v2, .int v3, .int v4, .int v5, .ref v6] I J P Q ↔ (S v1 = 10 ∧ vp_in v0 (N v1)) ∧ Wp S N d MX9_taxOf 108 [x0, x1, x2, x3, x4, x5, x6, x7, x8, x9] [.int (I v1 v0.toNatClampNeg), .int v2, .int v3, .int v4, .int v5, .ref v6] I J P Q := wp_ald rfl rfl dX9_taxOf_107
theorem e_X9_taxOf_108 {v0 : Int32} {v1 : Int32} {v2 : Int32} {v3 : Int32} {v4 : Int32} {v5 : Nat} {x0 x1 x2 x3 x4 x5 x6 x7 x8 x9 : Option Value} : Wp S N d MX9_taxOf 108 [x0, x1, x2, x3, x4, x5, x6, x7, x8, x9] [.int v0, .int v1, .int v2, .int v3, .int v4, .ref v5] I J P Q ↔ Wp S N d MX9_taxOf 109 [x0, x1, x2, x3, x4, x5, x6, x7, x8, x9] [.int (v1 * v0), .int v2, .int v3, .int v4, .ref v5] I J P Q := wp_alu (len := 1) rfl rfl rfl dX9_taxOf_108
theorem e_X9_taxOf_109 {v0 : Int32} {v1 : Int32} {v2 : Int32} {v3 : Int32} {v4 : Nat} {x0 x1 x2 x3 x4 x5 x6 x7 x8 x9 : Option Value} : Wp S N (d + 1) MX9_taxOf 109 [x0, x1, x2, x3, x4, x5, x6, x7, x8, x9] [.int v0, .int v1, .int v2, .int v3, .ref v4] I J P Q ↔ CWp S N d MX9_above [.int v2, .int v1, .int v0] I J P (fun r I1 J1 P1 => Wp S N (d + 1) MX9_taxOf 112 [x0, x1, x2, x3, x4, x5, x6, x7, x8, x9] (r.toList ++ [.int v3, .ref v4]) I1 J1 P1 Q) := wp_callS (M' := MX9_above) (As := [.int v2, .int v1, .int v0]) rfl rfl rfl rfl (Nat.le_of_ble_eq_true rfl) dX9_taxOf_109
theorem e_X9_taxOf_112 {v0 : Int64} {v1 : Int32} {v2 : Nat} {x0 x1 x2 x3 x4 x5 x6 x7 x8 x9 : Option Value} : Wp S N d MX9_taxOf 112 [x0, x1, x2, x3, x4, x5, x6, x7, x8, x9] [.long v0, .int v1, .ref v2] I J P Q ↔ (S v2 = 11 ∧ vp_in v1 (N v2)) ∧ Wp S N d MX9_taxOf 113 [x0, x1, x2, x3, x4, x5, x6, x7, x8, x9] [] I (u2 J v2 v1.toNatClampNeg v0) P Q := wp_ast rfl rfl dX9_taxOf_112
theorem e_X9_taxOf_113 {w : Nat} {x1 x2 x3 x4 x5 x6 x7 x8 x9 : Option Value} : Wp S N d MX9_taxOf 113 [some (.ref w), x1, x2, x3, x4, x5, x6, x7, x8, x9] [] I J P Q ↔ Wp S N d MX9_taxOf 114 [some (.ref w), x1, x2, x3, x4, x5, x6, x7, x8, x9] [.ref w] I J P Q := wp_lod (len := 1) rfl rfl rfl rfl dX9_taxOf_113
theorem e_X9_taxOf_114 {v0 : Nat} {x0 x1 x2 x3 x4 x5 x6 x7 x8 x9 : Option Value} : Wp S N d MX9_taxOf 114 [x0, x1, x2, x3, x4, x5, x6, x7, x8, x9] [.ref v0] I J P Q ↔ S v0 = 9 ∧ Wp S N d MX9_taxOf 117 [x0, x1, x2, x3, x4, x5, x6, x7, x8, x9] [va_rf (P v0 16)] I J P Q := wp_getf rfl rfl rfl rfl dX9_taxOf_114
theorem e_X9_taxOf_117 {v0 : Nat} {x0 x1 x2 x3 x4 x5 x6 x7 x8 x9 : Option Value} : Wp S N d MX9_taxOf 117 [x0, x1, x2, x3, x4, x5, x6, x7, x8, x9] [.ref v0] I J P Q ↔ Wp S N d MX9_taxOf 118 [x0, x1, x2, x3, x4, x5, x6, x7, x8, x9] [.int 4, .ref v0] I J P Q := wp_iconst (by decide) dX9_taxOf_117
theorem e_X9_taxOf_118 {v0 : Int32} {v1 : Nat} {w : Nat} {x1 x2 x3 x4 x5 x6 x7 x8 x9 : Option Value} : Wp S N d MX9_taxOf 118 [some (.ref w), x1, x2, x3, x4, x5, x6, x7, x8, x9] [.int v0, .ref v1] I J P Q ↔ Wp S N d MX9_taxOf 119 [some (.ref w), x1, x2, x3, x4, x5, x6, x7, x8, x9] [.ref w, .int v0, .ref v1] I J P Q := wp_lod (len := 1) rfl rfl rfl rfl dX9_taxOf_118
theorem e_X9_taxOf_119 {v0 : Nat} {v1 : Int32} {v2 : Nat} {x0 x1 x2 x3 x4 x5 x6 x7 x8 x9 : Option Value} : Wp S N d MX9_taxOf 119 [x0, x1, x2, x3, x4, x5, x6, x7, x8, x9] [.ref v0, .int v1, .ref v2] I J P Q ↔ S v0 = 9 ∧ Wp S N d MX9_taxOf 122 [x0, x1, x2, x3, x4, x5, x6, x7, x8, x9] [va_rf (P v0 16), .int v1, .ref v2] I J P Q := wp_getf rfl rfl rfl rfl dX9_taxOf_119
theorem e_X9_taxOf_122 {v0 : Nat} {v1 : Int32} {v2 : Nat} {x0 x1 x2 x3 x4 x5 x6 x7 x8 x9 : Option Value} : Wp S N d MX9_taxOf 122 [x0, x1, x2, x3, x4, x5, x6, x7, x8, x9] [.ref v0, .int v1, .ref v2] I J P Q ↔ Wp S N d MX9_taxOf 123 [x0, x1, x2, x3, x4, x5, x6, x7, x8, x9] [.int 2, .ref v0, .int v1, .ref v2] I J P Q := wp_iconst (by decide) dX9_taxOf_122
theorem e_X9_taxOf_123 {v0 : Int32} {v1 : Nat} {v2 : Int32} {v3 : Nat} {x0 x1 x2 x3 x4 x5 x6 x7 x8 x9 : Option Value} : Wp S N d MX9_taxOf 123 [x0, x1, x2, x3, x4, x5, x6, x7, x8, x9] [.int v0, .ref v1, .int v2, .ref v3] I J P Q ↔ (S v1 = 11 ∧ vp_in v0 (N v1)) ∧ Wp S N d MX9_taxOf 124 [x0, x1, x2, x3, x4, x5, x6, x7, x8, x9] [.long (J v1 v0.toNatClampNeg), .int v2, .ref v3] I J P Q := wp_ald rfl rfl dX9_taxOf_123
theorem e_X9_taxOf_124 {v0 : Int64} {v1 : Int32} {v2 : Nat} {w : Nat} {x1 x2 x3 x4 x5 x6 x7 x8 x9 : Option Value} : Wp S N d MX9_taxOf 124 [some (.ref w), x1, x2, x3, x4, x5, x6, x7, x8, x9] [.long v0, .int v1, .ref v2] I J P Q ↔ Wp S N d MX9_taxOf 125 [some (.ref w), x1, x2, x3, x4, x5, x6, x7, x8, x9] [.ref w, .long v0, .int v1, .ref v2] I J P Q := wp_lod (len := 1) rfl rfl rfl rfl dX9_taxOf_124
theorem e_X9_taxOf_125 {v0 : Nat} {v1 : Int64} {v2 : Int32} {v3 : Nat} {x0 x1 x2 x3 x4 x5 x6 x7 x8 x9 : Option Value} : Wp S N d MX9_taxOf 125 [x0, x1, x2, x3, x4, x5, x6, x7, x8, x9] [.ref v0, .long v1, .int v2, .ref v3] I J P Q ↔ S v0 = 9 ∧ Wp S N d MX9_taxOf 128 [x0, x1, x2, x3, x4, x5, x6, x7, x8, x9] [va_rf (P v0 16), .long v1, .int v2, .ref v3] I J P Q := wp_getf rfl rfl rfl rfl dX9_taxOf_125
theorem e_X9_taxOf_128 {v0 : Nat} {v1 : Int64} {v2 : Int32} {v3 : Nat} {x0 x1 x2 x3 x4 x5 x6 x7 x8 x9 : Option Value} : Wp S N d MX9_taxOf 128 [x0, x1, x2, x3, x4, x5, x6, x7, x8, x9] [.ref v0, .long v1, .int v2, .ref v3] I J P Q ↔ Wp S N d MX9_taxOf 129 [x0, x1, x2, x3, x4, x5, x6, x7, x8, x9] [.int 3, .ref v0, .long v1, .int v2, .ref v3] I J P Q := wp_iconst (by decide) dX9_taxOf_128
theorem e_X9_taxOf_129 {v0 : Int32} {v1 : Nat} {v2 : Int64} {v3 : Int32} {v4 : Nat} {x0 x1 x2 x3 x4 x5 x6 x7 x8 x9 : Option Value} : Wp S N d MX9_taxOf 129 [x0, x1, x2, x3, x4, x5, x6, x7, x8, x9] [.int v0, .ref v1, .long v2, .int v3, .ref v4] I J P Q ↔ (S v1 = 11 ∧ vp_in v0 (N v1)) ∧ Wp S N d MX9_taxOf 130 [x0, x1, x2, x3, x4, x5, x6, x7, x8, x9] [.long (J v1 v0.toNatClampNeg), .long v2, .int v3, .ref v4] I J P Q := wp_ald rfl rfl dX9_taxOf_129
theorem e_X9_taxOf_130 {v0 : Int64} {v1 : Int64} {v2 : Int32} {v3 : Nat} {x0 x1 x2 x3 x4 x5 x6 x7 x8 x9 : Option Value} : Wp S N d MX9_taxOf 130 [x0, x1, x2, x3, x4, x5, x6, x7, x8, x9] [.long v0, .long v1, .int v2, .ref v3] I J P Q ↔ Wp S N d MX9_taxOf 131 [x0, x1, x2, x3, x4, x5, x6, x7, x8, x9] [.int (lg_cmp v1 v0), .int v2, .ref v3] I J P Q := wp_alu (len := 1) rfl rfl rfl dX9_taxOf_130
theorem e_X9_taxOf_131 {v0 : Int32} {v1 : Int32} {v2 : Nat} {x0 x1 x2 x3 x4 x5 x6 x7 x8 x9 : Option Value} : Wp S N d MX9_taxOf 131 [x0, x1, x2, x3, x4, x5, x6, x7, x8, x9] [.int v0, .int v1, .ref v2] I J P Q ↔ (v0 ≤ 0 → Wp S N d MX9_taxOf 143 [x0, x1, x2, x3, x4, x5, x6, x7, x8, x9] [.int v1, .ref v2] I J P Q) ∧ (¬ v0 ≤ 0 → Wp S N d MX9_taxOf 134 [x0, x1, x2, x3, x4, x5, x6, x7, x8, x9] [.int v1, .ref v2] I J P Q) := wp_br rfl rfl (by decide) dX9_taxOf_131
theorem e_X9_taxOf_134 {v0 : Int32} {v1 : Nat} {w : Nat} {x1 x2 x3 x4 x5 x6 x7 x8 x9 : Option Value} : Wp S N d MX9_taxOf 134 [some (.ref w), x1, x2, x3, x4, x5, x6, x7, x8, x9] [.int v0, .ref v1] I J P Q ↔ Wp S N d MX9_taxOf 135 [some (.ref w), x1, x2, x3, x4, x5, x6, x7, x8, x9] [.ref w, .int v0, .ref v1] I J P Q := wp_lod (len := 1) rfl rfl rfl rfl dX9_taxOf_134
theorem e_X9_taxOf_135 {v0 : Nat} {v1 : Int32} {v2 : Nat} {x0 x1 x2 x3 x4 x5 x6 x7 x8 x9 : Option Value} : Wp S N d MX9_taxOf 135 [x0, x1, x2, x3, x4, x5, x6, x7, x8, x9] [.ref v0, .int v1, .ref v2] I J P Q ↔ S v0 = 9 ∧ Wp S N d MX9_taxOf 138 [x0, x1, x2, x3, x4, x5, x6, x7, x8, x9] [va_rf (P v0 16), .int v1, .ref v2] I J P Q := wp_getf rfl rfl rfl rfl dX9_taxOf_135
theorem e_X9_taxOf_138 {v0 : Nat} {v1 : Int32} {v2 : Nat} {x0 x1 x2 x3 x4 x5 x6 x7 x8 x9 : Option Value} : Wp S N d MX9_taxOf 138 [x0, x1, x2, x3, x4, x5, x6, x7, x8, x9] [.ref v0, .int v1, .ref v2] I J P Q ↔ Wp S N d MX9_taxOf 139 [x0, x1, x2, x3, x4, x5, x6, x7, x8, x9] [.int 2, .ref v0, .int v1, .ref v2] I J P Q := wp_iconst (by decide) dX9_taxOf_138
theorem e_X9_taxOf_139 {v0 : Int32} {v1 : Nat} {v2 : Int32} {v3 : Nat} {x0 x1 x2 x3 x4 x5 x6 x7 x8 x9 : Option Value} : Wp S N d MX9_taxOf 139 [x0, x1, x2, x3, x4, x5, x6, x7, x8, x9] [.int v0, .ref v1, .int v2, .ref v3] I J P Q ↔ (S v1 = 11 ∧ vp_in v0 (N v1)) ∧ Wp S N d MX9_taxOf 140 [x0, x1, x2, x3, x4, x5, x6, x7, x8, x9] [.long (J v1 v0.toNatClampNeg), .int v2, .ref v3] I J P Q := wp_ald rfl rfl dX9_taxOf_139
theorem e_X9_taxOf_140 {v0 : Int64} {v1 : Int32} {v2 : Nat} {x0 x1 x2 x3 x4 x5 x6 x7 x8 x9 : Option Value} : Wp S N d MX9_taxOf 140 [x0, x1, x2, x3, x4, x5, x6, x7, x8, x9] [.long v0, .int v1, .ref v2] I J P Q ↔ Wp S N d MX9_taxOf 149 [x0, x1, x2, x3, x4, x5, x6, x7, x8, x9] [.long v0, .int v1, .ref v2] I J P Q := wp_go (len := 3) rfl (fun _ _ => rfl) rfl (by decide) dX9_taxOf_140
theorem e_X9_taxOf_143 {v0 : Int32} {v1 : Nat} {w : Nat} {x1 x2 x3 x4 x5 x6 x7 x8 x9 : Option Value} : Wp S N d MX9_taxOf 143 [some (.ref w), x1, x2, x3, x4, x5, x6, x7, x8, x9] [.int v0, .ref v1] I J P Q ↔ Wp S N d MX9_taxOf 144 [some (.ref w), x1, x2, x3, x4, x5, x6, x7, x8, x9] [.ref w, .int v0, .ref v1] I J P Q := wp_lod (len := 1) rfl rfl rfl rfl dX9_taxOf_143
theorem e_X9_taxOf_144 {v0 : Nat} {v1 : Int32} {v2 : Nat} {x0 x1 x2 x3 x4 x5 x6 x7 x8 x9 : Option Value} : Wp S N d MX9_taxOf 144 [x0, x1, x2, x3, x4, x5, x6, x7, x8, x9] [.ref v0, .int v1, .ref v2] I J P Q ↔ S v0 = 9 ∧ Wp S N d MX9_taxOf 147 [x0, x1, x2, x3, x4, x5, x6, x7, x8, x9] [va_rf (P v0 16), .int v1, .ref v2] I J P Q := wp_getf rfl rfl rfl rfl dX9_taxOf_144
theorem e_X9_taxOf_147 {v0 : Nat} {v1 : Int32} {v2 : Nat} {x0 x1 x2 x3 x4 x5 x6 x7 x8 x9 : Option Value} : Wp S N d MX9_taxOf 147 [x0, x1, x2, x3, x4, x5, x6, x7, x8, x9] [.ref v0, .int v1, .ref v2] I J P Q ↔ Wp S N d MX9_taxOf 148 [x0, x1, x2, x3, x4, x5, x6, x7, x8, x9] [.int 3, .ref v0, .int v1, .ref v2] I J P Q := wp_iconst (by decide) dX9_taxOf_147
theorem e_X9_taxOf_148 {v0 : Int32} {v1 : Nat} {v2 : Int32} {v3 : Nat} {x0 x1 x2 x3 x4 x5 x6 x7 x8 x9 : Option Value} : Wp S N d MX9_taxOf 148 [x0, x1, x2, x3, x4, x5, x6, x7, x8, x9] [.int v0, .ref v1, .int v2, .ref v3] I J P Q ↔ (S v1 = 11 ∧ vp_in v0 (N v1)) ∧ Wp S N d MX9_taxOf 149 [x0, x1, x2, x3, x4, x5, x6, x7, x8, x9] [.long (J v1 v0.toNatClampNeg), .int v2, .ref v3] I J P Q := wp_ald rfl rfl dX9_taxOf_148
theorem e_X9_taxOf_149 {v0 : Int64} {v1 : Int32} {v2 : Nat} {x0 x1 x2 x3 x4 x5 x6 x7 x8 x9 : Option Value} : Wp S N d MX9_taxOf 149 [x0, x1, x2, x3, x4, x5, x6, x7, x8, x9] [.long v0, .int v1, .ref v2] I J P Q ↔ (S v2 = 11 ∧ vp_in v1 (N v2)) ∧ Wp S N d MX9_taxOf 150 [x0, x1, x2, x3, x4, x5, x6, x7, x8, x9] [] I (u2 J v2 v1.toNatClampNeg v0) P Q := wp_ast rfl rfl dX9_taxOf_149
theorem e_X9_taxOf_150 {w : Nat} {x1 x2 x3 x4 x5 x6 x7 x8 x9 : Option Value} : Wp S N d MX9_taxOf 150 [some (.ref w), x1, x2, x3, x4, x5, x6, x7, x8, x9] [] I J P Q ↔ Wp S N d MX9_taxOf 151 [some (.ref w), x1, x2, x3, x4, x5, x6, x7, x8, x9] [.ref w] I J P Q := wp_lod (len := 1) rfl rfl rfl rfl dX9_taxOf_150
theorem e_X9_taxOf_151 {v0 : Nat} {x0 x1 x2 x3 x4 x5 x6 x7 x8 x9 : Option Value} : Wp S N d MX9_taxOf 151 [x0, x1, x2, x3, x4, x5, x6, x7, x8, x9] [.ref v0] I J P Q ↔ S v0 = 9 ∧ Wp S N d MX9_taxOf 154 [x0, x1, x2, x3, x4, x5, x6, x7, x8, x9] [va_rf (P v0 16)] I J P Q := wp_getf rfl rfl rfl rfl dX9_taxOf_151
theorem e_X9_taxOf_154 {v0 : Nat} {x0 x1 x2 x3 x4 x5 x6 x7 x8 x9 : Option Value} : Wp S N d MX9_taxOf 154 [x0, x1, x2, x3, x4, x5, x6, x7, x8, x9] [.ref v0] I J P Q ↔ Wp S N d MX9_taxOf 155 [x0, x1, x2, x3, x4, x5, x6, x7, x8, x9] [.int 5, .ref v0] I J P Q := wp_iconst (by decide) dX9_taxOf_154
theorem e_X9_taxOf_155 {v0 : Int32} {v1 : Nat} {w : Nat} {x1 x2 x3 x4 x5 x6 x7 x8 x9 : Option Value} : Wp S N d MX9_taxOf 155 [some (.ref w), x1, x2, x3, x4, x5, x6, x7, x8, x9] [.int v0, .ref v1] I J P Q ↔ Wp S N d MX9_taxOf 156 [some (.ref w), x1, x2, x3, x4, x5, x6, x7, x8, x9] [.ref w, .int v0, .ref v1] I J P Q := wp_lod (len := 1) rfl rfl rfl rfl dX9_taxOf_155
theorem e_X9_taxOf_156 {v0 : Nat} {v1 : Int32} {v2 : Nat} {x0 x1 x2 x3 x4 x5 x6 x7 x8 x9 : Option Value} : Wp S N d MX9_taxOf 156 [x0, x1, x2, x3, x4, x5, x6, x7, x8, x9] [.ref v0, .int v1, .ref v2] I J P Q ↔ S v0 = 9 ∧ Wp S N d MX9_taxOf 159 [x0, x1, x2, x3, x4, x5, x6, x7, x8, x9] [va_rf (P v0 16), .int v1, .ref v2] I J P Q := wp_getf rfl rfl rfl rfl dX9_taxOf_156
theorem e_X9_taxOf_159 {v0 : Nat} {v1 : Int32} {v2 : Nat} {x0 x1 x2 x3 x4 x5 x6 x7 x8 x9 : Option Value} : Wp S N d MX9_taxOf 159 [x0, x1, x2, x3, x4, x5, x6, x7, x8, x9] [.ref v0, .int v1, .ref v2] I J P Q ↔ Wp S N d MX9_taxOf 160 [x0, x1, x2, x3, x4, x5, x6, x7, x8, x9] [.int 4, .ref v0, .int v1, .ref v2] I J P Q := wp_iconst (by decide) dX9_taxOf_159
theorem e_X9_taxOf_160 {v0 : Int32} {v1 : Nat} {v2 : Int32} {v3 : Nat} {x0 x1 x2 x3 x4 x5 x6 x7 x8 x9 : Option Value} : Wp S N d MX9_taxOf 160 [x0, x1, x2, x3, x4, x5, x6, x7, x8, x9] [.int v0, .ref v1, .int v2, .ref v3] I J P Q ↔ (S v1 = 11 ∧ vp_in v0 (N v1)) ∧ Wp S N d MX9_taxOf 161 [x0, x1, x2, x3, x4, x5, x6, x7, x8, x9] [.long (J v1 v0.toNatClampNeg), .int v2, .ref v3] I J P Q := wp_ald rfl rfl dX9_taxOf_160
theorem e_X9_taxOf_161 {v0 : Int64} {v1 : Int32} {v2 : Nat} {w : Nat} {x1 x2 x3 x4 x5 x6 x7 x8 x9 : Option Value} : Wp S N d MX9_taxOf 161 [some (.ref w), x1, x2, x3, x4, x5, x6, x7, x8, x9] [.long v0, .int v1, .ref v2] I J P Q ↔ Wp S N d MX9_taxOf 162 [some (.ref w), x1, x2, x3, x4, x5, x6, x7, x8, x9] [.ref w, .long v0, .int v1, .ref v2] I J P Q := wp_lod (len := 1) rfl rfl rfl rfl dX9_taxOf_161
theorem e_X9_taxOf_162 {v0 : Nat} {v1 : Int64} {v2 : Int32} {v3 : Nat} {w : Int32} {x0 x1 x3 x4 x5 x6 x7 x8 x9 : Option Value} : Wp S N d MX9_taxOf 162 [x0, x1, some (.int w), x3, x4, x5, x6, x7, x8, x9] [.ref v0, .long v1, .int v2, .ref v3] I J P Q ↔ Wp S N d MX9_taxOf 163 [x0, x1, some (.int w), x3, x4, x5, x6, x7, x8, x9] [.int w, .ref v0, .long v1, .int v2, .ref v3] I J P Q := wp_lod (len := 1) rfl rfl rfl rfl dX9_taxOf_162
theorem e_X9_taxOf_163 {v0 : Int32} {v1 : Nat} {v2 : Int64} {v3 : Int32} {v4 : Nat} {w : Int32} {x0 x1 x2 x3 x5 x6 x7 x8 x9 : Option Value} : Wp S N d MX9_taxOf 163 [x0, x1, x2, x3, some (.int w), x5, x6, x7, x8, x9] [.int v0, .ref v1, .long v2, .int v3, .ref v4] I J P Q ↔ Wp S N d MX9_taxOf 165 [x0, x1, x2, x3, some (.int w), x5, x6, x7, x8, x9] [.int w, .int v0, .ref v1, .long v2, .int v3, .ref v4] I J P Q := wp_lod (len := 2) rfl rfl rfl rfl dX9_taxOf_163
theorem e_X9_taxOf_165 {v0 : Int32} {v1 : Int32} {v2 : Nat} {v3 : Int64} {v4 : Int32} {v5 : Nat} {x0 x1 x2 x3 x4 x5 x6 x7 x8 x9 : Option Value} : Wp S N (d + 1) MX9_taxOf 165 [x0, x1, x2, x3, x4, x5, x6, x7, x8, x9] [.int v0, .int v1, .ref v2, .long v3, .int v4, .ref v5] I J P Q ↔ S v2 = 9 ∧ CWp S N d MX9_charges [.ref v2, .int v1, .int v0] I J P (fun r I1 J1 P1 => Wp S N (d + 1) MX9_taxOf 168 [x0, x1, x2, x3, x4, x5, x6, x7, x8, x9] (r.toList ++ [.long v3, .int v4, .ref v5]) I1 J1 P1 Q) := wp_callV (M' := MX9_charges) (As := [.int v1, .int v0]) rfl rfl rfl rfl (by decide) (Nat.le_of_ble_eq_true rfl) dX9_taxOf_165
theorem e_X9_taxOf_168 {v0 : Int64} {v1 : Int64} {v2 : Int32} {v3 : Nat} {x0 x1 x2 x3 x4 x5 x6 x7 x8 x9 : Option Value} : Wp S N d MX9_taxOf 168 [x0, x1, x2, x3, x4, x5, x6, x7, x8, x9] [.long v0, .long v1, .int v2, .ref v3] I J P Q ↔ Wp S N d MX9_taxOf 169 [x0, x1, x2, x3, x4, x5, x6, x7, x8, x9] [.long (v1 + v0), .int v2, .ref v3] I J P Q := wp_alu (len := 1) rfl rfl rfl dX9_taxOf_168
theorem e_X9_taxOf_169 {v0 : Int64} {v1 : Int32} {v2 : Nat} {x0 x1 x2 x3 x4 x5 x6 x7 x8 x9 : Option Value} : Wp S N d MX9_taxOf 169 [x0, x1, x2, x3, x4, x5, x6, x7, x8, x9] [.long v0, .int v1, .ref v2] I J P Q ↔ (S v2 = 11 ∧ vp_in v1 (N v2)) ∧ Wp S N d MX9_taxOf 170 [x0, x1, x2, x3, x4, x5, x6, x7, x8, x9] [] I (u2 J v2 v1.toNatClampNeg v0) P Q := wp_ast rfl rfl dX9_taxOf_169
theorem e_X9_taxOf_170 {w : Nat} {x1 x2 x3 x4 x5 x6 x7 x8 x9 : Option Value} : Wp S N d MX9_taxOf 170 [some (.ref w), x1, x2, x3, x4, x5, x6, x7, x8, x9] [] I J P Q ↔ Wp S N d MX9_taxOf 171 [some (.ref w), x1, x2, x3, x4, x5, x6, x7, x8, x9] [.ref w] I J P Q := wp_lod (len := 1) rfl rfl rfl rfl dX9_taxOf_170
theorem e_X9_taxOf_171 {v0 : Nat} {x0 x1 x2 x3 x4 x5 x6 x7 x8 x9 : Option Value} : Wp S N d MX9_taxOf 171 [x0, x1, x2, x3, x4, x5, x6, x7, x8, x9] [.ref v0] I J P Q ↔ S v0 = 9 ∧ Wp S N d MX9_taxOf 174 [x0, x1, x2, x3, x4, x5, x6, x7, x8, x9] [va_rf (P v0 16)] I J P Q := wp_getf rfl rfl rfl rfl dX9_taxOf_171
theorem e_X9_taxOf_174 {v0 : Nat} {x0 x1 x2 x3 x4 x5 x6 x7 x8 x9 : Option Value} : Wp S N d MX9_taxOf 174 [x0, x1, x2, x3, x4, x5, x6, x7, x8, x9] [.ref v0] I J P Q ↔ Wp S N d MX9_taxOf 175 [x0, x1, x2, x3, x4, x5, x6, x7, x8, x9] [.int 5, .ref v0] I J P Q := wp_iconst (by decide) dX9_taxOf_174
theorem e_X9_taxOf_175 {v0 : Int32} {v1 : Nat} {x0 x1 x2 x3 x4 x5 x6 x7 x8 x9 : Option Value} : Wp S N d MX9_taxOf 175 [x0, x1, x2, x3, x4, x5, x6, x7, x8, x9] [.int v0, .ref v1] I J P Q ↔ (S v1 = 11 ∧ vp_in v0 (N v1)) ∧ Wp S N d MX9_taxOf 176 [x0, x1, x2, x3, x4, x5, x6, x7, x8, x9] [.long (J v1 v0.toNatClampNeg)] I J P Q := wp_ald rfl rfl dX9_taxOf_175
theorem e_X9_taxOf_176 {v0 : Int64} {x0 x1 x2 x3 x4 x5 x6 x7 x8 x9 : Option Value} : Wp S N d MX9_taxOf 176 [x0, x1, x2, x3, x4, x5, x6, x7, x8, x9] [.long v0] I J P Q ↔ Wp S N d MX9_taxOf 178 [x0, x1, x2, x3, kl x4, some (.long v0), none, x7, x8, x9] [] I J P Q := wp_sto (len := 2) rfl rfl rfl rfl (Nat.le_of_ble_eq_true rfl) rfl dX9_taxOf_176
theorem e_X9_taxOf_178  {x0 x1 x2 x3 x4 x5 x6 x7 x8 x9 : Option Value} : Wp S N d MX9_taxOf 178 [x0, x1, x2, x3, x4, x5, x6, x7, x8, x9] [] I J P Q ↔ Wp S N d MX9_taxOf 179 [x0, x1, x2, x3, x4, x5, x6, x7, x8, x9] [.int 0] I J P Q := wp_iconst (by decide) dX9_taxOf_178
theorem e_X9_taxOf_179 {v0 : Int32} {x0 x1 x2 x3 x4 x5 x6 x7 x8 x9 : Option Value} : Wp S N d MX9_taxOf 179 [x0, x1, x2, x3, x4, x5, x6, x7, x8, x9] [.int v0] I J P Q ↔ Wp S N d MX9_taxOf 181 [x0, x1, x2, x3, x4, x5, kl x6, some (.int v0), x8, x9] [] I J P Q := wp_sto (len := 2) rfl rfl rfl rfl (Nat.le_of_ble_eq_true rfl) rfl dX9_taxOf_179
theorem e_X9_taxOf_181 {w : Int32} {x0 x1 x2 x3 x4 x5 x6 x8 x9 : Option Value} : Wp S N d MX9_taxOf 181 [x0, x1, x2, x3, x4, x5, x6, some (.int w), x8, x9] [] I J P Q ↔ Wp S N d MX9_taxOf 183 [x0, x1, x2, x3, x4, x5, x6, some (.int w), x8, x9] [.int w] I J P Q := wp_lod (len := 2) rfl rfl rfl rfl dX9_taxOf_181
theorem e_X9_taxOf_183 {v0 : Int32} {w : Nat} {x1 x2 x3 x4 x5 x6 x7 x8 x9 : Option Value} : Wp S N d MX9_taxOf 183 [some (.ref w), x1, x2, x3, x4, x5, x6, x7, x8, x9] [.int v0] I J P Q ↔ Wp S N d MX9_taxOf 184 [some (.ref w), x1, x2, x3, x4, x5, x6, x7, x8, x9] [.ref w, .int v0] I J P Q := wp_lod (len := 1) rfl rfl rfl rfl dX9_taxOf_183
theorem e_X9_taxOf_184 {v0 : Nat} {v1 : Int32} {x0 x1 x2 x3 x4 x5 x6 x7 x8 x9 : Option Value} : Wp S N d MX9_taxOf 184 [x0, x1, x2, x3, x4, x5, x6, x7, x8, x9] [.ref v0, .int v1] I J P Q ↔ S v0 = 9 ∧ Wp S N d MX9_taxOf 187 [x0, x1, x2, x3, x4, x5, x6, x7, x8, x9] [va_rf (P v0 0), .int v1] I J P Q := wp_getf rfl rfl rfl rfl dX9_taxOf_184
theorem e_X9_taxOf_187 {v0 : Nat} {v1 : Int32} {x0 x1 x2 x3 x4 x5 x6 x7 x8 x9 : Option Value} : Wp S N d MX9_taxOf 187 [x0, x1, x2, x3, x4, x5, x6, x7, x8, x9] [.ref v0, .int v1] I J P Q ↔ Wp S N d MX9_taxOf 189 [x0, x1, x2, x3, x4, x5, x6, x7, x8, x9] [.int 27, .ref v0, .int v1] I J P Q := wp_bipush (by decide) dX9_taxOf_187
theorem e_X9_taxOf_189 {v0 : Int32} {v1 : Nat} {v2 : Int32} {x0 x1 x2 x3 x4 x5 x6 x7 x8 x9 : Option Value} : Wp S N d MX9_taxOf 189 [x0, x1, x2, x3, x4, x5, x6, x7, x8, x9] [.int v0, .ref v1, .int v2] I J P Q ↔ (S v1 = 10 ∧ vp_in v0 (N v1)) ∧ Wp S N d MX9_taxOf 190 [x0, x1, x2, x3, x4, x5, x6, x7, x8, x9] [.int (I v1 v0.toNatClampNeg), .int v2] I J P Q := wp_ald rfl rfl dX9_taxOf_189
theorem e_X9_taxOf_190 {v0 : Int32} {v1 : Int32} {x0 x1 x2 x3 x4 x5 x6 x7 x8 x9 : Option Value} : Wp S N d MX9_taxOf 190 [x0, x1, x2, x3, x4, x5, x6, x7, x8, x9] [.int v0, .int v1] I J P Q ↔ (v0 ≤ v1 → Wp S N d MX9_taxOf 303 [x0, x1, x2, x3, x4, x5, x6, x7, x8, x9] [] I J P Q) ∧ (¬ v0 ≤ v1 → Wp S N d MX9_taxOf 193 [x0, x1, x2, x3, x4, x5, x6, x7, x8, x9] [] I J P Q) := wp_br rfl rfl (by decide) dX9_taxOf_190
theorem e_X9_taxOf_193 {w : Nat} {x1 x2 x3 x4 x5 x6 x7 x8 x9 : Option Value} : Wp S N d MX9_taxOf 193 [some (.ref w), x1, x2, x3, x4, x5, x6, x7, x8, x9] [] I J P Q ↔ Wp S N d MX9_taxOf 194 [some (.ref w), x1, x2, x3, x4, x5, x6, x7, x8, x9] [.ref w] I J P Q := wp_lod (len := 1) rfl rfl rfl rfl dX9_taxOf_193
theorem e_X9_taxOf_194 {v0 : Nat} {x0 x1 x2 x3 x4 x5 x6 x7 x8 x9 : Option Value} : Wp S N d MX9_taxOf 194 [x0, x1, x2, x3, x4, x5, x6, x7, x8, x9] [.ref v0] I J P Q ↔ S v0 = 9 ∧ Wp S N d MX9_taxOf 197 [x0, x1, x2, x3, x4, x5, x6, x7, x8, x9] [va_rf (P v0 18)] I J P Q := wp_getf rfl rfl rfl rfl dX9_taxOf_194
theorem e_X9_taxOf_197 {v0 : Nat} {w : Int32} {x0 x1 x2 x3 x4 x5 x6 x8 x9 : Option Value} : Wp S N d MX9_taxOf 197 [x0, x1, x2, x3, x4, x5, x6, some (.int w), x8, x9] [.ref v0] I J P Q ↔ Wp S N d MX9_taxOf 199 [x0, x1, x2, x3, x4, x5, x6, some (.int w), x8, x9] [.int w, .ref v0] I J P Q := wp_lod (len := 2) rfl rfl rfl rfl dX9_taxOf_197
theorem e_X9_taxOf_199 {v0 : Int32} {v1 : Nat} {w : Nat} {x1 x2 x3 x4 x5 x6 x7 x8 x9 : Option Value} : Wp S N d MX9_taxOf 199 [some (.ref w), x1, x2, x3, x4, x5, x6, x7, x8, x9] [.int v0, .ref v1] I J P Q ↔ Wp S N d MX9_taxOf 200 [some (.ref w), x1, x2, x3, x4, x5, x6, x7, x8, x9] [.ref w, .int v0, .ref v1] I J P Q := wp_lod (len := 1) rfl rfl rfl rfl dX9_taxOf_199
theorem e_X9_taxOf_200 {v0 : Nat} {v1 : Int32} {v2 : Nat} {w : Int32} {x0 x1 x2 x3 x4 x5 x6 x8 x9 : Option Value} : Wp S N d MX9_taxOf 200 [x0, x1, x2, x3, x4, x5, x6, some (.int w), x8, x9] [.ref v0, .int v1, .ref v2] I J P Q ↔ Wp S N d MX9_taxOf 202 [x0, x1, x2, x3, x4, x5, x6, some (.int w), x8, x9] [.int w, .ref v0, .int v1, .ref v2] I J P Q := wp_lod (len := 2) rfl rfl rfl rfl dX9_taxOf_200
theorem e_X9_taxOf_202 {v0 : Int32} {v1 : Nat} {v2 : Int32} {v3 : Nat} {w : Int32} {x0 x2 x3 x4 x5 x6 x7 x8 x9 : Option Value} : Wp S N d MX9_taxOf 202 [x0, some (.int w), x2, x3, x4, x5, x6, x7, x8, x9] [.int v0, .ref v1, .int v2, .ref v3] I J P Q ↔ Wp S N d MX9_taxOf 203 [x0, some (.int w), x2, x3, x4, x5, x6, x7, x8, x9] [.int w, .int v0, .ref v1, .int v2, .ref v3] I J P Q := wp_lod (len := 1) rfl rfl rfl rfl dX9_taxOf_202
theorem e_X9_taxOf_203 {v0 : Int32} {v1 : Int32} {v2 : Nat} {v3 : Int32} {v4 : Nat} {w : Int32} {x0 x1 x3 x4 x5 x6 x7 x8 x9 : Option Value} : Wp S N d MX9_taxOf 203 [x0, x1, some (.int w), x3, x4, x5, x6, x7, x8, x9] [.int v0, .int v1, .ref v2, .int v3, .ref v4] I J P Q ↔ Wp S N d MX9_taxOf 204 [x0, x1, some (.int w), x3, x4, x5, x6, x7, x8, x9] [.int w, .int v0, .int v1, .ref v2, .int v3, .ref v4] I J P Q := wp_lod (len := 1) rfl rfl rfl rfl dX9_taxOf_203
theorem e_X9_taxOf_204 {v0 : Int32} {v1 : Int32} {v2 : Int32} {v3 : Nat} {v4 : Int32} {v5 : Nat} {w : Int32} {x0 x1 x2 x4 x5 x6 x7 x8 x9 : Option Value} : Wp S N d MX9_taxOf 204 [x0, x1, x2, some (.int w), x4, x5, x6, x7, x8, x9] [.int v0, .int v1, .int v2, .ref v3, .int v4, .ref v5] I J P Q ↔ Wp S N d MX9_taxOf 205 [x0, x1, x2, some (.int w), x4, x5, x6, x7, x8, x9] [.int w, .int v0, .int v1, .int v2, .ref v3, .int v4, .ref v5] I J P Q := wp_lod (len := 1) rfl rfl rfl rfl dX9_taxOf_204
theorem e_X9_taxOf_205 {v0 : Int32} {v1 : Int32} {v2 : Int32} {v3 : Int32} {v4 : Nat} {v5 : Int32} {v6 : Nat} {w : Int32} {x0 x1 x2 x3 x5 x6 x7 x8 x9 : Option Value} : Wp S N d MX9_taxOf 205 [x0, x1, x2, x3, some (.int w), x5, x6, x7, x8, x9] [.int v0, .int v1, .int v2, .int v3, .ref v4, .int v5, .ref v6] I J P Q ↔ Wp S N d MX9_taxOf 207 [x0, x1, x2, x3, some (.int w), x5, x6, x7, x8, x9] [.int w, .int v0, .int v1, .int v2, .int v3, .ref v4, .int v5, .ref v6] I J P Q := wp_lod (len := 2) rfl rfl rfl rfl dX9_taxOf_205
theorem e_X9_taxOf_207 {v0 : Int32} {v1 : Int32} {v2 : Int32} {v3 : Int32} {v4 : Int32} {v5 : Nat} {v6 : Int32} {v7 : Nat} {x0 x1 x2 x3 x4 x5 x6 x7 x8 x9 : Option Value} : Wp S N (d + 1) MX9_taxOf 207 [x0, x1, x2, x3, x4, x5, x6, x7, x8, x9] [.int v0, .int v1, .int v2, .int v3, .int v4, .ref v5, .int v6, .ref v7] I J P Q ↔ S v5 = 9 ∧ CWp S N d MX9_valueOf [.ref v5, .int v4, .int v3, .int v2, .int v1, .int v0] I J P (fun r I1 J1 P1 => Wp S N (d + 1) MX9_taxOf 210 [x0, x1, x2, x3, x4, x5, x6, x7, x8, x9] (r.toList ++ [.int v6, .ref v7]) I1 J1 P1 Q) := wp_callV (M' := MX9_valueOf) (As := [.int v4, .int v3, .int v2, .int v1, .int v0]) rfl rfl rfl rfl (by decide) (Nat.le_of_ble_eq_true rfl) dX9_taxOf_207
theorem e_X9_taxOf_210 {v0 : Int64} {v1 : Int32} {v2 : Nat} {x0 x1 x2 x3 x4 x5 x6 x7 x8 x9 : Option Value} : Wp S N d MX9_taxOf 210 [x0, x1, x2, x3, x4, x5, x6, x7, x8, x9] [.long v0, .int v1, .ref v2] I J P Q ↔ (S v2 = 11 ∧ vp_in v1 (N v2)) ∧ Wp S N d MX9_taxOf 211 [x0, x1, x2, x3, x4, x5, x6, x7, x8, x9] [] I (u2 J v2 v1.toNatClampNeg v0) P Q := wp_ast rfl rfl dX9_taxOf_210
theorem e_X9_taxOf_211 {w : Nat} {x1 x2 x3 x4 x5 x6 x7 x8 x9 : Option Value} : Wp S N d MX9_taxOf 211 [some (.ref w), x1, x2, x3, x4, x5, x6, x7, x8, x9] [] I J P Q ↔ Wp S N d MX9_taxOf 212 [some (.ref w), x1, x2, x3, x4, x5, x6, x7, x8, x9] [.ref w] I J P Q := wp_lod (len := 1) rfl rfl rfl rfl dX9_taxOf_211
theorem e_X9_taxOf_212 {v0 : Nat} {x0 x1 x2 x3 x4 x5 x6 x7 x8 x9 : Option Value} : Wp S N d MX9_taxOf 212 [x0, x1, x2, x3, x4, x5, x6, x7, x8, x9] [.ref v0] I J P Q ↔ S v0 = 9 ∧ Wp S N d MX9_taxOf 215 [x0, x1, x2, x3, x4, x5, x6, x7, x8, x9] [va_rf (P v0 18)] I J P Q := wp_getf rfl rfl rfl rfl dX9_taxOf_212
theorem e_X9_taxOf_215 {v0 : Nat} {w : Int32} {x0 x1 x2 x3 x4 x5 x6 x8 x9 : Option Value} : Wp S N d MX9_taxOf 215 [x0, x1, x2, x3, x4, x5, x6, some (.int w), x8, x9] [.ref v0] I J P Q ↔ Wp S N d MX9_taxOf 217 [x0, x1, x2, x3, x4, x5, x6, some (.int w), x8, x9] [.int w, .ref v0] I J P Q := wp_lod (len := 2) rfl rfl rfl rfl dX9_taxOf_215
theorem e_X9_taxOf_217 {v0 : Int32} {v1 : Nat} {x0 x1 x2 x3 x4 x5 x6 x7 x8 x9 : Option Value} : Wp S N d MX9_taxOf 217 [x0, x1, x2, x3, x4, x5, x6, x7, x8, x9] [.int v0, .ref v1] I J P Q ↔ (S v1 = 11 ∧ vp_in v0 (N v1)) ∧ Wp S N d MX9_taxOf 218 [x0, x1, x2, x3, x4, x5, x6, x7, x8, x9] [.long (J v1 v0.toNatClampNeg)] I J P Q := wp_ald rfl rfl dX9_taxOf_217
theorem e_X9_taxOf_218 {v0 : Int64} {w : Nat} {x1 x2 x3 x4 x5 x6 x7 x8 x9 : Option Value} : Wp S N d MX9_taxOf 218 [some (.ref w), x1, x2, x3, x4, x5, x6, x7, x8, x9] [.long v0] I J P Q ↔ Wp S N d MX9_taxOf 219 [some (.ref w), x1, x2, x3, x4, x5, x6, x7, x8, x9] [.ref w, .long v0] I J P Q := wp_lod (len := 1) rfl rfl rfl rfl dX9_taxOf_218
theorem e_X9_taxOf_219 {v0 : Nat} {v1 : Int64} {w : Int32} {x0 x1 x2 x3 x4 x5 x6 x8 x9 : Option Value} : Wp S N d MX9_taxOf 219 [x0, x1, x2, x3, x4, x5, x6, some (.int w), x8, x9] [.ref v0, .long v1] I J P Q ↔ Wp S N d MX9_taxOf 221 [x0, x1, x2, x3, x4, x5, x6, some (.int w), x8, x9] [.int w, .ref v0, .long v1] I J P Q := wp_lod (len := 2) rfl rfl rfl rfl dX9_taxOf_219
theorem e_X9_taxOf_221 {v0 : Int32} {v1 : Nat} {v2 : Int64} {x0 x1 x2 x3 x4 x5 x6 x7 x8 x9 : Option Value} : Wp S N d MX9_taxOf 221 [x0, x1, x2, x3, x4, x5, x6, x7, x8, x9] [.int v0, .ref v1, .long v2] I J P Q ↔ Wp S N d MX9_taxOf 222 [x0, x1, x2, x3, x4, x5, x6, x7, x8, x9] [.int 0, .int v0, .ref v1, .long v2] I J P Q := wp_iconst (by decide) dX9_taxOf_221
theorem e_X9_taxOf_222 {v0 : Int32} {v1 : Int32} {v2 : Nat} {v3 : Int64} {x0 x1 x2 x3 x4 x5 x6 x7 x8 x9 : Option Value} : Wp S N (d + 1) MX9_taxOf 222 [x0, x1, x2, x3, x4, x5, x6, x7, x8, x9] [.int v0, .int v1, .ref v2, .long v3] I J P Q ↔ S v2 = 9 ∧ CWp S N d MX9_creditOf [.ref v2, .int v1, .int v0] I J P (fun r I1 J1 P1 => Wp S N (d + 1) MX9_taxOf 225 [x0, x1, x2, x3, x4, x5, x6, x7, x8, x9] (r.toList ++ [.long v3]) I1 J1 P1 Q) := wp_callV (M' := MX9_creditOf) (As := [.int v1, .int v0]) rfl rfl rfl rfl (by decide) (Nat.le_of_ble_eq_true rfl) dX9_taxOf_222
theorem e_X9_taxOf_225 {v0 : Int32} {v1 : Int64} {x0 x1 x2 x3 x4 x5 x6 x7 x8 x9 : Option Value} : Wp S N d MX9_taxOf 225 [x0, x1, x2, x3, x4, x5, x6, x7, x8, x9] [.int v0, .long v1] I J P Q ↔ Wp S N d MX9_taxOf 226 [x0, x1, x2, x3, x4, x5, x6, x7, x8, x9] [.int 2, .int v0, .long v1] I J P Q := wp_iconst (by decide) dX9_taxOf_225
theorem e_X9_taxOf_226 {v0 : Int32} {v1 : Int32} {v2 : Int64} {x0 x1 x2 x3 x4 x5 x6 x7 x8 x9 : Option Value} : Wp S N d MX9_taxOf 226 [x0, x1, x2, x3, x4, x5, x6, x7, x8, x9] [.int v0, .int v1, .long v2] I J P Q ↔ (¬ v1 = v0 → Wp S N d MX9_taxOf 239 [x0, x1, x2, x3, x4, x5, x6, x7, x8, x9] [.long v2] I J P Q) ∧ (v1 = v0 → Wp S N d MX9_taxOf 229 [x0, x1, x2, x3, x4, x5, x6, x7, x8, x9] [.long v2] I J P Q) := wp_brn rfl rfl (by decide) dX9_taxOf_226
theorem e_X9_taxOf_229 {v0 : Int64} {w : Nat} {x1 x2 x3 x4 x5 x6 x7 x8 x9 : Option Value} : Wp S N d MX9_taxOf 229 [some (.ref w), x1, x2, x3, x4, x5, x6, x7, x8, x9] [.long v0] I J P Q ↔ Wp S N d MX9_taxOf 230 [some (.ref w), x1, x2, x3, x4, x5, x6, x7, x8, x9] [.ref w, .long v0] I J P Q := wp_lod (len := 1) rfl rfl rfl rfl dX9_taxOf_229
theorem e_X9_taxOf_230 {v0 : Nat} {v1 : Int64} {x0 x1 x2 x3 x4 x5 x6 x7 x8 x9 : Option Value} : Wp S N d MX9_taxOf 230 [x0, x1, x2, x3, x4, x5, x6, x7, x8, x9] [.ref v0, .long v1] I J P Q ↔ S v0 = 9 ∧ Wp S N d MX9_taxOf 233 [x0, x1, x2, x3, x4, x5, x6, x7, x8, x9] [va_rf (P v0 17), .long v1] I J P Q := wp_getf rfl rfl rfl rfl dX9_taxOf_230
theorem e_X9_taxOf_233 {v0 : Nat} {v1 : Int64} {w : Int32} {x0 x1 x2 x3 x4 x5 x6 x8 x9 : Option Value} : Wp S N d MX9_taxOf 233 [x0, x1, x2, x3, x4, x5, x6, some (.int w), x8, x9] [.ref v0, .long v1] I J P Q ↔ Wp S N d MX9_taxOf 235 [x0, x1, x2, x3, x4, x5, x6, some (.int w), x8, x9] [.int w, .ref v0, .long v1] I J P Q := wp_lod (len := 2) rfl rfl rfl rfl dX9_taxOf_233
theorem e_X9_taxOf_235 {v0 : Int32} {v1 : Nat} {v2 : Int64} {x0 x1 x2 x3 x4 x5 x6 x7 x8 x9 : Option Value} : Wp S N d MX9_taxOf 235 [x0, x1, x2, x3, x4, x5, x6, x7, x8, x9] [.int v0, .ref v1, .long v2] I J P Q ↔ (S v1 = 11 ∧ vp_in v0 (N v1)) ∧ Wp S N d MX9_taxOf 236 [x0, x1, x2, x3, x4, x5, x6, x7, x8, x9] [.long (J v1 v0.toNatClampNeg), .long v2] I J P Q := wp_ald rfl rfl dX9_taxOf_235
theorem e_X9_taxOf_236 {v0 : Int64} {v1 : Int64} {x0 x1 x2 x3 x4 x5 x6 x7 x8 x9 : Option Value} : Wp S N d MX9_taxOf 236 [x0, x1, x2, x3, x4, x5, x6, x7, x8, x9] [.long v0, .long v1] I J P Q ↔ Wp S N d MX9_taxOf 240 [x0, x1, x2, x3, x4, x5, x6, x7, x8, x9] [.long v0, .long v1] I J P Q := wp_go (len := 3) rfl (fun _ _ => rfl) rfl (by decide) dX9_taxOf_236
theorem e_X9_taxOf_239 {v0 : Int64} {x0 x1 x2 x3 x4 x5 x6 x7 x8 x9 : Option Value} : Wp S N d MX9_taxOf 239 [x0, x1, x2, x3, x4, x5, x6, x7, x8, x9] [.long v0] I J P Q ↔ Wp S N d MX9_taxOf 240 [x0, x1, x2, x3, x4, x5, x6, x7, x8, x9] [.long 0, .long v0] I J P Q := wp_lconst (by decide) dX9_taxOf_239
theorem e_X9_taxOf_240 {v0 : Int64} {v1 : Int64} {x0 x1 x2 x3 x4 x5 x6 x7 x8 x9 : Option Value} : Wp S N d MX9_taxOf 240 [x0, x1, x2, x3, x4, x5, x6, x7, x8, x9] [.long v0, .long v1] I J P Q ↔ Wp S N d MX9_taxOf 241 [x0, x1, x2, x3, x4, x5, x6, x7, x8, x9] [.long (v1 + v0)] I J P Q := wp_alu (len := 1) rfl rfl rfl dX9_taxOf_240
theorem e_X9_taxOf_241 {v0 : Int64} {x0 x1 x2 x3 x4 x5 x6 x7 x8 x9 : Option Value} : Wp S N d MX9_taxOf 241 [x0, x1, x2, x3, x4, x5, x6, x7, x8, x9] [.long v0] I J P Q ↔ Wp S N d MX9_taxOf 243 [x0, x1, x2, x3, x4, x5, x6, kl x7, some (.long v0), none] [] I J P Q := wp_sto (len := 2) rfl rfl rfl rfl (Nat.le_of_ble_eq_true rfl) rfl dX9_taxOf_241
theorem e_X9_taxOf_243 {w : Nat} {x1 x2 x3 x4 x5 x6 x7 x8 x9 : Option Value} : Wp S N d MX9_taxOf 243 [some (.ref w), x1, x2, x3, x4, x5, x6, x7, x8, x9] [] I J P Q ↔ Wp S N d MX9_taxOf 244 [some (.ref w), x1, x2, x3, x4, x5, x6, x7, x8, x9] [.ref w] I J P Q := wp_lod (len := 1) rfl rfl rfl rfl dX9_taxOf_243
theorem e_X9_taxOf_244 {v0 : Nat} {x0 x1 x2 x3 x4 x5 x6 x7 x8 x9 : Option Value} : Wp S N d MX9_taxOf 244 [x0, x1, x2, x3, x4, x5, x6, x7, x8, x9] [.ref v0] I J P Q ↔ S v0 = 9 ∧ Wp S N d MX9_taxOf 247 [x0, x1, x2, x3, x4, x5, x6, x7, x8, x9] [va_rf (P v0 19)] I J P Q := wp_getf rfl rfl rfl rfl dX9_taxOf_244
theorem e_X9_taxOf_247 {v0 : Nat} {w : Int32} {x0 x1 x2 x3 x4 x5 x6 x8 x9 : Option Value} : Wp S N d MX9_taxOf 247 [x0, x1, x2, x3, x4, x5, x6, some (.int w), x8, x9] [.ref v0] I J P Q ↔ Wp S N d MX9_taxOf 249 [x0, x1, x2, x3, x4, x5, x6, some (.int w), x8, x9] [.int w, .ref v0] I J P Q := wp_lod (len := 2) rfl rfl rfl rfl dX9_taxOf_247
theorem e_X9_taxOf_249 {v0 : Int32} {v1 : Nat} {w : Nat} {x1 x2 x3 x4 x5 x6 x7 x8 x9 : Option Value} : Wp S N d MX9_taxOf 249 [some (.ref w), x1, x2, x3, x4, x5, x6, x7, x8, x9] [.int v0, .ref v1] I J P Q ↔ Wp S N d MX9_taxOf 250 [some (.ref w), x1, x2, x3, x4, x5, x6, x7, x8, x9] [.ref w, .int v0, .ref v1] I J P Q := wp_lod (len := 1) rfl rfl rfl rfl dX9_taxOf_249
theorem e_X9_taxOf_250 {v0 : Nat} {v1 : Int32} {v2 : Nat} {w : Int32} {x0 x1 x2 x3 x4 x5 x6 x8 x9 : Option Value} : Wp S N d MX9_taxOf 250 [x0, x1, x2, x3, x4, x5, x6, some (.int w), x8, x9] [.ref v0, .int v1, .ref v2] I J P Q ↔ Wp S N d MX9_taxOf 252 [x0, x1, x2, x3, x4, x5, x6, some (.int w), x8, x9] [.int w, .ref v0, .int v1, .ref v2] I J P Q := wp_lod (len := 2) rfl rfl rfl rfl dX9_taxOf_250
theorem e_X9_taxOf_252 {v0 : Int32} {v1 : Nat} {v2 : Int32} {v3 : Nat} {x0 x1 x2 x3 x4 x5 x6 x7 x8 x9 : Option Value} : Wp S N d MX9_taxOf 252 [x0, x1, x2, x3, x4, x5, x6, x7, x8, x9] [.int v0, .ref v1, .int v2, .ref v3] I J P Q ↔ Wp S N d MX9_taxOf 253 [x0, x1, x2, x3, x4, x5, x6, x7, x8, x9] [.int 0, .int v0, .ref v1, .int v2, .ref v3] I J P Q := wp_iconst (by decide) dX9_taxOf_252
theorem e_X9_taxOf_253 {v0 : Int32} {v1 : Int32} {v2 : Nat} {v3 : Int32} {v4 : Nat} {x0 x1 x2 x3 x4 x5 x6 x7 x8 x9 : Option Value} : Wp S N (d + 1) MX9_taxOf 253 [x0, x1, x2, x3, x4, x5, x6, x7, x8, x9] [.int v0, .int v1, .ref v2, .int v3, .ref v4] I J P Q ↔ S v2 = 9 ∧ CWp S N d MX9_creditOf [.ref v2, .int v1, .int v0] I J P (fun r I1 J1 P1 => Wp S N (d + 1) MX9_taxOf 256 [x0, x1, x2, x3, x4, x5, x6, x7, x8, x9] (r.toList ++ [.int v3, .ref v4]) I1 J1 P1 Q) := wp_callV (M' := MX9_creditOf) (As := [.int v1, .int v0]) rfl rfl rfl rfl (by decide) (Nat.le_of_ble_eq_true rfl) dX9_taxOf_253
theorem e_X9_taxOf_256 {v0 : Int32} {v1 : Int32} {v2 : Nat} {x0 x1 x2 x3 x4 x5 x6 x7 x8 x9 : Option Value} : Wp S N d MX9_taxOf 256 [x0, x1, x2, x3, x4, x5, x6, x7, x8, x9] [.int v0, .int v1, .ref v2] I J P Q ↔ Wp S N d MX9_taxOf 257 [x0, x1, x2, x3, x4, x5, x6, x7, x8, x9] [.int 1, .int v0, .int v1, .ref v2] I J P Q := wp_iconst (by decide) dX9_taxOf_256
theorem e_X9_taxOf_257 {v0 : Int32} {v1 : Int32} {v2 : Int32} {v3 : Nat} {x0 x1 x2 x3 x4 x5 x6 x7 x8 x9 : Option Value} : Wp S N d MX9_taxOf 257 [x0, x1, x2, x3, x4, x5, x6, x7, x8, x9] [.int v0, .int v1, .int v2, .ref v3] I J P Q ↔ (¬ v1 = v0 → Wp S N d MX9_taxOf 265 [x0, x1, x2, x3, x4, x5, x6, x7, x8, x9] [.int v2, .ref v3] I J P Q) ∧ (v1 = v0 → Wp S N d MX9_taxOf 260 [x0, x1, x2, x3, x4, x5, x6, x7, x8, x9] [.int v2, .ref v3] I J P Q) := wp_brn rfl rfl (by decide) dX9_taxOf_257
theorem e_X9_taxOf_260 {v0 : Int32} {v1 : Nat} {w : Int64} {x0 x1 x2 x3 x4 x5 x6 x7 x9 : Option Value} : Wp S N d MX9_taxOf 260 [x0, x1, x2, x3, x4, x5, x6, x7, some (.long w), x9] [.int v0, .ref v1] I J P Q ↔ Wp S N d MX9_taxOf 262 [x0, x1, x2, x3, x4, x5, x6, x7, some (.long w), x9] [.long w, .int v0, .ref v1] I J P Q := wp_lod (len := 2) rfl rfl rfl rfl dX9_taxOf_260
theorem e_X9_taxOf_262 {v0 : Int64} {v1 : Int32} {v2 : Nat} {x0 x1 x2 x3 x4 x5 x6 x7 x8 x9 : Option Value} : Wp S N d MX9_taxOf 262 [x0, x1, x2, x3, x4, x5, x6, x7, x8, x9] [.long v0, .int v1, .ref v2] I J P Q ↔ Wp S N d MX9_taxOf 275 [x0, x1, x2, x3, x4, x5, x6, x7, x8, x9] [.long v0, .int v1, .ref v2] I J P Q := wp_go (len := 3) rfl (fun _ _ => rfl) rfl (by decide) dX9_taxOf_262
theorem e_X9_taxOf_265 {v0 : Int32} {v1 : Nat} {w : Int64} {x0 x1 x2 x3 x4 x5 x6 x7 x9 : Option Value} : Wp S N d MX9_taxOf 265 [x0, x1, x2, x3, x4, x5, x6, x7, some (.long w), x9] [.int v0, .ref v1] I J P Q ↔ Wp S N d MX9_taxOf 267 [x0, x1, x2, x3, x4, x5, x6, x7, some (.long w), x9] [.long w, .int v0, .ref v1] I J P Q := wp_lod (len := 2) rfl rfl rfl rfl dX9_taxOf_265
theorem e_X9_taxOf_267 {v0 : Int64} {v1 : Int32} {v2 : Nat} {w : Int64} {x0 x1 x2 x3 x4 x6 x7 x8 x9 : Option Value} : Wp S N d MX9_taxOf 267 [x0, x1, x2, x3, x4, some (.long w), x6, x7, x8, x9] [.long v0, .int v1, .ref v2] I J P Q ↔ Wp S N d MX9_taxOf 269 [x0, x1, x2, x3, x4, some (.long w), x6, x7, x8, x9] [.long w, .long v0, .int v1, .ref v2] I J P Q := wp_lod (len := 2) rfl rfl rfl rfl dX9_taxOf_267
theorem e_X9_taxOf_269 {v0 : Int64} {v1 : Int64} {v2 : Int32} {v3 : Nat} {x0 x1 x2 x3 x4 x5 x6 x7 x8 x9 : Option Value} : Wp S N (d + 1) MX9_taxOf 269 [x0, x1, x2, x3, x4, x5, x6, x7, x8, x9] [.long v0, .long v1, .int v2, .ref v3] I J P Q ↔ CWp S N d MX9_positive [.long v0] I J P (fun r I1 J1 P1 => Wp S N (d + 1) MX9_taxOf 272 [x0, x1, x2, x3, x4, x5, x6, x7, x8, x9] (r.toList ++ [.long v1, .int v2, .ref v3]) I1 J1 P1 Q) := wp_callS (M' := MX9_positive) (As := [.long v0]) rfl rfl rfl rfl (Nat.le_of_ble_eq_true rfl) dX9_taxOf_269
theorem e_X9_taxOf_272 {v0 : Int64} {v1 : Int64} {v2 : Int32} {v3 : Nat} {x0 x1 x2 x3 x4 x5 x6 x7 x8 x9 : Option Value} : Wp S N (d + 1) MX9_taxOf 272 [x0, x1, x2, x3, x4, x5, x6, x7, x8, x9] [.long v0, .long v1, .int v2, .ref v3] I J P Q ↔ CWp S N d MX9_lesser [.long v1, .long v0] I J P (fun r I1 J1 P1 => Wp S N (d + 1) MX9_taxOf 275 [x0, x1, x2, x3, x4, x5, x6, x7, x8, x9] (r.toList ++ [.int v2, .ref v3]) I1 J1 P1 Q) := wp_callS (M' := MX9_lesser) (As := [.long v1, .long v0]) rfl rfl rfl rfl (Nat.le_of_ble_eq_true rfl) dX9_taxOf_272
theorem e_X9_taxOf_275 {v0 : Int64} {v1 : Int32} {v2 : Nat} {x0 x1 x2 x3 x4 x5 x6 x7 x8 x9 : Option Value} : Wp S N d MX9_taxOf 275 [x0, x1, x2, x3, x4, x5, x6, x7, x8, x9] [.long v0, .int v1, .ref v2] I J P Q ↔ (S v2 = 11 ∧ vp_in v1 (N v2)) ∧ Wp S N d MX9_taxOf 276 [x0, x1, x2, x3, x4, x5, x6, x7, x8, x9] [] I (u2 J v2 v1.toNatClampNeg v0) P Q := wp_ast rfl rfl dX9_taxOf_275
theorem e_X9_taxOf_276 {w : Int64} {x0 x1 x2 x3 x4 x6 x7 x8 x9 : Option Value} : Wp S N d MX9_taxOf 276 [x0, x1, x2, x3, x4, some (.long w), x6, x7, x8, x9] [] I J P Q ↔ Wp S N d MX9_taxOf 278 [x0, x1, x2, x3, x4, some (.long w), x6, x7, x8, x9] [.long w] I J P Q := wp_lod (len := 2) rfl rfl rfl rfl dX9_taxOf_276
theorem e_X9_taxOf_278 {v0 : Int64} {w : Nat} {x1 x2 x3 x4 x5 x6 x7 x8 x9 : Option Value} : Wp S N d MX9_taxOf 278 [some (.ref w), x1, x2, x3, x4, x5, x6, x7, x8, x9] [.long v0] I J P Q ↔ Wp S N d MX9_taxOf 279 [some (.ref w), x1, x2, x3, x4, x5, x6, x7, x8, x9] [.ref w, .long v0] I J P Q := wp_lod (len := 1) rfl rfl rfl rfl dX9_taxOf_278
theorem e_X9_taxOf_279 {v0 : Nat} {v1 : Int64} {x0 x1 x2 x3 x4 x5 x6 x7 x8 x9 : Option Value} : Wp S N d MX9_taxOf 279 [x0, x1, x2, x3, x4, x5, x6, x7, x8, x9] [.ref v0, .long v1] I J P Q ↔ S v0 = 9 ∧ Wp S N d MX9_taxOf 282 [x0, x1, x2, x3, x4, x5, x6, x7, x8, x9] [va_rf (P v0 19), .long v1] I J P Q := wp_getf rfl rfl rfl rfl dX9_taxOf_279
theorem e_X9_taxOf_282 {v0 : Nat} {v1 : Int64} {w : Int32} {x0 x1 x2 x3 x4 x5 x6 x8 x9 : Option Value} : Wp S N d MX9_taxOf 282 [x0, x1, x2, x3, x4, x5, x6, some (.int w), x8, x9] [.ref v0, .long v1] I J P Q ↔ Wp S N d MX9_taxOf 284 [x0, x1, x2, x3, x4, x5, x6, some (.int w), x8, x9] [.int w, .ref v0, .long v1] I J P Q := wp_lod (len := 2) rfl rfl rfl rfl dX9_taxOf_282
theorem e_X9_taxOf_284 {v0 : Int32} {v1 : Nat} {v2 : Int64} {x0 x1 x2 x3 x4 x5 x6 x7 x8 x9 : Option Value} : Wp S N d MX9_taxOf 284 [x0, x1, x2, x3, x4, x5, x6, x7, x8, x9] [.int v0, .ref v1, .long v2] I J P Q ↔ (S v1 = 11 ∧ vp_in v0 (N v1)) ∧ Wp S N d MX9_taxOf 285 [x0, x1, x2, x3, x4, x5, x6, x7, x8, x9] [.long (J v1 v0.toNatClampNeg), .long v2] I J P Q := wp_ald rfl rfl dX9_taxOf_284
theorem e_X9_taxOf_285 {v0 : Int64} {v1 : Int64} {x0 x1 x2 x3 x4 x5 x6 x7 x8 x9 : Option Value} : Wp S N d MX9_taxOf 285 [x0, x1, x2, x3, x4, x5, x6, x7, x8, x9] [.long v0, .long v1] I J P Q ↔ Wp S N d MX9_taxOf 286 [x0, x1, x2, x3, x4, x5, x6, x7, x8, x9] [.long (v1 - v0)] I J P Q := wp_alu (len := 1) rfl rfl rfl dX9_taxOf_285
theorem e_X9_taxOf_286 {v0 : Int64} {x0 x1 x2 x3 x4 x5 x6 x7 x8 x9 : Option Value} : Wp S N d MX9_taxOf 286 [x0, x1, x2, x3, x4, x5, x6, x7, x8, x9] [.long v0] I J P Q ↔ Wp S N d MX9_taxOf 288 [x0, x1, x2, x3, kl x4, some (.long v0), none, x7, x8, x9] [] I J P Q := wp_sto (len := 2) rfl rfl rfl rfl (Nat.le_of_ble_eq_true rfl) rfl dX9_taxOf_286
theorem e_X9_taxOf_288 {w : Nat} {x1 x2 x3 x4 x5 x6 x7 x8 x9 : Option Value} : Wp S N d MX9_taxOf 288 [some (.ref w), x1, x2, x3, x4, x5, x6, x7, x8, x9] [] I J P Q ↔ Wp S N d MX9_taxOf 289 [some (.ref w), x1, x2, x3, x4, x5, x6, x7, x8, x9] [.ref w] I J P Q := wp_lod (len := 1) rfl rfl rfl rfl dX9_taxOf_288
theorem e_X9_taxOf_289 {v0 : Nat} {x0 x1 x2 x3 x4 x5 x6 x7 x8 x9 : Option Value} : Wp S N d MX9_taxOf 289 [x0, x1, x2, x3, x4, x5, x6, x7, x8, x9] [.ref v0] I J P Q ↔ S v0 = 9 ∧ Wp S N d MX9_taxOf 292 [x0, x1, x2, x3, x4, x5, x6, x7, x8, x9] [va_rf (P v0 20)] I J P Q := wp_getf rfl rfl rfl rfl dX9_taxOf_289
theorem e_X9_taxOf_292 {v0 : Nat} {w : Int32} {x0 x1 x2 x3 x4 x5 x6 x8 x9 : Option Value} : Wp S N d MX9_taxOf 292 [x0, x1, x2, x3, x4, x5, x6, some (.int w), x8, x9] [.ref v0] I J P Q ↔ Wp S N d MX9_taxOf 294 [x0, x1, x2, x3, x4, x5, x6, some (.int w), x8, x9] [.int w, .ref v0] I J P Q := wp_lod (len := 2) rfl rfl rfl rfl dX9_taxOf_292
theorem e_X9_taxOf_294 {v0 : Int32} {v1 : Nat} {w : Int64} {x0 x1 x2 x3 x4 x6 x7 x8 x9 : Option Value} : Wp S N d MX9_taxOf 294 [x0, x1, x2, x3, x4, some (.long w), x6, x7, x8, x9] [.int v0, .ref v1] I J P Q ↔ Wp S N d MX9_taxOf 296 [x0, x1, x2, x3, x4, some (.long w), x6, x7, x8, x9] [.long w, .int v0, .ref v1] I J P Q := wp_lod (len := 2) rfl rfl rfl rfl dX9_taxOf_294
theorem e_X9_taxOf_296 {v0 : Int64} {v1 : Int32} {v2 : Nat} {x0 x1 x2 x3 x4 x5 x6 x7 x8 x9 : Option Value} : Wp S N d MX9_taxOf 296 [x0, x1, x2, x3, x4, x5, x6, x7, x8, x9] [.long v0, .int v1, .ref v2] I J P Q ↔ (S v2 = 11 ∧ vp_in v1 (N v2)) ∧ Wp S N d MX9_taxOf 297 [x0, x1, x2, x3, x4, x5, x6, x7, x8, x9] [] I (u2 J v2 v1.toNatClampNeg v0) P Q := wp_ast rfl rfl dX9_taxOf_296
theorem e_X9_taxOf_297 {w : Int32} {x0 x1 x2 x3 x4 x5 x6 x8 x9 : Option Value} : Wp S N d MX9_taxOf 297 [x0, x1, x2, x3, x4, x5, x6, some (.int w), x8, x9] [] I J P Q ↔ Wp S N d MX9_taxOf 300 [x0, x1, x2, x3, x4, x5, kl x6, some (.int (w + 1)), x8, x9] [] I J P Q := wp_inc rfl rfl dX9_taxOf_297
theorem e_X9_taxOf_300  {x0 x1 x2 x3 x4 x5 x6 x7 x8 x9 : Option Value} : Wp S N d MX9_taxOf 300 [x0, x1, x2, x3, x4, x5, x6, x7, x8, x9] [] I J P Q ↔ Wp S N d MX9_taxOf 181 [x0, x1, x2, x3, x4, x5, x6, x7, x8, x9] [] I J P Q := wp_go (len := 3) rfl (fun _ _ => rfl) rfl (by decide) dX9_taxOf_300
theorem e_X9_taxOf_303 {w : Int64} {x0 x1 x2 x3 x4 x6 x7 x8 x9 : Option Value} : Wp S N d MX9_taxOf 303 [x0, x1, x2, x3, x4, some (.long w), x6, x7, x8, x9] [] I J P Q ↔ Wp S N d MX9_taxOf 305 [x0, x1, x2, x3, x4, some (.long w), x6, x7, x8, x9] [.long w] I J P Q := wp_lod (len := 2) rfl rfl rfl rfl dX9_taxOf_303
theorem e_X9_taxOf_305 {v0 : Int64} {x0 x1 x2 x3 x4 x5 x6 x7 x8 x9 : Option Value} : Wp S N d MX9_taxOf 305 [x0, x1, x2, x3, x4, x5, x6, x7, x8, x9] [.long v0] I J P Q ↔ Q (some (.long v0)) I J P := wp_lret rfl dX9_taxOf_305
theorem dX9_brings_0 : decode cX9_brings 0 = .ok (.iconst 0, 1) := by decide +kernel
theorem dX9_brings_1 : decode cX9_brings 1 = .ok (.istore_n 3, 1) := by decide +kernel
theorem dX9_brings_2 : decode cX9_brings 2 = .ok (.iload_n 3, 1) := by decide +kernel
theorem dX9_brings_3 : decode cX9_brings 3 = .ok (.bipush 6, 2) := by decide +kernel
theorem dX9_brings_5 : decode cX9_brings 5 = .ok (.if_icmp .ge 46, 3) := by decide +kernel
theorem dX9_brings_8 : decode cX9_brings 8 = .ok (.aload_n 0, 1) := by decide +kernel
theorem dX9_brings_9 : decode cX9_brings 9 = .ok (.getfield 42, 3) := by decide +kernel
theorem dX9_brings_12 : decode cX9_brings 12 = .ok (.iload_n 3, 1) := by decide +kernel
theorem dX9_brings_13 : decode cX9_brings 13 = .ok (.aload_n 0, 1) := by decide +kernel
theorem dX9_brings_14 : decode cX9_brings 14 = .ok (.getfield 13, 3) := by decide +kernel
theorem dX9_brings_17 : decode cX9_brings 17 = .ok (.bipush 6, 2) := by decide +kernel
theorem dX9_brings_19 : decode cX9_brings 19 = .ok (.iload_n 1, 1) := by decide +kernel
theorem dX9_brings_20 : decode cX9_brings 20 = .ok (.imul, 1) := by decide +kernel
theorem dX9_brings_21 : decode cX9_brings 21 = .ok (.iload_n 3, 1) := by decide +kernel
theorem dX9_brings_22 : decode cX9_brings 22 = .ok (.iadd, 1) := by decide +kernel
theorem dX9_brings_23 : decode cX9_brings 23 = .ok (.laload, 1) := by decide +kernel
theorem dX9_brings_24 : decode cX9_brings 24 = .ok (.iload_n 2, 1) := by decide +kernel
theorem dX9_brings_25 : decode cX9_brings 25 = .ok (.ifCond .ge 7, 3) := by decide +kernel
theorem dX9_brings_28 : decode cX9_brings 28 = .ok (.lconst 0, 1) := by decide +kernel
theorem dX9_brings_29 : decode cX9_brings 29 = .ok (.goto 14, 3) := by decide +kernel
theorem dX9_brings_32 : decode cX9_brings 32 = .ok (.aload_n 0, 1) := by decide +kernel
theorem dX9_brings_33 : decode cX9_brings 33 = .ok (.getfield 13, 3) := by decide +kernel
theorem dX9_brings_36 : decode cX9_brings 36 = .ok (.bipush 6, 2) := by decide +kernel
theorem dX9_brings_38 : decode cX9_brings 38 = .ok (.iload_n 2, 1) := by decide +kernel
theorem dX9_brings_39 : decode cX9_brings 39 = .ok (.imul, 1) := by decide +kernel
theorem dX9_brings_40 : decode cX9_brings 40 = .ok (.iload_n 3, 1) := by decide +kernel
theorem dX9_brings_41 : decode cX9_brings 41 = .ok (.iadd, 1) := by decide +kernel
theorem dX9_brings_42 : decode cX9_brings 42 = .ok (.laload, 1) := by decide +kernel
theorem dX9_brings_43 : decode cX9_brings 43 = .ok (.ladd, 1) := by decide +kernel
theorem dX9_brings_44 : decode cX9_brings 44 = .ok (.lastore, 1) := by decide +kernel
theorem dX9_brings_45 : decode cX9_brings 45 = .ok (.iinc 3 1, 3) := by decide +kernel
theorem dX9_brings_48 : decode cX9_brings 48 = .ok (.goto (-46), 3) := by decide +kernel
theorem dX9_brings_51 : decode cX9_brings 51 = .ok (.return_, 1) := by decide +kernel
theorem c_X9_brings {a0 : Nat} {a1 : Int32} {a2 : Int32} : CWp S N d MX9_brings [.ref a0, .int a1, .int a2] I J P Q ↔ Wp S N d MX9_brings 0 [some (.ref a0), some (.int a1), some (.int a2), none] [] I J P Q := by
  rw [cwp_iff]
  exact ⟨fun h => h.2, fun h => ⟨Nat.le_of_ble_eq_true rfl, h⟩⟩
theorem e_X9_brings_0  {x0 x1 x2 x3 : Option Value} : Wp S N d MX9_brings 0 [x0, x1, x2, x3] [] I J P Q ↔ Wp S N d MX9_brings 1 [x0, x1, x2, x3] [.int 0] I J P Q := wp_iconst (by decide) dX9_brings_0
theorem e_X9_brings_1 {v0 : Int32} {x0 x1 x2 x3 : Option Value} : Wp S N d MX9_brings 1 [x0, x1, x2, x3] [.int v0] I J P Q ↔ Wp S N d MX9_brings 2 [x0, x1, kl x2, some (.int v0)] [] I J P Q := wp_sto (len := 1) rfl rfl rfl rfl (Nat.le_of_ble_eq_true rfl) rfl dX9_brings_1
theorem e_X9_brings_2 {w : Int32} {x0 x1 x2 : Option Value} : Wp S N d MX9_brings 2 [x0, x1, x2, some (.int w)] [] I J P Q ↔ Wp S N d MX9_brings 3 [x0, x1, x2, some (.int w)] [.int w] I J P Q := wp_lod (len := 1) rfl rfl rfl rfl dX9_brings_2
theorem e_X9_brings_3 {v0 : Int32} {x0 x1 x2 x3 : Option Value} : Wp S N d MX9_brings 3 [x0, x1, x2, x3] [.int v0] I J P Q ↔ Wp S N d MX9_brings 5 [x0, x1, x2, x3] [.int 6, .int v0] I J P Q := wp_bipush (by decide) dX9_brings_3
theorem e_X9_brings_5 {v0 : Int32} {v1 : Int32} {x0 x1 x2 x3 : Option Value} : Wp S N d MX9_brings 5 [x0, x1, x2, x3] [.int v0, .int v1] I J P Q ↔ (v0 ≤ v1 → Wp S N d MX9_brings 51 [x0, x1, x2, x3] [] I J P Q) ∧ (¬ v0 ≤ v1 → Wp S N d MX9_brings 8 [x0, x1, x2, x3] [] I J P Q) := wp_br rfl rfl (by decide) dX9_brings_5
theorem e_X9_brings_8 {w : Nat} {x1 x2 x3 : Option Value} : Wp S N d MX9_brings 8 [some (.ref w), x1, x2, x3] [] I J P Q ↔ Wp S N d MX9_brings 9 [some (.ref w), x1, x2, x3] [.ref w] I J P Q := wp_lod (len := 1) rfl rfl rfl rfl dX9_brings_8
theorem e_X9_brings_9 {v0 : Nat} {x0 x1 x2 x3 : Option Value} : Wp S N d MX9_brings 9 [x0, x1, x2, x3] [.ref v0] I J P Q ↔ S v0 = 9 ∧ Wp S N d MX9_brings 12 [x0, x1, x2, x3] [va_rf (P v0 17)] I J P Q := wp_getf rfl rfl rfl rfl dX9_brings_9
theorem e_X9_brings_12 {v0 : Nat} {w : Int32} {x0 x1 x2 : Option Value} : Wp S N d MX9_brings 12 [x0, x1, x2, some (.int w)] [.ref v0] I J P Q ↔ Wp S N d MX9_brings 13 [x0, x1, x2, some (.int w)] [.int w, .ref v0] I J P Q := wp_lod (len := 1) rfl rfl rfl rfl dX9_brings_12
theorem e_X9_brings_13 {v0 : Int32} {v1 : Nat} {w : Nat} {x1 x2 x3 : Option Value} : Wp S N d MX9_brings 13 [some (.ref w), x1, x2, x3] [.int v0, .ref v1] I J P Q ↔ Wp S N d MX9_brings 14 [some (.ref w), x1, x2, x3] [.ref w, .int v0, .ref v1] I J P Q := wp_lod (len := 1) rfl rfl rfl rfl dX9_brings_13
theorem e_X9_brings_14 {v0 : Nat} {v1 : Int32} {v2 : Nat} {x0 x1 x2 x3 : Option Value} : Wp S N d MX9_brings 14 [x0, x1, x2, x3] [.ref v0, .int v1, .ref v2] I J P Q ↔ S v0 = 9 ∧ Wp S N d MX9_brings 17 [x0, x1, x2, x3] [va_rf (P v0 1), .int v1, .ref v2] I J P Q := wp_getf rfl rfl rfl rfl dX9_brings_14
theorem e_X9_brings_17 {v0 : Nat} {v1 : Int32} {v2 : Nat} {x0 x1 x2 x3 : Option Value} : Wp S N d MX9_brings 17 [x0, x1, x2, x3] [.ref v0, .int v1, .ref v2] I J P Q ↔ Wp S N d MX9_brings 19 [x0, x1, x2, x3] [.int 6, .ref v0, .int v1, .ref v2] I J P Q := wp_bipush (by decide) dX9_brings_17
theorem e_X9_brings_19 {v0 : Int32} {v1 : Nat} {v2 : Int32} {v3 : Nat} {w : Int32} {x0 x2 x3 : Option Value} : Wp S N d MX9_brings 19 [x0, some (.int w), x2, x3] [.int v0, .ref v1, .int v2, .ref v3] I J P Q ↔ Wp S N d MX9_brings 20 [x0, some (.int w), x2, x3] [.int w, .int v0, .ref v1, .int v2, .ref v3] I J P Q := wp_lod (len := 1) rfl rfl rfl rfl dX9_brings_19
theorem e_X9_brings_20 {v0 : Int32} {v1 : Int32} {v2 : Nat} {v3 : Int32} {v4 : Nat} {x0 x1 x2 x3 : Option Value} : Wp S N d MX9_brings 20 [x0, x1, x2, x3] [.int v0, .int v1, .ref v2, .int v3, .ref v4] I J P Q ↔ Wp S N d MX9_brings 21 [x0, x1, x2, x3] [.int (v1 * v0), .ref v2, .int v3, .ref v4] I J P Q := wp_alu (len := 1) rfl rfl rfl dX9_brings_20
theorem e_X9_brings_21 {v0 : Int32} {v1 : Nat} {v2 : Int32} {v3 : Nat} {w : Int32} {x0 x1 x2 : Option Value} : Wp S N d MX9_brings 21 [x0, x1, x2, some (.int w)] [.int v0, .ref v1, .int v2, .ref v3] I J P Q ↔ Wp S N d MX9_brings 22 [x0, x1, x2, some (.int w)] [.int w, .int v0, .ref v1, .int v2, .ref v3] I J P Q := wp_lod (len := 1) rfl rfl rfl rfl dX9_brings_21
theorem e_X9_brings_22 {v0 : Int32} {v1 : Int32} {v2 : Nat} {v3 : Int32} {v4 : Nat} {x0 x1 x2 x3 : Option Value} : Wp S N d MX9_brings 22 [x0, x1, x2, x3] [.int v0, .int v1, .ref v2, .int v3, .ref v4] I J P Q ↔ Wp S N d MX9_brings 23 [x0, x1, x2, x3] [.int (v1 + v0), .ref v2, .int v3, .ref v4] I J P Q := wp_alu (len := 1) rfl rfl rfl dX9_brings_22
theorem e_X9_brings_23 {v0 : Int32} {v1 : Nat} {v2 : Int32} {v3 : Nat} {x0 x1 x2 x3 : Option Value} : Wp S N d MX9_brings 23 [x0, x1, x2, x3] [.int v0, .ref v1, .int v2, .ref v3] I J P Q ↔ (S v1 = 11 ∧ vp_in v0 (N v1)) ∧ Wp S N d MX9_brings 24 [x0, x1, x2, x3] [.long (J v1 v0.toNatClampNeg), .int v2, .ref v3] I J P Q := wp_ald rfl rfl dX9_brings_23
theorem e_X9_brings_24 {v0 : Int64} {v1 : Int32} {v2 : Nat} {w : Int32} {x0 x1 x3 : Option Value} : Wp S N d MX9_brings 24 [x0, x1, some (.int w), x3] [.long v0, .int v1, .ref v2] I J P Q ↔ Wp S N d MX9_brings 25 [x0, x1, some (.int w), x3] [.int w, .long v0, .int v1, .ref v2] I J P Q := wp_lod (len := 1) rfl rfl rfl rfl dX9_brings_24
theorem e_X9_brings_25 {v0 : Int32} {v1 : Int64} {v2 : Int32} {v3 : Nat} {x0 x1 x2 x3 : Option Value} : Wp S N d MX9_brings 25 [x0, x1, x2, x3] [.int v0, .long v1, .int v2, .ref v3] I J P Q ↔ (0 ≤ v0 → Wp S N d MX9_brings 32 [x0, x1, x2, x3] [.long v1, .int v2, .ref v3] I J P Q) ∧ (¬ 0 ≤ v0 → Wp S N d MX9_brings 28 [x0, x1, x2, x3] [.long v1, .int v2, .ref v3] I J P Q) := wp_br rfl rfl (by decide) dX9_brings_25
theorem e_X9_brings_28 {v0 : Int64} {v1 : Int32} {v2 : Nat} {x0 x1 x2 x3 : Option Value} : Wp S N d MX9_brings 28 [x0, x1, x2, x3] [.long v0, .int v1, .ref v2] I J P Q ↔ Wp S N d MX9_brings 29 [x0, x1, x2, x3] [.long 0, .long v0, .int v1, .ref v2] I J P Q := wp_lconst (by decide) dX9_brings_28
theorem e_X9_brings_29 {v0 : Int64} {v1 : Int64} {v2 : Int32} {v3 : Nat} {x0 x1 x2 x3 : Option Value} : Wp S N d MX9_brings 29 [x0, x1, x2, x3] [.long v0, .long v1, .int v2, .ref v3] I J P Q ↔ Wp S N d MX9_brings 43 [x0, x1, x2, x3] [.long v0, .long v1, .int v2, .ref v3] I J P Q := wp_go (len := 3) rfl (fun _ _ => rfl) rfl (by decide) dX9_brings_29
theorem e_X9_brings_32 {v0 : Int64} {v1 : Int32} {v2 : Nat} {w : Nat} {x1 x2 x3 : Option Value} : Wp S N d MX9_brings 32 [some (.ref w), x1, x2, x3] [.long v0, .int v1, .ref v2] I J P Q ↔ Wp S N d MX9_brings 33 [some (.ref w), x1, x2, x3] [.ref w, .long v0, .int v1, .ref v2] I J P Q := wp_lod (len := 1) rfl rfl rfl rfl dX9_brings_32
theorem e_X9_brings_33 {v0 : Nat} {v1 : Int64} {v2 : Int32} {v3 : Nat} {x0 x1 x2 x3 : Option Value} : Wp S N d MX9_brings 33 [x0, x1, x2, x3] [.ref v0, .long v1, .int v2, .ref v3] I J P Q ↔ S v0 = 9 ∧ Wp S N d MX9_brings 36 [x0, x1, x2, x3] [va_rf (P v0 1), .long v1, .int v2, .ref v3] I J P Q := wp_getf rfl rfl rfl rfl dX9_brings_33
theorem e_X9_brings_36 {v0 : Nat} {v1 : Int64} {v2 : Int32} {v3 : Nat} {x0 x1 x2 x3 : Option Value} : Wp S N d MX9_brings 36 [x0, x1, x2, x3] [.ref v0, .long v1, .int v2, .ref v3] I J P Q ↔ Wp S N d MX9_brings 38 [x0, x1, x2, x3] [.int 6, .ref v0, .long v1, .int v2, .ref v3] I J P Q := wp_bipush (by decide) dX9_brings_36
theorem e_X9_brings_38 {v0 : Int32} {v1 : Nat} {v2 : Int64} {v3 : Int32} {v4 : Nat} {w : Int32} {x0 x1 x3 : Option Value} : Wp S N d MX9_brings 38 [x0, x1, some (.int w), x3] [.int v0, .ref v1, .long v2, .int v3, .ref v4] I J P Q ↔ Wp S N d MX9_brings 39 [x0, x1, some (.int w), x3] [.int w, .int v0, .ref v1, .long v2, .int v3, .ref v4] I J P Q := wp_lod (len := 1) rfl rfl rfl rfl dX9_brings_38
theorem e_X9_brings_39 {v0 : Int32} {v1 : Int32} {v2 : Nat} {v3 : Int64} {v4 : Int32} {v5 : Nat} {x0 x1 x2 x3 : Option Value} : Wp S N d MX9_brings 39 [x0, x1, x2, x3] [.int v0, .int v1, .ref v2, .long v3, .int v4, .ref v5] I J P Q ↔ Wp S N d MX9_brings 40 [x0, x1, x2, x3] [.int (v1 * v0), .ref v2, .long v3, .int v4, .ref v5] I J P Q := wp_alu (len := 1) rfl rfl rfl dX9_brings_39
theorem e_X9_brings_40 {v0 : Int32} {v1 : Nat} {v2 : Int64} {v3 : Int32} {v4 : Nat} {w : Int32} {x0 x1 x2 : Option Value} : Wp S N d MX9_brings 40 [x0, x1, x2, some (.int w)] [.int v0, .ref v1, .long v2, .int v3, .ref v4] I J P Q ↔ Wp S N d MX9_brings 41 [x0, x1, x2, some (.int w)] [.int w, .int v0, .ref v1, .long v2, .int v3, .ref v4] I J P Q := wp_lod (len := 1) rfl rfl rfl rfl dX9_brings_40
theorem e_X9_brings_41 {v0 : Int32} {v1 : Int32} {v2 : Nat} {v3 : Int64} {v4 : Int32} {v5 : Nat} {x0 x1 x2 x3 : Option Value} : Wp S N d MX9_brings 41 [x0, x1, x2, x3] [.int v0, .int v1, .ref v2, .long v3, .int v4, .ref v5] I J P Q ↔ Wp S N d MX9_brings 42 [x0, x1, x2, x3] [.int (v1 + v0), .ref v2, .long v3, .int v4, .ref v5] I J P Q := wp_alu (len := 1) rfl rfl rfl dX9_brings_41
theorem e_X9_brings_42 {v0 : Int32} {v1 : Nat} {v2 : Int64} {v3 : Int32} {v4 : Nat} {x0 x1 x2 x3 : Option Value} : Wp S N d MX9_brings 42 [x0, x1, x2, x3] [.int v0, .ref v1, .long v2, .int v3, .ref v4] I J P Q ↔ (S v1 = 11 ∧ vp_in v0 (N v1)) ∧ Wp S N d MX9_brings 43 [x0, x1, x2, x3] [.long (J v1 v0.toNatClampNeg), .long v2, .int v3, .ref v4] I J P Q := wp_ald rfl rfl dX9_brings_42
theorem e_X9_brings_43 {v0 : Int64} {v1 : Int64} {v2 : Int32} {v3 : Nat} {x0 x1 x2 x3 : Option Value} : Wp S N d MX9_brings 43 [x0, x1, x2, x3] [.long v0, .long v1, .int v2, .ref v3] I J P Q ↔ Wp S N d MX9_brings 44 [x0, x1, x2, x3] [.long (v1 + v0), .int v2, .ref v3] I J P Q := wp_alu (len := 1) rfl rfl rfl dX9_brings_43
theorem e_X9_brings_44 {v0 : Int64} {v1 : Int32} {v2 : Nat} {x0 x1 x2 x3 : Option Value} : Wp S N d MX9_brings 44 [x0, x1, x2, x3] [.long v0, .int v1, .ref v2] I J P Q ↔ (S v2 = 11 ∧ vp_in v1 (N v2)) ∧ Wp S N d MX9_brings 45 [x0, x1, x2, x3] [] I (u2 J v2 v1.toNatClampNeg v0) P Q := wp_ast rfl rfl dX9_brings_44
theorem e_X9_brings_45 {w : Int32} {x0 x1 x2 : Option Value} : Wp S N d MX9_brings 45 [x0, x1, x2, some (.int w)] [] I J P Q ↔ Wp S N d MX9_brings 48 [x0, x1, kl x2, some (.int (w + 1))] [] I J P Q := wp_inc rfl rfl dX9_brings_45
theorem e_X9_brings_48  {x0 x1 x2 x3 : Option Value} : Wp S N d MX9_brings 48 [x0, x1, x2, x3] [] I J P Q ↔ Wp S N d MX9_brings 2 [x0, x1, x2, x3] [] I J P Q := wp_go (len := 3) rfl (fun _ _ => rfl) rfl (by decide) dX9_brings_48
theorem e_X9_brings_51  {x0 x1 x2 x3 : Option Value} : Wp S N d MX9_brings 51 [x0, x1, x2, x3] [] I J P Q ↔ Q none I J P := wp_vret rfl dX9_brings_51
theorem dX9_alone_0 : decode cX9_alone 0 = .ok (.aload_n 0, 1) := by decide +kernel
theorem dX9_alone_1 : decode cX9_alone 1 = .ok (.iload_n 1, 1) := by decide +kernel
theorem dX9_alone_2 : decode cX9_alone 2 = .ok (.iconst (-1), 1) := by decide +kernel
theorem dX9_alone_3 : decode cX9_alone 3 = .ok (.invokevirtual 177, 3) := by decide +kernel
theorem dX9_alone_6 : decode cX9_alone 6 = .ok (.aload_n 0, 1) := by decide +kernel
theorem dX9_alone_7 : decode cX9_alone 7 = .ok (.iload_n 2, 1) := by decide +kernel
theorem dX9_alone_8 : decode cX9_alone 8 = .ok (.iload_n 2, 1) := by decide +kernel
theorem dX9_alone_9 : decode cX9_alone 9 = .ok (.aload_n 0, 1) := by decide +kernel
theorem dX9_alone_10 : decode cX9_alone 10 = .ok (.iload_n 1, 1) := by decide +kernel
theorem dX9_alone_11 : decode cX9_alone 11 = .ok (.iconst 1, 1) := by decide +kernel
theorem dX9_alone_12 : decode cX9_alone 12 = .ok (.invokevirtual 143, 3) := by decide +kernel
theorem dX9_alone_15 : decode cX9_alone 15 = .ok (.iadd, 1) := by decide +kernel
theorem dX9_alone_16 : decode cX9_alone 16 = .ok (.iload_n 3, 1) := by decide +kernel
theorem dX9_alone_17 : decode cX9_alone 17 = .ok (.iconst 1, 1) := by decide +kernel
theorem dX9_alone_18 : decode cX9_alone 18 = .ok (.invokevirtual 180, 3) := by decide +kernel
theorem dX9_alone_21 : decode cX9_alone 21 = .ok (.lreturn, 1) := by decide +kernel
theorem c_X9_alone {a0 : Nat} {a1 : Int32} {a2 : Int32} {a3 : Int32} : CWp S N d MX9_alone [.ref a0, .int a1, .int a2, .int a3] I J P Q ↔ Wp S N d MX9_alone 0 [some (.ref a0), some (.int a1), some (.int a2), some (.int a3)] [] I J P Q := by
  rw [cwp_iff]
  exact ⟨fun h => h.2, fun h => ⟨Nat.le_of_ble_eq_true rfl, h⟩⟩
theorem e_X9_alone_0 {w : Nat} {x1 x2 x3 : Option Value} : Wp S N d MX9_alone 0 [some (.ref w), x1, x2, x3] [] I J P Q ↔ Wp S N d MX9_alone 1 [some (.ref w), x1, x2, x3] [.ref w] I J P Q := wp_lod (len := 1) rfl rfl rfl rfl dX9_alone_0
theorem e_X9_alone_1 {v0 : Nat} {w : Int32} {x0 x2 x3 : Option Value} : Wp S N d MX9_alone 1 [x0, some (.int w), x2, x3] [.ref v0] I J P Q ↔ Wp S N d MX9_alone 2 [x0, some (.int w), x2, x3] [.int w, .ref v0] I J P Q := wp_lod (len := 1) rfl rfl rfl rfl dX9_alone_1
theorem e_X9_alone_2 {v0 : Int32} {v1 : Nat} {x0 x1 x2 x3 : Option Value} : Wp S N d MX9_alone 2 [x0, x1, x2, x3] [.int v0, .ref v1] I J P Q ↔ Wp S N d MX9_alone 3 [x0, x1, x2, x3] [.int (-1), .int v0, .ref v1] I J P Q := wp_iconst (by decide) dX9_alone_2
theorem e_X9_alone_3 {v0 : Int32} {v1 : Int32} {v2 : Nat} {x0 x1 x2 x3 : Option Value} : Wp S N (d + 1) MX9_alone 3 [x0, x1, x2, x3] [.int v0, .int v1, .ref v2] I J P Q ↔ S v2 = 9 ∧ CWp S N d MX9_brings [.ref v2, .int v1, .int v0] I J P (fun r I1 J1 P1 => Wp S N (d + 1) MX9_alone 6 [x0, x1, x2, x3] (r.toList ++ []) I1 J1 P1 Q) := wp_callV (M' := MX9_brings) (As := [.int v1, .int v0]) rfl rfl rfl rfl (by decide) (Nat.le_of_ble_eq_true rfl) dX9_alone_3
theorem e_X9_alone_6 {w : Nat} {x1 x2 x3 : Option Value} : Wp S N d MX9_alone 6 [some (.ref w), x1, x2, x3] [] I J P Q ↔ Wp S N d MX9_alone 7 [some (.ref w), x1, x2, x3] [.ref w] I J P Q := wp_lod (len := 1) rfl rfl rfl rfl dX9_alone_6
theorem e_X9_alone_7 {v0 : Nat} {w : Int32} {x0 x1 x3 : Option Value} : Wp S N d MX9_alone 7 [x0, x1, some (.int w), x3] [.ref v0] I J P Q ↔ Wp S N d MX9_alone 8 [x0, x1, some (.int w), x3] [.int w, .ref v0] I J P Q := wp_lod (len := 1) rfl rfl rfl rfl dX9_alone_7
theorem e_X9_alone_8 {v0 : Int32} {v1 : Nat} {w : Int32} {x0 x1 x3 : Option Value} : Wp S N d MX9_alone 8 [x0, x1, some (.int w), x3] [.int v0, .ref v1] I J P Q ↔ Wp S N d MX9_alone 9 [x0, x1, some (.int w), x3] [.int w, .int v0, .ref v1] I J P Q := wp_lod (len := 1) rfl rfl rfl rfl dX9_alone_8
theorem e_X9_alone_9 {v0 : Int32} {v1 : Int32} {v2 : Nat} {w : Nat} {x1 x2 x3 : Option Value} : Wp S N d MX9_alone 9 [some (.ref w), x1, x2, x3] [.int v0, .int v1, .ref v2] I J P Q ↔ Wp S N d MX9_alone 10 [some (.ref w), x1, x2, x3] [.ref w, .int v0, .int v1, .ref v2] I J P Q := wp_lod (len := 1) rfl rfl rfl rfl dX9_alone_9
theorem e_X9_alone_10 {v0 : Nat} {v1 : Int32} {v2 : Int32} {v3 : Nat} {w : Int32} {x0 x2 x3 : Option Value} : Wp S N d MX9_alone 10 [x0, some (.int w), x2, x3] [.ref v0, .int v1, .int v2, .ref v3] I J P Q ↔ Wp S N d MX9_alone 11 [x0, some (.int w), x2, x3] [.int w, .ref v0, .int v1, .int v2, .ref v3] I J P Q := wp_lod (len := 1) rfl rfl rfl rfl dX9_alone_10
theorem e_X9_alone_11 {v0 : Int32} {v1 : Nat} {v2 : Int32} {v3 : Int32} {v4 : Nat} {x0 x1 x2 x3 : Option Value} : Wp S N d MX9_alone 11 [x0, x1, x2, x3] [.int v0, .ref v1, .int v2, .int v3, .ref v4] I J P Q ↔ Wp S N d MX9_alone 12 [x0, x1, x2, x3] [.int 1, .int v0, .ref v1, .int v2, .int v3, .ref v4] I J P Q := wp_iconst (by decide) dX9_alone_11
theorem e_X9_alone_12 {v0 : Int32} {v1 : Int32} {v2 : Nat} {v3 : Int32} {v4 : Int32} {v5 : Nat} {x0 x1 x2 x3 : Option Value} : Wp S N (d + 1) MX9_alone 12 [x0, x1, x2, x3] [.int v0, .int v1, .ref v2, .int v3, .int v4, .ref v5] I J P Q ↔ S v2 = 9 ∧ CWp S N d MX9_of [.ref v2, .int v1, .int v0] I J P (fun r I1 J1 P1 => Wp S N (d + 1) MX9_alone 15 [x0, x1, x2, x3] (r.toList ++ [.int v3, .int v4, .ref v5]) I1 J1 P1 Q) := wp_callV (M' := MX9_of) (As := [.int v1, .int v0]) rfl rfl rfl rfl (by decide) (Nat.le_of_ble_eq_true rfl) dX9_alone_12
theorem e_X9_alone_15 {v0 : Int32} {v1 : Int32} {v2 : Int32} {v3 : Nat} {x0 x1 x2 x3 : Option Value} : Wp S N d MX9_alone 15 [x0, x1, x2, x3] [.int v0, .int v1, .int v2, .ref v3] I J P Q ↔ Wp S N d MX9_alone 16 [x0, x1, x2, x3] [.int (v1 + v0), .int v2, .ref v3] I J P Q := wp_alu (len := 1) rfl rfl rfl dX9_alone_15
theorem e_X9_alone_16 {v0 : Int32} {v1 : Int32} {v2 : Nat} {w : Int32} {x0 x1 x2 : Option Value} : Wp S N d MX9_alone 16 [x0, x1, x2, some (.int w)] [.int v0, .int v1, .ref v2] I J P Q ↔ Wp S N d MX9_alone 17 [x0, x1, x2, some (.int w)] [.int w, .int v0, .int v1, .ref v2] I J P Q := wp_lod (len := 1) rfl rfl rfl rfl dX9_alone_16
theorem e_X9_alone_17 {v0 : Int32} {v1 : Int32} {v2 : Int32} {v3 : Nat} {x0 x1 x2 x3 : Option Value} : Wp S N d MX9_alone 17 [x0, x1, x2, x3] [.int v0, .int v1, .int v2, .ref v3] I J P Q ↔ Wp S N d MX9_alone 18 [x0, x1, x2, x3] [.int 1, .int v0, .int v1, .int v2, .ref v3] I J P Q := wp_iconst (by decide) dX9_alone_17
theorem e_X9_alone_18 {v0 : Int32} {v1 : Int32} {v2 : Int32} {v3 : Int32} {v4 : Nat} {x0 x1 x2 x3 : Option Value} : Wp S N (d + 1) MX9_alone 18 [x0, x1, x2, x3] [.int v0, .int v1, .int v2, .int v3, .ref v4] I J P Q ↔ S v4 = 9 ∧ CWp S N d MX9_taxOf [.ref v4, .int v3, .int v2, .int v1, .int v0] I J P (fun r I1 J1 P1 => Wp S N (d + 1) MX9_alone 21 [x0, x1, x2, x3] (r.toList ++ []) I1 J1 P1 Q) := wp_callV (M' := MX9_taxOf) (As := [.int v3, .int v2, .int v1, .int v0]) rfl rfl rfl rfl (by decide) (Nat.le_of_ble_eq_true rfl) dX9_alone_18
theorem e_X9_alone_21 {v0 : Int64} {x0 x1 x2 x3 : Option Value} : Wp S N d MX9_alone 21 [x0, x1, x2, x3] [.long v0] I J P Q ↔ Q (some (.long v0)) I J P := wp_lret rfl dX9_alone_21
theorem dX9_taxOfPerson_0 : decode cX9_taxOfPerson 0 = .ok (.aload_n 0, 1) := by decide +kernel
theorem dX9_taxOfPerson_1 : decode cX9_taxOfPerson 1 = .ok (.iload_n 1, 1) := by decide +kernel
theorem dX9_taxOfPerson_2 : decode cX9_taxOfPerson 2 = .ok (.aload_n 0, 1) := by decide +kernel
theorem dX9_taxOfPerson_3 : decode cX9_taxOfPerson 3 = .ok (.iload_n 1, 1) := by decide +kernel
theorem dX9_taxOfPerson_4 : decode cX9_taxOfPerson 4 = .ok (.iconst 0, 1) := by decide +kernel
theorem dX9_taxOfPerson_5 : decode cX9_taxOfPerson 5 = .ok (.invokevirtual 143, 3) := by decide +kernel
theorem dX9_taxOfPerson_8 : decode cX9_taxOfPerson 8 = .ok (.aload_n 0, 1) := by decide +kernel
theorem dX9_taxOfPerson_9 : decode cX9_taxOfPerson 9 = .ok (.iload_n 1, 1) := by decide +kernel
theorem dX9_taxOfPerson_10 : decode cX9_taxOfPerson 10 = .ok (.iconst 2, 1) := by decide +kernel
theorem dX9_taxOfPerson_11 : decode cX9_taxOfPerson 11 = .ok (.invokevirtual 143, 3) := by decide +kernel
theorem dX9_taxOfPerson_14 : decode cX9_taxOfPerson 14 = .ok (.invokevirtual 184, 3) := by decide +kernel
theorem dX9_taxOfPerson_17 : decode cX9_taxOfPerson 17 = .ok (.lreturn, 1) := by decide +kernel
theorem c_X9_taxOfPerson {a0 : Nat} {a1 : Int32} : CWp S N d MX9_taxOfPerson [.ref a0, .int a1] I J P Q ↔ Wp S N d MX9_taxOfPerson 0 [some (.ref a0), some (.int a1)] [] I J P Q := by
  rw [cwp_iff]
  exact ⟨fun h => h.2, fun h => ⟨Nat.le_of_ble_eq_true rfl, h⟩⟩
theorem e_X9_taxOfPerson_0 {w : Nat} {x1 : Option Value} : Wp S N d MX9_taxOfPerson 0 [some (.ref w), x1] [] I J P Q ↔ Wp S N d MX9_taxOfPerson 1 [some (.ref w), x1] [.ref w] I J P Q := wp_lod (len := 1) rfl rfl rfl rfl dX9_taxOfPerson_0
theorem e_X9_taxOfPerson_1 {v0 : Nat} {w : Int32} {x0 : Option Value} : Wp S N d MX9_taxOfPerson 1 [x0, some (.int w)] [.ref v0] I J P Q ↔ Wp S N d MX9_taxOfPerson 2 [x0, some (.int w)] [.int w, .ref v0] I J P Q := wp_lod (len := 1) rfl rfl rfl rfl dX9_taxOfPerson_1
theorem e_X9_taxOfPerson_2 {v0 : Int32} {v1 : Nat} {w : Nat} {x1 : Option Value} : Wp S N d MX9_taxOfPerson 2 [some (.ref w), x1] [.int v0, .ref v1] I J P Q ↔ Wp S N d MX9_taxOfPerson 3 [some (.ref w), x1] [.ref w, .int v0, .ref v1] I J P Q := wp_lod (len := 1) rfl rfl rfl rfl dX9_taxOfPerson_2
theorem e_X9_taxOfPerson_3 {v0 : Nat} {v1 : Int32} {v2 : Nat} {w : Int32} {x0 : Option Value} : Wp S N d MX9_taxOfPerson 3 [x0, some (.int w)] [.ref v0, .int v1, .ref v2] I J P Q ↔ Wp S N d MX9_taxOfPerson 4 [x0, some (.int w)] [.int w, .ref v0, .int v1, .ref v2] I J P Q := wp_lod (len := 1) rfl rfl rfl rfl dX9_taxOfPerson_3
theorem e_X9_taxOfPerson_4 {v0 : Int32} {v1 : Nat} {v2 : Int32} {v3 : Nat} {x0 x1 : Option Value} : Wp S N d MX9_taxOfPerson 4 [x0, x1] [.int v0, .ref v1, .int v2, .ref v3] I J P Q ↔ Wp S N d MX9_taxOfPerson 5 [x0, x1] [.int 0, .int v0, .ref v1, .int v2, .ref v3] I J P Q := wp_iconst (by decide) dX9_taxOfPerson_4
theorem e_X9_taxOfPerson_5 {v0 : Int32} {v1 : Int32} {v2 : Nat} {v3 : Int32} {v4 : Nat} {x0 x1 : Option Value} : Wp S N (d + 1) MX9_taxOfPerson 5 [x0, x1] [.int v0, .int v1, .ref v2, .int v3, .ref v4] I J P Q ↔ S v2 = 9 ∧ CWp S N d MX9_of [.ref v2, .int v1, .int v0] I J P (fun r I1 J1 P1 => Wp S N (d + 1) MX9_taxOfPerson 8 [x0, x1] (r.toList ++ [.int v3, .ref v4]) I1 J1 P1 Q) := wp_callV (M' := MX9_of) (As := [.int v1, .int v0]) rfl rfl rfl rfl (by decide) (Nat.le_of_ble_eq_true rfl) dX9_taxOfPerson_5
theorem e_X9_taxOfPerson_8 {v0 : Int32} {v1 : Int32} {v2 : Nat} {w : Nat} {x1 : Option Value} : Wp S N d MX9_taxOfPerson 8 [some (.ref w), x1] [.int v0, .int v1, .ref v2] I J P Q ↔ Wp S N d MX9_taxOfPerson 9 [some (.ref w), x1] [.ref w, .int v0, .int v1, .ref v2] I J P Q := wp_lod (len := 1) rfl rfl rfl rfl dX9_taxOfPerson_8
theorem e_X9_taxOfPerson_9 {v0 : Nat} {v1 : Int32} {v2 : Int32} {v3 : Nat} {w : Int32} {x0 : Option Value} : Wp S N d MX9_taxOfPerson 9 [x0, some (.int w)] [.ref v0, .int v1, .int v2, .ref v3] I J P Q ↔ Wp S N d MX9_taxOfPerson 10 [x0, some (.int w)] [.int w, .ref v0, .int v1, .int v2, .ref v3] I J P Q := wp_lod (len := 1) rfl rfl rfl rfl dX9_taxOfPerson_9
theorem e_X9_taxOfPerson_10 {v0 : Int32} {v1 : Nat} {v2 : Int32} {v3 : Int32} {v4 : Nat} {x0 x1 : Option Value} : Wp S N d MX9_taxOfPerson 10 [x0, x1] [.int v0, .ref v1, .int v2, .int v3, .ref v4] I J P Q ↔ Wp S N d MX9_taxOfPerson 11 [x0, x1] [.int 2, .int v0, .ref v1, .int v2, .int v3, .ref v4] I J P Q := wp_iconst (by decide) dX9_taxOfPerson_10
theorem e_X9_taxOfPerson_11 {v0 : Int32} {v1 : Int32} {v2 : Nat} {v3 : Int32} {v4 : Int32} {v5 : Nat} {x0 x1 : Option Value} : Wp S N (d + 1) MX9_taxOfPerson 11 [x0, x1] [.int v0, .int v1, .ref v2, .int v3, .int v4, .ref v5] I J P Q ↔ S v2 = 9 ∧ CWp S N d MX9_of [.ref v2, .int v1, .int v0] I J P (fun r I1 J1 P1 => Wp S N (d + 1) MX9_taxOfPerson 14 [x0, x1] (r.toList ++ [.int v3, .int v4, .ref v5]) I1 J1 P1 Q) := wp_callV (M' := MX9_of) (As := [.int v1, .int v0]) rfl rfl rfl rfl (by decide) (Nat.le_of_ble_eq_true rfl) dX9_taxOfPerson_11
theorem e_X9_taxOfPerson_14 {v0 : Int32} {v1 : Int32} {v2 : Int32} {v3 : Nat} {x0 x1 : Option Value} : Wp S N (d + 1) MX9_taxOfPerson 14 [x0, x1] [.int v0, .int v1, .int v2, .ref v3] I J P Q ↔ S v3 = 9 ∧ CWp S N d MX9_alone [.ref v3, .int v2, .int v1, .int v0] I J P (fun r I1 J1 P1 => Wp S N (d + 1) MX9_taxOfPerson 17 [x0, x1] (r.toList ++ []) I1 J1 P1 Q) := wp_callV (M' := MX9_alone) (As := [.int v2, .int v1, .int v0]) rfl rfl rfl rfl (by decide) (Nat.le_of_ble_eq_true rfl) dX9_taxOfPerson_14
theorem e_X9_taxOfPerson_17 {v0 : Int64} {x0 x1 : Option Value} : Wp S N d MX9_taxOfPerson 17 [x0, x1] [.long v0] I J P Q ↔ Q (some (.long v0)) I J P := wp_lret rfl dX9_taxOfPerson_17
theorem dX9_tax_0 : decode cX9_tax 0 = .ok (.aload_n 0, 1) := by decide +kernel
theorem dX9_tax_1 : decode cX9_tax 1 = .ok (.iload_n 1, 1) := by decide +kernel
theorem dX9_tax_2 : decode cX9_tax 2 = .ok (.invokestatic 140, 3) := by decide +kernel
theorem dX9_tax_5 : decode cX9_tax 5 = .ok (.ifCond .eq 7, 3) := by decide +kernel
theorem dX9_tax_8 : decode cX9_tax 8 = .ok (.iconst 0, 1) := by decide +kernel
theorem dX9_tax_9 : decode cX9_tax 9 = .ok (.goto 4, 3) := by decide +kernel
theorem dX9_tax_12 : decode cX9_tax 12 = .ok (.iconst 1, 1) := by decide +kernel
theorem dX9_tax_13 : decode cX9_tax 13 = .ok (.putfield 57, 3) := by decide +kernel
theorem dX9_tax_16 : decode cX9_tax 16 = .ok (.aload_n 0, 1) := by decide +kernel
theorem dX9_tax_17 : decode cX9_tax 17 = .ok (.getfield 57, 3) := by decide +kernel
theorem dX9_tax_20 : decode cX9_tax 20 = .ok (.ifCond .le 7, 3) := by decide +kernel
theorem dX9_tax_23 : decode cX9_tax 23 = .ok (.lconst 0, 1) := by decide +kernel
theorem dX9_tax_24 : decode cX9_tax 24 = .ok (.goto 8, 3) := by decide +kernel
theorem dX9_tax_27 : decode cX9_tax 27 = .ok (.aload_n 0, 1) := by decide +kernel
theorem dX9_tax_28 : decode cX9_tax 28 = .ok (.iload_n 1, 1) := by decide +kernel
theorem dX9_tax_29 : decode cX9_tax 29 = .ok (.invokevirtual 187, 3) := by decide +kernel
theorem dX9_tax_32 : decode cX9_tax 32 = .ok (.lreturn, 1) := by decide +kernel
theorem c_X9_tax {a0 : Nat} {a1 : Int32} : CWp S N d MX9_tax [.ref a0, .int a1] I J P Q ↔ Wp S N d MX9_tax 0 [some (.ref a0), some (.int a1)] [] I J P Q := by
  rw [cwp_iff]
  exact ⟨fun h => h.2, fun h => ⟨Nat.le_of_ble_eq_true rfl, h⟩⟩
theorem e_X9_tax_0 {w : Nat} {x1 : Option Value} : Wp S N d MX9_tax 0 [some (.ref w), x1] [] I J P Q ↔ Wp S N d MX9_tax 1 [some (.ref w), x1] [.ref w] I J P Q := wp_lod (len := 1) rfl rfl rfl rfl dX9_tax_0
theorem e_X9_tax_1 {v0 : Nat} {w : Int32} {x0 : Option Value} : Wp S N d MX9_tax 1 [x0, some (.int w)] [.ref v0] I J P Q ↔ Wp S N d MX9_tax 2 [x0, some (.int w)] [.int w, .ref v0] I J P Q := wp_lod (len := 1) rfl rfl rfl rfl dX9_tax_1
theorem e_X9_tax_2 {v0 : Int32} {v1 : Nat} {x0 x1 : Option Value} : Wp S N (d + 1) MX9_tax 2 [x0, x1] [.int v0, .ref v1] I J P Q ↔ CWp S N d MX9_isPerson [.int v0] I J P (fun r I1 J1 P1 => Wp S N (d + 1) MX9_tax 5 [x0, x1] (r.toList ++ [.ref v1]) I1 J1 P1 Q) := wp_callS (M' := MX9_isPerson) (As := [.int v0]) rfl rfl rfl rfl (Nat.le_of_ble_eq_true rfl) dX9_tax_2
theorem e_X9_tax_5 {v0 : Int32} {v1 : Nat} {x0 x1 : Option Value} : Wp S N d MX9_tax 5 [x0, x1] [.int v0, .ref v1] I J P Q ↔ (v0 = 0 → Wp S N d MX9_tax 12 [x0, x1] [.ref v1] I J P Q) ∧ (¬ v0 = 0 → Wp S N d MX9_tax 8 [x0, x1] [.ref v1] I J P Q) := wp_br rfl rfl (by decide) dX9_tax_5
theorem e_X9_tax_8 {v0 : Nat} {x0 x1 : Option Value} : Wp S N d MX9_tax 8 [x0, x1] [.ref v0] I J P Q ↔ Wp S N d MX9_tax 9 [x0, x1] [.int 0, .ref v0] I J P Q := wp_iconst (by decide) dX9_tax_8
theorem e_X9_tax_9 {v0 : Int32} {v1 : Nat} {x0 x1 : Option Value} : Wp S N d MX9_tax 9 [x0, x1] [.int v0, .ref v1] I J P Q ↔ Wp S N d MX9_tax 13 [x0, x1] [.int v0, .ref v1] I J P Q := wp_go (len := 3) rfl (fun _ _ => rfl) rfl (by decide) dX9_tax_9
theorem e_X9_tax_12 {v0 : Nat} {x0 x1 : Option Value} : Wp S N d MX9_tax 12 [x0, x1] [.ref v0] I J P Q ↔ Wp S N d MX9_tax 13 [x0, x1] [.int 1, .ref v0] I J P Q := wp_iconst (by decide) dX9_tax_12
theorem e_X9_tax_13 {v0 : Int32} {v1 : Nat} {x0 x1 : Option Value} : Wp S N d MX9_tax 13 [x0, x1] [.int v0, .ref v1] I J P Q ↔ S v1 = 9 ∧ Wp S N d MX9_tax 16 [x0, x1] [] (u2 I v1 8 v0) J P Q := wp_putI rfl rfl rfl rfl dX9_tax_13
theorem e_X9_tax_16 {w : Nat} {x1 : Option Value} : Wp S N d MX9_tax 16 [some (.ref w), x1] [] I J P Q ↔ Wp S N d MX9_tax 17 [some (.ref w), x1] [.ref w] I J P Q := wp_lod (len := 1) rfl rfl rfl rfl dX9_tax_16
theorem e_X9_tax_17 {v0 : Nat} {x0 x1 : Option Value} : Wp S N d MX9_tax 17 [x0, x1] [.ref v0] I J P Q ↔ S v0 = 9 ∧ Wp S N d MX9_tax 20 [x0, x1] [.int (I v0 8)] I J P Q := wp_getf rfl rfl rfl rfl dX9_tax_17
theorem e_X9_tax_20 {v0 : Int32} {x0 x1 : Option Value} : Wp S N d MX9_tax 20 [x0, x1] [.int v0] I J P Q ↔ (v0 ≤ 0 → Wp S N d MX9_tax 27 [x0, x1] [] I J P Q) ∧ (¬ v0 ≤ 0 → Wp S N d MX9_tax 23 [x0, x1] [] I J P Q) := wp_br rfl rfl (by decide) dX9_tax_20
theorem e_X9_tax_23  {x0 x1 : Option Value} : Wp S N d MX9_tax 23 [x0, x1] [] I J P Q ↔ Wp S N d MX9_tax 24 [x0, x1] [.long 0] I J P Q := wp_lconst (by decide) dX9_tax_23
theorem e_X9_tax_24 {v0 : Int64} {x0 x1 : Option Value} : Wp S N d MX9_tax 24 [x0, x1] [.long v0] I J P Q ↔ Wp S N d MX9_tax 32 [x0, x1] [.long v0] I J P Q := wp_go (len := 3) rfl (fun _ _ => rfl) rfl (by decide) dX9_tax_24
theorem e_X9_tax_27 {w : Nat} {x1 : Option Value} : Wp S N d MX9_tax 27 [some (.ref w), x1] [] I J P Q ↔ Wp S N d MX9_tax 28 [some (.ref w), x1] [.ref w] I J P Q := wp_lod (len := 1) rfl rfl rfl rfl dX9_tax_27
theorem e_X9_tax_28 {v0 : Nat} {w : Int32} {x0 : Option Value} : Wp S N d MX9_tax 28 [x0, some (.int w)] [.ref v0] I J P Q ↔ Wp S N d MX9_tax 29 [x0, some (.int w)] [.int w, .ref v0] I J P Q := wp_lod (len := 1) rfl rfl rfl rfl dX9_tax_28
theorem e_X9_tax_29 {v0 : Int32} {v1 : Nat} {x0 x1 : Option Value} : Wp S N (d + 1) MX9_tax 29 [x0, x1] [.int v0, .ref v1] I J P Q ↔ S v1 = 9 ∧ CWp S N d MX9_taxOfPerson [.ref v1, .int v0] I J P (fun r I1 J1 P1 => Wp S N (d + 1) MX9_tax 32 [x0, x1] (r.toList ++ []) I1 J1 P1 Q) := wp_callV (M' := MX9_taxOfPerson) (As := [.int v0]) rfl rfl rfl rfl (by decide) (Nat.le_of_ble_eq_true rfl) dX9_tax_29
theorem e_X9_tax_32 {v0 : Int64} {x0 x1 : Option Value} : Wp S N d MX9_tax 32 [x0, x1] [.long v0] I J P Q ↔ Q (some (.long v0)) I J P := wp_lret rfl dX9_tax_32
theorem dX9_taxPart_0 : decode cX9_taxPart 0 = .ok (.aload_n 0, 1) := by decide +kernel
theorem dX9_taxPart_1 : decode cX9_taxPart 1 = .ok (.iload_n 1, 1) := by decide +kernel
theorem dX9_taxPart_2 : decode cX9_taxPart 2 = .ok (.invokestatic 140, 3) := by decide +kernel
theorem dX9_taxPart_5 : decode cX9_taxPart 5 = .ok (.ifCond .eq 20, 3) := by decide +kernel
theorem dX9_taxPart_8 : decode cX9_taxPart 8 = .ok (.iload_n 2, 1) := by decide +kernel
theorem dX9_taxPart_9 : decode cX9_taxPart 9 = .ok (.iconst 0, 1) := by decide +kernel
theorem dX9_taxPart_10 : decode cX9_taxPart 10 = .ok (.iconst 5, 1) := by decide +kernel
theorem dX9_taxPart_11 : decode cX9_taxPart 11 = .ok (.invokestatic 60, 3) := by decide +kernel
theorem dX9_taxPart_14 : decode cX9_taxPart 14 = .ok (.ifCond .eq 7, 3) := by decide +kernel
theorem dX9_taxPart_17 : decode cX9_taxPart 17 = .ok (.iconst 0, 1) := by decide +kernel
theorem dX9_taxPart_18 : decode cX9_taxPart 18 = .ok (.goto 8, 3) := by decide +kernel
theorem dX9_taxPart_21 : decode cX9_taxPart 21 = .ok (.iconst 2, 1) := by decide +kernel
theorem dX9_taxPart_22 : decode cX9_taxPart 22 = .ok (.goto 4, 3) := by decide +kernel
theorem dX9_taxPart_25 : decode cX9_taxPart 25 = .ok (.iconst 1, 1) := by decide +kernel
theorem dX9_taxPart_26 : decode cX9_taxPart 26 = .ok (.putfield 57, 3) := by decide +kernel
theorem dX9_taxPart_29 : decode cX9_taxPart 29 = .ok (.aload_n 0, 1) := by decide +kernel
theorem dX9_taxPart_30 : decode cX9_taxPart 30 = .ok (.getfield 57, 3) := by decide +kernel
theorem dX9_taxPart_33 : decode cX9_taxPart 33 = .ok (.ifCond .le 5, 3) := by decide +kernel
theorem dX9_taxPart_36 : decode cX9_taxPart 36 = .ok (.lconst 0, 1) := by decide +kernel
theorem dX9_taxPart_37 : decode cX9_taxPart 37 = .ok (.lreturn, 1) := by decide +kernel
theorem dX9_taxPart_38 : decode cX9_taxPart 38 = .ok (.aload_n 0, 1) := by decide +kernel
theorem dX9_taxPart_39 : decode cX9_taxPart 39 = .ok (.iload_n 1, 1) := by decide +kernel
theorem dX9_taxPart_40 : decode cX9_taxPart 40 = .ok (.invokevirtual 187, 3) := by decide +kernel
theorem dX9_taxPart_43 : decode cX9_taxPart 43 = .ok (.pop2, 1) := by decide +kernel
theorem dX9_taxPart_44 : decode cX9_taxPart 44 = .ok (.aload_n 0, 1) := by decide +kernel
theorem dX9_taxPart_45 : decode cX9_taxPart 45 = .ok (.getfield 39, 3) := by decide +kernel
theorem dX9_taxPart_48 : decode cX9_taxPart 48 = .ok (.iload_n 2, 1) := by decide +kernel
theorem dX9_taxPart_49 : decode cX9_taxPart 49 = .ok (.laload, 1) := by decide +kernel
theorem dX9_taxPart_50 : decode cX9_taxPart 50 = .ok (.lreturn, 1) := by decide +kernel
theorem c_X9_taxPart {a0 : Nat} {a1 : Int32} {a2 : Int32} : CWp S N d MX9_taxPart [.ref a0, .int a1, .int a2] I J P Q ↔ Wp S N d MX9_taxPart 0 [some (.ref a0), some (.int a1), some (.int a2)] [] I J P Q := by
  rw [cwp_iff]
  exact ⟨fun h => h.2, fun h => ⟨Nat.le_of_ble_eq_true rfl, h⟩⟩
theorem e_X9_taxPart_0 {w : Nat} {x1 x2 : Option Value} : Wp S N d MX9_taxPart 0 [some (.ref w), x1, x2] [] I J P Q ↔ Wp S N d MX9_taxPart 1 [some (.ref w), x1, x2] [.ref w] I J P Q := wp_lod (len := 1) rfl rfl rfl rfl dX9_taxPart_0
theorem e_X9_taxPart_1 {v0 : Nat} {w : Int32} {x0 x2 : Option Value} : Wp S N d MX9_taxPart 1 [x0, some (.int w), x2] [.ref v0] I J P Q ↔ Wp S N d MX9_taxPart 2 [x0, some (.int w), x2] [.int w, .ref v0] I J P Q := wp_lod (len := 1) rfl rfl rfl rfl dX9_taxPart_1
theorem e_X9_taxPart_2 {v0 : Int32} {v1 : Nat} {x0 x1 x2 : Option Value} : Wp S N (d + 1) MX9_taxPart 2 [x0, x1, x2] [.int v0, .ref v1] I J P Q ↔ CWp S N d MX9_isPerson [.int v0] I J P (fun r I1 J1 P1 => Wp S N (d + 1) MX9_taxPart 5 [x0, x1, x2] (r.toList ++ [.ref v1]) I1 J1 P1 Q) := wp_callS (M' := MX9_isPerson) (As := [.int v0]) rfl rfl rfl rfl (Nat.le_of_ble_eq_true rfl) dX9_taxPart_2
theorem e_X9_taxPart_5 {v0 : Int32} {v1 : Nat} {x0 x1 x2 : Option Value} : Wp S N d MX9_taxPart 5 [x0, x1, x2] [.int v0, .ref v1] I J P Q ↔ (v0 = 0 → Wp S N d MX9_taxPart 25 [x0, x1, x2] [.ref v1] I J P Q) ∧ (¬ v0 = 0 → Wp S N d MX9_taxPart 8 [x0, x1, x2] [.ref v1] I J P Q) := wp_br rfl rfl (by decide) dX9_taxPart_5
theorem e_X9_taxPart_8 {v0 : Nat} {w : Int32} {x0 x1 : Option Value} : Wp S N d MX9_taxPart 8 [x0, x1, some (.int w)] [.ref v0] I J P Q ↔ Wp S N d MX9_taxPart 9 [x0, x1, some (.int w)] [.int w, .ref v0] I J P Q := wp_lod (len := 1) rfl rfl rfl rfl dX9_taxPart_8
theorem e_X9_taxPart_9 {v0 : Int32} {v1 : Nat} {x0 x1 x2 : Option Value} : Wp S N d MX9_taxPart 9 [x0, x1, x2] [.int v0, .ref v1] I J P Q ↔ Wp S N d MX9_taxPart 10 [x0, x1, x2] [.int 0, .int v0, .ref v1] I J P Q := wp_iconst (by decide) dX9_taxPart_9
theorem e_X9_taxPart_10 {v0 : Int32} {v1 : Int32} {v2 : Nat} {x0 x1 x2 : Option Value} : Wp S N d MX9_taxPart 10 [x0, x1, x2] [.int v0, .int v1, .ref v2] I J P Q ↔ Wp S N d MX9_taxPart 11 [x0, x1, x2] [.int 5, .int v0, .int v1, .ref v2] I J P Q := wp_iconst (by decide) dX9_taxPart_10
theorem e_X9_taxPart_11 {v0 : Int32} {v1 : Int32} {v2 : Int32} {v3 : Nat} {x0 x1 x2 : Option Value} : Wp S N (d + 1) MX9_taxPart 11 [x0, x1, x2] [.int v0, .int v1, .int v2, .ref v3] I J P Q ↔ CWp S N d MX9_in [.int v2, .int v1, .int v0] I J P (fun r I1 J1 P1 => Wp S N (d + 1) MX9_taxPart 14 [x0, x1, x2] (r.toList ++ [.ref v3]) I1 J1 P1 Q) := wp_callS (M' := MX9_in) (As := [.int v2, .int v1, .int v0]) rfl rfl rfl rfl (Nat.le_of_ble_eq_true rfl) dX9_taxPart_11
theorem e_X9_taxPart_14 {v0 : Int32} {v1 : Nat} {x0 x1 x2 : Option Value} : Wp S N d MX9_taxPart 14 [x0, x1, x2] [.int v0, .ref v1] I J P Q ↔ (v0 = 0 → Wp S N d MX9_taxPart 21 [x0, x1, x2] [.ref v1] I J P Q) ∧ (¬ v0 = 0 → Wp S N d MX9_taxPart 17 [x0, x1, x2] [.ref v1] I J P Q) := wp_br rfl rfl (by decide) dX9_taxPart_14
theorem e_X9_taxPart_17 {v0 : Nat} {x0 x1 x2 : Option Value} : Wp S N d MX9_taxPart 17 [x0, x1, x2] [.ref v0] I J P Q ↔ Wp S N d MX9_taxPart 18 [x0, x1, x2] [.int 0, .ref v0] I J P Q := wp_iconst (by decide) dX9_taxPart_17
theorem e_X9_taxPart_18 {v0 : Int32} {v1 : Nat} {x0 x1 x2 : Option Value} : Wp S N d MX9_taxPart 18 [x0, x1, x2] [.int v0, .ref v1] I J P Q ↔ Wp S N d MX9_taxPart 26 [x0, x1, x2] [.int v0, .ref v1] I J P Q := wp_go (len := 3) rfl (fun _ _ => rfl) rfl (by decide) dX9_taxPart_18
theorem e_X9_taxPart_21 {v0 : Nat} {x0 x1 x2 : Option Value} : Wp S N d MX9_taxPart 21 [x0, x1, x2] [.ref v0] I J P Q ↔ Wp S N d MX9_taxPart 22 [x0, x1, x2] [.int 2, .ref v0] I J P Q := wp_iconst (by decide) dX9_taxPart_21
theorem e_X9_taxPart_22 {v0 : Int32} {v1 : Nat} {x0 x1 x2 : Option Value} : Wp S N d MX9_taxPart 22 [x0, x1, x2] [.int v0, .ref v1] I J P Q ↔ Wp S N d MX9_taxPart 26 [x0, x1, x2] [.int v0, .ref v1] I J P Q := wp_go (len := 3) rfl (fun _ _ => rfl) rfl (by decide) dX9_taxPart_22
theorem e_X9_taxPart_25 {v0 : Nat} {x0 x1 x2 : Option Value} : Wp S N d MX9_taxPart 25 [x0, x1, x2] [.ref v0] I J P Q ↔ Wp S N d MX9_taxPart 26 [x0, x1, x2] [.int 1, .ref v0] I J P Q := wp_iconst (by decide) dX9_taxPart_25
theorem e_X9_taxPart_26 {v0 : Int32} {v1 : Nat} {x0 x1 x2 : Option Value} : Wp S N d MX9_taxPart 26 [x0, x1, x2] [.int v0, .ref v1] I J P Q ↔ S v1 = 9 ∧ Wp S N d MX9_taxPart 29 [x0, x1, x2] [] (u2 I v1 8 v0) J P Q := wp_putI rfl rfl rfl rfl dX9_taxPart_26
theorem e_X9_taxPart_29 {w : Nat} {x1 x2 : Option Value} : Wp S N d MX9_taxPart 29 [some (.ref w), x1, x2] [] I J P Q ↔ Wp S N d MX9_taxPart 30 [some (.ref w), x1, x2] [.ref w] I J P Q := wp_lod (len := 1) rfl rfl rfl rfl dX9_taxPart_29
theorem e_X9_taxPart_30 {v0 : Nat} {x0 x1 x2 : Option Value} : Wp S N d MX9_taxPart 30 [x0, x1, x2] [.ref v0] I J P Q ↔ S v0 = 9 ∧ Wp S N d MX9_taxPart 33 [x0, x1, x2] [.int (I v0 8)] I J P Q := wp_getf rfl rfl rfl rfl dX9_taxPart_30
theorem e_X9_taxPart_33 {v0 : Int32} {x0 x1 x2 : Option Value} : Wp S N d MX9_taxPart 33 [x0, x1, x2] [.int v0] I J P Q ↔ (v0 ≤ 0 → Wp S N d MX9_taxPart 38 [x0, x1, x2] [] I J P Q) ∧ (¬ v0 ≤ 0 → Wp S N d MX9_taxPart 36 [x0, x1, x2] [] I J P Q) := wp_br rfl rfl (by decide) dX9_taxPart_33
theorem e_X9_taxPart_36  {x0 x1 x2 : Option Value} : Wp S N d MX9_taxPart 36 [x0, x1, x2] [] I J P Q ↔ Wp S N d MX9_taxPart 37 [x0, x1, x2] [.long 0] I J P Q := wp_lconst (by decide) dX9_taxPart_36
theorem e_X9_taxPart_37 {v0 : Int64} {x0 x1 x2 : Option Value} : Wp S N d MX9_taxPart 37 [x0, x1, x2] [.long v0] I J P Q ↔ Q (some (.long v0)) I J P := wp_lret rfl dX9_taxPart_37
theorem e_X9_taxPart_38 {w : Nat} {x1 x2 : Option Value} : Wp S N d MX9_taxPart 38 [some (.ref w), x1, x2] [] I J P Q ↔ Wp S N d MX9_taxPart 39 [some (.ref w), x1, x2] [.ref w] I J P Q := wp_lod (len := 1) rfl rfl rfl rfl dX9_taxPart_38
theorem e_X9_taxPart_39 {v0 : Nat} {w : Int32} {x0 x2 : Option Value} : Wp S N d MX9_taxPart 39 [x0, some (.int w), x2] [.ref v0] I J P Q ↔ Wp S N d MX9_taxPart 40 [x0, some (.int w), x2] [.int w, .ref v0] I J P Q := wp_lod (len := 1) rfl rfl rfl rfl dX9_taxPart_39
theorem e_X9_taxPart_40 {v0 : Int32} {v1 : Nat} {x0 x1 x2 : Option Value} : Wp S N (d + 1) MX9_taxPart 40 [x0, x1, x2] [.int v0, .ref v1] I J P Q ↔ S v1 = 9 ∧ CWp S N d MX9_taxOfPerson [.ref v1, .int v0] I J P (fun r I1 J1 P1 => Wp S N (d + 1) MX9_taxPart 43 [x0, x1, x2] (r.toList ++ []) I1 J1 P1 Q) := wp_callV (M' := MX9_taxOfPerson) (As := [.int v0]) rfl rfl rfl rfl (by decide) (Nat.le_of_ble_eq_true rfl) dX9_taxPart_40
theorem e_X9_taxPart_43 {v0 : Int64} {x0 x1 x2 : Option Value} : Wp S N d MX9_taxPart 43 [x0, x1, x2] [.long v0] I J P Q ↔ Wp S N d MX9_taxPart 44 [x0, x1, x2] [] I J P Q := wp_alu (len := 1) rfl rfl rfl dX9_taxPart_43
theorem e_X9_taxPart_44 {w : Nat} {x1 x2 : Option Value} : Wp S N d MX9_taxPart 44 [some (.ref w), x1, x2] [] I J P Q ↔ Wp S N d MX9_taxPart 45 [some (.ref w), x1, x2] [.ref w] I J P Q := wp_lod (len := 1) rfl rfl rfl rfl dX9_taxPart_44
theorem e_X9_taxPart_45 {v0 : Nat} {x0 x1 x2 : Option Value} : Wp S N d MX9_taxPart 45 [x0, x1, x2] [.ref v0] I J P Q ↔ S v0 = 9 ∧ Wp S N d MX9_taxPart 48 [x0, x1, x2] [va_rf (P v0 16)] I J P Q := wp_getf rfl rfl rfl rfl dX9_taxPart_45
theorem e_X9_taxPart_48 {v0 : Nat} {w : Int32} {x0 x1 : Option Value} : Wp S N d MX9_taxPart 48 [x0, x1, some (.int w)] [.ref v0] I J P Q ↔ Wp S N d MX9_taxPart 49 [x0, x1, some (.int w)] [.int w, .ref v0] I J P Q := wp_lod (len := 1) rfl rfl rfl rfl dX9_taxPart_48
theorem e_X9_taxPart_49 {v0 : Int32} {v1 : Nat} {x0 x1 x2 : Option Value} : Wp S N d MX9_taxPart 49 [x0, x1, x2] [.int v0, .ref v1] I J P Q ↔ (S v1 = 11 ∧ vp_in v0 (N v1)) ∧ Wp S N d MX9_taxPart 50 [x0, x1, x2] [.long (J v1 v0.toNatClampNeg)] I J P Q := wp_ald rfl rfl dX9_taxPart_49
theorem e_X9_taxPart_50 {v0 : Int64} {x0 x1 x2 : Option Value} : Wp S N d MX9_taxPart 50 [x0, x1, x2] [.long v0] I J P Q ↔ Q (some (.long v0)) I J P := wp_lret rfl dX9_taxPart_50
theorem dX9_unused_0 : decode cX9_unused 0 = .ok (.aload_n 0, 1) := by decide +kernel
theorem dX9_unused_1 : decode cX9_unused 1 = .ok (.iload_n 1, 1) := by decide +kernel
theorem dX9_unused_2 : decode cX9_unused 2 = .ok (.iconst 0, 1) := by decide +kernel
theorem dX9_unused_3 : decode cX9_unused 3 = .ok (.invokevirtual 129, 3) := by decide +kernel
theorem dX9_unused_6 : decode cX9_unused 6 = .ok (.iload_n 2, 1) := by decide +kernel
theorem dX9_unused_7 : decode cX9_unused 7 = .ok (.if_icmp .ne 35, 3) := by decide +kernel
theorem dX9_unused_10 : decode cX9_unused 10 = .ok (.aload_n 0, 1) := by decide +kernel
theorem dX9_unused_11 : decode cX9_unused 11 = .ok (.getfield 45, 3) := by decide +kernel
theorem dX9_unused_14 : decode cX9_unused 14 = .ok (.iload_n 1, 1) := by decide +kernel
theorem dX9_unused_15 : decode cX9_unused 15 = .ok (.laload, 1) := by decide +kernel
theorem dX9_unused_16 : decode cX9_unused 16 = .ok (.iload_n 2, 1) := by decide +kernel
theorem dX9_unused_17 : decode cX9_unused 17 = .ok (.iconst 2, 1) := by decide +kernel
theorem dX9_unused_18 : decode cX9_unused 18 = .ok (.if_icmp .ne 12, 3) := by decide +kernel
theorem dX9_unused_21 : decode cX9_unused 21 = .ok (.aload_n 0, 1) := by decide +kernel
theorem dX9_unused_22 : decode cX9_unused 22 = .ok (.getfield 42, 3) := by decide +kernel
theorem dX9_unused_25 : decode cX9_unused 25 = .ok (.iload_n 1, 1) := by decide +kernel
theorem dX9_unused_26 : decode cX9_unused 26 = .ok (.laload, 1) := by decide +kernel
theorem dX9_unused_27 : decode cX9_unused 27 = .ok (.goto 4, 3) := by decide +kernel
theorem dX9_unused_30 : decode cX9_unused 30 = .ok (.lconst 0, 1) := by decide +kernel
theorem dX9_unused_31 : decode cX9_unused 31 = .ok (.ladd, 1) := by decide +kernel
theorem dX9_unused_32 : decode cX9_unused 32 = .ok (.aload_n 0, 1) := by decide +kernel
theorem dX9_unused_33 : decode cX9_unused 33 = .ok (.getfield 48, 3) := by decide +kernel
theorem dX9_unused_36 : decode cX9_unused 36 = .ok (.iload_n 1, 1) := by decide +kernel
theorem dX9_unused_37 : decode cX9_unused 37 = .ok (.laload, 1) := by decide +kernel
theorem dX9_unused_38 : decode cX9_unused 38 = .ok (.lsub, 1) := by decide +kernel
theorem dX9_unused_39 : decode cX9_unused 39 = .ok (.goto 4, 3) := by decide +kernel
theorem dX9_unused_42 : decode cX9_unused 42 = .ok (.lconst 0, 1) := by decide +kernel
theorem dX9_unused_43 : decode cX9_unused 43 = .ok (.lreturn, 1) := by decide +kernel
theorem c_X9_unused {a0 : Nat} {a1 : Int32} {a2 : Int32} : CWp S N d MX9_unused [.ref a0, .int a1, .int a2] I J P Q ↔ Wp S N d MX9_unused 0 [some (.ref a0), some (.int a1), some (.int a2)] [] I J P Q := by
  rw [cwp_iff]
  exact ⟨fun h => h.2, fun h => ⟨Nat.le_of_ble_eq_true rfl, h⟩⟩
theorem e_X9_unused_0 {w : Nat} {x1 x2 : Option Value} : Wp S N d MX9_unused 0 [some (.ref w), x1, x2] [] I J P Q ↔ Wp S N d MX9_unused 1 [some (.ref w), x1, x2] [.ref w] I J P Q := wp_lod (len := 1) rfl rfl rfl rfl dX9_unused_0
theorem e_X9_unused_1 {v0 : Nat} {w : Int32} {x0 x2 : Option Value} : Wp S N d MX9_unused 1 [x0, some (.int w), x2] [.ref v0] I J P Q ↔ Wp S N d MX9_unused 2 [x0, some (.int w), x2] [.int w, .ref v0] I J P Q := wp_lod (len := 1) rfl rfl rfl rfl dX9_unused_1
theorem e_X9_unused_2 {v0 : Int32} {v1 : Nat} {x0 x1 x2 : Option Value} : Wp S N d MX9_unused 2 [x0, x1, x2] [.int v0, .ref v1] I J P Q ↔ Wp S N d MX9_unused 3 [x0, x1, x2] [.int 0, .int v0, .ref v1] I J P Q := wp_iconst (by decide) dX9_unused_2
theorem e_X9_unused_3 {v0 : Int32} {v1 : Int32} {v2 : Nat} {x0 x1 x2 : Option Value} : Wp S N (d + 1) MX9_unused 3 [x0, x1, x2] [.int v0, .int v1, .ref v2] I J P Q ↔ S v2 = 9 ∧ CWp S N d MX9_creditOf [.ref v2, .int v1, .int v0] I J P (fun r I1 J1 P1 => Wp S N (d + 1) MX9_unused 6 [x0, x1, x2] (r.toList ++ []) I1 J1 P1 Q) := wp_callV (M' := MX9_creditOf) (As := [.int v1, .int v0]) rfl rfl rfl rfl (by decide) (Nat.le_of_ble_eq_true rfl) dX9_unused_3
theorem e_X9_unused_6 {v0 : Int32} {w : Int32} {x0 x1 : Option Value} : Wp S N d MX9_unused 6 [x0, x1, some (.int w)] [.int v0] I J P Q ↔ Wp S N d MX9_unused 7 [x0, x1, some (.int w)] [.int w, .int v0] I J P Q := wp_lod (len := 1) rfl rfl rfl rfl dX9_unused_6
theorem e_X9_unused_7 {v0 : Int32} {v1 : Int32} {x0 x1 x2 : Option Value} : Wp S N d MX9_unused 7 [x0, x1, x2] [.int v0, .int v1] I J P Q ↔ (¬ v1 = v0 → Wp S N d MX9_unused 42 [x0, x1, x2] [] I J P Q) ∧ (v1 = v0 → Wp S N d MX9_unused 10 [x0, x1, x2] [] I J P Q) := wp_brn rfl rfl (by decide) dX9_unused_7
theorem e_X9_unused_10 {w : Nat} {x1 x2 : Option Value} : Wp S N d MX9_unused 10 [some (.ref w), x1, x2] [] I J P Q ↔ Wp S N d MX9_unused 11 [some (.ref w), x1, x2] [.ref w] I J P Q := wp_lod (len := 1) rfl rfl rfl rfl dX9_unused_10
theorem e_X9_unused_11 {v0 : Nat} {x0 x1 x2 : Option Value} : Wp S N d MX9_unused 11 [x0, x1, x2] [.ref v0] I J P Q ↔ S v0 = 9 ∧ Wp S N d MX9_unused 14 [x0, x1, x2] [va_rf (P v0 18)] I J P Q := wp_getf rfl rfl rfl rfl dX9_unused_11
theorem e_X9_unused_14 {v0 : Nat} {w : Int32} {x0 x2 : Option Value} : Wp S N d MX9_unused 14 [x0, some (.int w), x2] [.ref v0] I J P Q ↔ Wp S N d MX9_unused 15 [x0, some (.int w), x2] [.int w, .ref v0] I J P Q := wp_lod (len := 1) rfl rfl rfl rfl dX9_unused_14
theorem e_X9_unused_15 {v0 : Int32} {v1 : Nat} {x0 x1 x2 : Option Value} : Wp S N d MX9_unused 15 [x0, x1, x2] [.int v0, .ref v1] I J P Q ↔ (S v1 = 11 ∧ vp_in v0 (N v1)) ∧ Wp S N d MX9_unused 16 [x0, x1, x2] [.long (J v1 v0.toNatClampNeg)] I J P Q := wp_ald rfl rfl dX9_unused_15
theorem e_X9_unused_16 {v0 : Int64} {w : Int32} {x0 x1 : Option Value} : Wp S N d MX9_unused 16 [x0, x1, some (.int w)] [.long v0] I J P Q ↔ Wp S N d MX9_unused 17 [x0, x1, some (.int w)] [.int w, .long v0] I J P Q := wp_lod (len := 1) rfl rfl rfl rfl dX9_unused_16
theorem e_X9_unused_17 {v0 : Int32} {v1 : Int64} {x0 x1 x2 : Option Value} : Wp S N d MX9_unused 17 [x0, x1, x2] [.int v0, .long v1] I J P Q ↔ Wp S N d MX9_unused 18 [x0, x1, x2] [.int 2, .int v0, .long v1] I J P Q := wp_iconst (by decide) dX9_unused_17
theorem e_X9_unused_18 {v0 : Int32} {v1 : Int32} {v2 : Int64} {x0 x1 x2 : Option Value} : Wp S N d MX9_unused 18 [x0, x1, x2] [.int v0, .int v1, .long v2] I J P Q ↔ (¬ v1 = v0 → Wp S N d MX9_unused 30 [x0, x1, x2] [.long v2] I J P Q) ∧ (v1 = v0 → Wp S N d MX9_unused 21 [x0, x1, x2] [.long v2] I J P Q) := wp_brn rfl rfl (by decide) dX9_unused_18
theorem e_X9_unused_21 {v0 : Int64} {w : Nat} {x1 x2 : Option Value} : Wp S N d MX9_unused 21 [some (.ref w), x1, x2] [.long v0] I J P Q ↔ Wp S N d MX9_unused 22 [some (.ref w), x1, x2] [.ref w, .long v0] I J P Q := wp_lod (len := 1) rfl rfl rfl rfl dX9_unused_21
theorem e_X9_unused_22 {v0 : Nat} {v1 : Int64} {x0 x1 x2 : Option Value} : Wp S N d MX9_unused 22 [x0, x1, x2] [.ref v0, .long v1] I J P Q ↔ S v0 = 9 ∧ Wp S N d MX9_unused 25 [x0, x1, x2] [va_rf (P v0 17), .long v1] I J P Q := wp_getf rfl rfl rfl rfl dX9_unused_22
theorem e_X9_unused_25 {v0 : Nat} {v1 : Int64} {w : Int32} {x0 x2 : Option Value} : Wp S N d MX9_unused 25 [x0, some (.int w), x2] [.ref v0, .long v1] I J P Q ↔ Wp S N d MX9_unused 26 [x0, some (.int w), x2] [.int w, .ref v0, .long v1] I J P Q := wp_lod (len := 1) rfl rfl rfl rfl dX9_unused_25
theorem e_X9_unused_26 {v0 : Int32} {v1 : Nat} {v2 : Int64} {x0 x1 x2 : Option Value} : Wp S N d MX9_unused 26 [x0, x1, x2] [.int v0, .ref v1, .long v2] I J P Q ↔ (S v1 = 11 ∧ vp_in v0 (N v1)) ∧ Wp S N d MX9_unused 27 [x0, x1, x2] [.long (J v1 v0.toNatClampNeg), .long v2] I J P Q := wp_ald rfl rfl dX9_unused_26
theorem e_X9_unused_27 {v0 : Int64} {v1 : Int64} {x0 x1 x2 : Option Value} : Wp S N d MX9_unused 27 [x0, x1, x2] [.long v0, .long v1] I J P Q ↔ Wp S N d MX9_unused 31 [x0, x1, x2] [.long v0, .long v1] I J P Q := wp_go (len := 3) rfl (fun _ _ => rfl) rfl (by decide) dX9_unused_27
theorem e_X9_unused_30 {v0 : Int64} {x0 x1 x2 : Option Value} : Wp S N d MX9_unused 30 [x0, x1, x2] [.long v0] I J P Q ↔ Wp S N d MX9_unused 31 [x0, x1, x2] [.long 0, .long v0] I J P Q := wp_lconst (by decide) dX9_unused_30
theorem e_X9_unused_31 {v0 : Int64} {v1 : Int64} {x0 x1 x2 : Option Value} : Wp S N d MX9_unused 31 [x0, x1, x2] [.long v0, .long v1] I J P Q ↔ Wp S N d MX9_unused 32 [x0, x1, x2] [.long (v1 + v0)] I J P Q := wp_alu (len := 1) rfl rfl rfl dX9_unused_31
theorem e_X9_unused_32 {v0 : Int64} {w : Nat} {x1 x2 : Option Value} : Wp S N d MX9_unused 32 [some (.ref w), x1, x2] [.long v0] I J P Q ↔ Wp S N d MX9_unused 33 [some (.ref w), x1, x2] [.ref w, .long v0] I J P Q := wp_lod (len := 1) rfl rfl rfl rfl dX9_unused_32
theorem e_X9_unused_33 {v0 : Nat} {v1 : Int64} {x0 x1 x2 : Option Value} : Wp S N d MX9_unused 33 [x0, x1, x2] [.ref v0, .long v1] I J P Q ↔ S v0 = 9 ∧ Wp S N d MX9_unused 36 [x0, x1, x2] [va_rf (P v0 19), .long v1] I J P Q := wp_getf rfl rfl rfl rfl dX9_unused_33
theorem e_X9_unused_36 {v0 : Nat} {v1 : Int64} {w : Int32} {x0 x2 : Option Value} : Wp S N d MX9_unused 36 [x0, some (.int w), x2] [.ref v0, .long v1] I J P Q ↔ Wp S N d MX9_unused 37 [x0, some (.int w), x2] [.int w, .ref v0, .long v1] I J P Q := wp_lod (len := 1) rfl rfl rfl rfl dX9_unused_36
theorem e_X9_unused_37 {v0 : Int32} {v1 : Nat} {v2 : Int64} {x0 x1 x2 : Option Value} : Wp S N d MX9_unused 37 [x0, x1, x2] [.int v0, .ref v1, .long v2] I J P Q ↔ (S v1 = 11 ∧ vp_in v0 (N v1)) ∧ Wp S N d MX9_unused 38 [x0, x1, x2] [.long (J v1 v0.toNatClampNeg), .long v2] I J P Q := wp_ald rfl rfl dX9_unused_37
theorem e_X9_unused_38 {v0 : Int64} {v1 : Int64} {x0 x1 x2 : Option Value} : Wp S N d MX9_unused 38 [x0, x1, x2] [.long v0, .long v1] I J P Q ↔ Wp S N d MX9_unused 39 [x0, x1, x2] [.long (v1 - v0)] I J P Q := wp_alu (len := 1) rfl rfl rfl dX9_unused_38
theorem e_X9_unused_39 {v0 : Int64} {x0 x1 x2 : Option Value} : Wp S N d MX9_unused 39 [x0, x1, x2] [.long v0] I J P Q ↔ Wp S N d MX9_unused 43 [x0, x1, x2] [.long v0] I J P Q := wp_go (len := 3) rfl (fun _ _ => rfl) rfl (by decide) dX9_unused_39
theorem e_X9_unused_42  {x0 x1 x2 : Option Value} : Wp S N d MX9_unused 42 [x0, x1, x2] [] I J P Q ↔ Wp S N d MX9_unused 43 [x0, x1, x2] [.long 0] I J P Q := wp_lconst (by decide) dX9_unused_42
theorem e_X9_unused_43 {v0 : Int64} {x0 x1 x2 : Option Value} : Wp S N d MX9_unused 43 [x0, x1, x2] [.long v0] I J P Q ↔ Q (some (.long v0)) I J P := wp_lret rfl dX9_unused_43
theorem dX9_creditTold_0 : decode cX9_creditTold 0 = .ok (.iload_n 2, 1) := by decide +kernel
theorem dX9_creditTold_1 : decode cX9_creditTold 1 = .ok (.tableswitch 59 0 3 #[31, 38, 45, 52], 31) := by decide +kernel
theorem dX9_creditTold_32 : decode cX9_creditTold 32 = .ok (.aload_n 0, 1) := by decide +kernel
theorem dX9_creditTold_33 : decode cX9_creditTold 33 = .ok (.getfield 45, 3) := by decide +kernel
theorem dX9_creditTold_36 : decode cX9_creditTold 36 = .ok (.iload_n 1, 1) := by decide +kernel
theorem dX9_creditTold_37 : decode cX9_creditTold 37 = .ok (.laload, 1) := by decide +kernel
theorem dX9_creditTold_38 : decode cX9_creditTold 38 = .ok (.lreturn, 1) := by decide +kernel
theorem dX9_creditTold_39 : decode cX9_creditTold 39 = .ok (.aload_n 0, 1) := by decide +kernel
theorem dX9_creditTold_40 : decode cX9_creditTold 40 = .ok (.getfield 48, 3) := by decide +kernel
theorem dX9_creditTold_43 : decode cX9_creditTold 43 = .ok (.iload_n 1, 1) := by decide +kernel
theorem dX9_creditTold_44 : decode cX9_creditTold 44 = .ok (.laload, 1) := by decide +kernel
theorem dX9_creditTold_45 : decode cX9_creditTold 45 = .ok (.lreturn, 1) := by decide +kernel
theorem dX9_creditTold_46 : decode cX9_creditTold 46 = .ok (.aload_n 0, 1) := by decide +kernel
theorem dX9_creditTold_47 : decode cX9_creditTold 47 = .ok (.iload_n 1, 1) := by decide +kernel
theorem dX9_creditTold_48 : decode cX9_creditTold 48 = .ok (.iconst 0, 1) := by decide +kernel
theorem dX9_creditTold_49 : decode cX9_creditTold 49 = .ok (.invokevirtual 191, 3) := by decide +kernel
theorem dX9_creditTold_52 : decode cX9_creditTold 52 = .ok (.lreturn, 1) := by decide +kernel
theorem dX9_creditTold_53 : decode cX9_creditTold 53 = .ok (.aload_n 0, 1) := by decide +kernel
theorem dX9_creditTold_54 : decode cX9_creditTold 54 = .ok (.iload_n 1, 1) := by decide +kernel
theorem dX9_creditTold_55 : decode cX9_creditTold 55 = .ok (.iconst 2, 1) := by decide +kernel
theorem dX9_creditTold_56 : decode cX9_creditTold 56 = .ok (.invokevirtual 191, 3) := by decide +kernel
theorem dX9_creditTold_59 : decode cX9_creditTold 59 = .ok (.lreturn, 1) := by decide +kernel
theorem dX9_creditTold_60 : decode cX9_creditTold 60 = .ok (.aload_n 0, 1) := by decide +kernel
theorem dX9_creditTold_61 : decode cX9_creditTold 61 = .ok (.getfield 51, 3) := by decide +kernel
theorem dX9_creditTold_64 : decode cX9_creditTold 64 = .ok (.iload_n 1, 1) := by decide +kernel
theorem dX9_creditTold_65 : decode cX9_creditTold 65 = .ok (.laload, 1) := by decide +kernel
theorem dX9_creditTold_66 : decode cX9_creditTold 66 = .ok (.lreturn, 1) := by decide +kernel
theorem c_X9_creditTold {a0 : Nat} {a1 : Int32} {a2 : Int32} : CWp S N d MX9_creditTold [.ref a0, .int a1, .int a2] I J P Q ↔ Wp S N d MX9_creditTold 0 [some (.ref a0), some (.int a1), some (.int a2)] [] I J P Q := by
  rw [cwp_iff]
  exact ⟨fun h => h.2, fun h => ⟨Nat.le_of_ble_eq_true rfl, h⟩⟩
theorem e_X9_creditTold_0 {w : Int32} {x0 x1 : Option Value} : Wp S N d MX9_creditTold 0 [x0, x1, some (.int w)] [] I J P Q ↔ Wp S N d MX9_creditTold 1 [x0, x1, some (.int w)] [.int w] I J P Q := wp_lod (len := 1) rfl rfl rfl rfl dX9_creditTold_0
theorem e_X9_creditTold_1 {v0 : Int32} {off : Int} {tgt : Nat} (h : tx_go (.tableswitch 59 0 3 #[31, 38, 45, 52]) ([.int v0]) = some (off, [])) (ht : ((1 : Nat) : Int) + off = ((tgt : Nat) : Int)) {x0 x1 x2 : Option Value} : Wp S N d MX9_creditTold 1 [x0, x1, x2] [.int v0] I J P Q ↔ Wp S N d MX9_creditTold tgt [x0, x1, x2] [] I J P Q := wp_go (len := 31) rfl (by intro _ h; cases h) h ht dX9_creditTold_1
theorem e_X9_creditTold_32 {w : Nat} {x1 x2 : Option Value} : Wp S N d MX9_creditTold 32 [some (.ref w), x1, x2] [] I J P Q ↔ Wp S N d MX9_creditTold 33 [some (.ref w), x1, x2] [.ref w] I J P Q := wp_lod (len := 1) rfl rfl rfl rfl dX9_creditTold_32
theorem e_X9_creditTold_33 {v0 : Nat} {x0 x1 x2 : Option Value} : Wp S N d MX9_creditTold 33 [x0, x1, x2] [.ref v0] I J P Q ↔ S v0 = 9 ∧ Wp S N d MX9_creditTold 36 [x0, x1, x2] [va_rf (P v0 18)] I J P Q := wp_getf rfl rfl rfl rfl dX9_creditTold_33
theorem e_X9_creditTold_36 {v0 : Nat} {w : Int32} {x0 x2 : Option Value} : Wp S N d MX9_creditTold 36 [x0, some (.int w), x2] [.ref v0] I J P Q ↔ Wp S N d MX9_creditTold 37 [x0, some (.int w), x2] [.int w, .ref v0] I J P Q := wp_lod (len := 1) rfl rfl rfl rfl dX9_creditTold_36
theorem e_X9_creditTold_37 {v0 : Int32} {v1 : Nat} {x0 x1 x2 : Option Value} : Wp S N d MX9_creditTold 37 [x0, x1, x2] [.int v0, .ref v1] I J P Q ↔ (S v1 = 11 ∧ vp_in v0 (N v1)) ∧ Wp S N d MX9_creditTold 38 [x0, x1, x2] [.long (J v1 v0.toNatClampNeg)] I J P Q := wp_ald rfl rfl dX9_creditTold_37
theorem e_X9_creditTold_38 {v0 : Int64} {x0 x1 x2 : Option Value} : Wp S N d MX9_creditTold 38 [x0, x1, x2] [.long v0] I J P Q ↔ Q (some (.long v0)) I J P := wp_lret rfl dX9_creditTold_38
theorem e_X9_creditTold_39 {w : Nat} {x1 x2 : Option Value} : Wp S N d MX9_creditTold 39 [some (.ref w), x1, x2] [] I J P Q ↔ Wp S N d MX9_creditTold 40 [some (.ref w), x1, x2] [.ref w] I J P Q := wp_lod (len := 1) rfl rfl rfl rfl dX9_creditTold_39
theorem e_X9_creditTold_40 {v0 : Nat} {x0 x1 x2 : Option Value} : Wp S N d MX9_creditTold 40 [x0, x1, x2] [.ref v0] I J P Q ↔ S v0 = 9 ∧ Wp S N d MX9_creditTold 43 [x0, x1, x2] [va_rf (P v0 19)] I J P Q := wp_getf rfl rfl rfl rfl dX9_creditTold_40
theorem e_X9_creditTold_43 {v0 : Nat} {w : Int32} {x0 x2 : Option Value} : Wp S N d MX9_creditTold 43 [x0, some (.int w), x2] [.ref v0] I J P Q ↔ Wp S N d MX9_creditTold 44 [x0, some (.int w), x2] [.int w, .ref v0] I J P Q := wp_lod (len := 1) rfl rfl rfl rfl dX9_creditTold_43
theorem e_X9_creditTold_44 {v0 : Int32} {v1 : Nat} {x0 x1 x2 : Option Value} : Wp S N d MX9_creditTold 44 [x0, x1, x2] [.int v0, .ref v1] I J P Q ↔ (S v1 = 11 ∧ vp_in v0 (N v1)) ∧ Wp S N d MX9_creditTold 45 [x0, x1, x2] [.long (J v1 v0.toNatClampNeg)] I J P Q := wp_ald rfl rfl dX9_creditTold_44
theorem e_X9_creditTold_45 {v0 : Int64} {x0 x1 x2 : Option Value} : Wp S N d MX9_creditTold 45 [x0, x1, x2] [.long v0] I J P Q ↔ Q (some (.long v0)) I J P := wp_lret rfl dX9_creditTold_45
theorem e_X9_creditTold_46 {w : Nat} {x1 x2 : Option Value} : Wp S N d MX9_creditTold 46 [some (.ref w), x1, x2] [] I J P Q ↔ Wp S N d MX9_creditTold 47 [some (.ref w), x1, x2] [.ref w] I J P Q := wp_lod (len := 1) rfl rfl rfl rfl dX9_creditTold_46
theorem e_X9_creditTold_47 {v0 : Nat} {w : Int32} {x0 x2 : Option Value} : Wp S N d MX9_creditTold 47 [x0, some (.int w), x2] [.ref v0] I J P Q ↔ Wp S N d MX9_creditTold 48 [x0, some (.int w), x2] [.int w, .ref v0] I J P Q := wp_lod (len := 1) rfl rfl rfl rfl dX9_creditTold_47
theorem e_X9_creditTold_48 {v0 : Int32} {v1 : Nat} {x0 x1 x2 : Option Value} : Wp S N d MX9_creditTold 48 [x0, x1, x2] [.int v0, .ref v1] I J P Q ↔ Wp S N d MX9_creditTold 49 [x0, x1, x2] [.int 0, .int v0, .ref v1] I J P Q := wp_iconst (by decide) dX9_creditTold_48
theorem e_X9_creditTold_49 {v0 : Int32} {v1 : Int32} {v2 : Nat} {x0 x1 x2 : Option Value} : Wp S N (d + 1) MX9_creditTold 49 [x0, x1, x2] [.int v0, .int v1, .ref v2] I J P Q ↔ S v2 = 9 ∧ CWp S N d MX9_unused [.ref v2, .int v1, .int v0] I J P (fun r I1 J1 P1 => Wp S N (d + 1) MX9_creditTold 52 [x0, x1, x2] (r.toList ++ []) I1 J1 P1 Q) := wp_callV (M' := MX9_unused) (As := [.int v1, .int v0]) rfl rfl rfl rfl (by decide) (Nat.le_of_ble_eq_true rfl) dX9_creditTold_49
theorem e_X9_creditTold_52 {v0 : Int64} {x0 x1 x2 : Option Value} : Wp S N d MX9_creditTold 52 [x0, x1, x2] [.long v0] I J P Q ↔ Q (some (.long v0)) I J P := wp_lret rfl dX9_creditTold_52
theorem e_X9_creditTold_53 {w : Nat} {x1 x2 : Option Value} : Wp S N d MX9_creditTold 53 [some (.ref w), x1, x2] [] I J P Q ↔ Wp S N d MX9_creditTold 54 [some (.ref w), x1, x2] [.ref w] I J P Q := wp_lod (len := 1) rfl rfl rfl rfl dX9_creditTold_53
theorem e_X9_creditTold_54 {v0 : Nat} {w : Int32} {x0 x2 : Option Value} : Wp S N d MX9_creditTold 54 [x0, some (.int w), x2] [.ref v0] I J P Q ↔ Wp S N d MX9_creditTold 55 [x0, some (.int w), x2] [.int w, .ref v0] I J P Q := wp_lod (len := 1) rfl rfl rfl rfl dX9_creditTold_54
theorem e_X9_creditTold_55 {v0 : Int32} {v1 : Nat} {x0 x1 x2 : Option Value} : Wp S N d MX9_creditTold 55 [x0, x1, x2] [.int v0, .ref v1] I J P Q ↔ Wp S N d MX9_creditTold 56 [x0, x1, x2] [.int 2, .int v0, .ref v1] I J P Q := wp_iconst (by decide) dX9_creditTold_55
theorem e_X9_creditTold_56 {v0 : Int32} {v1 : Int32} {v2 : Nat} {x0 x1 x2 : Option Value} : Wp S N (d + 1) MX9_creditTold 56 [x0, x1, x2] [.int v0, .int v1, .ref v2] I J P Q ↔ S v2 = 9 ∧ CWp S N d MX9_unused [.ref v2, .int v1, .int v0] I J P (fun r I1 J1 P1 => Wp S N (d + 1) MX9_creditTold 59 [x0, x1, x2] (r.toList ++ []) I1 J1 P1 Q) := wp_callV (M' := MX9_unused) (As := [.int v1, .int v0]) rfl rfl rfl rfl (by decide) (Nat.le_of_ble_eq_true rfl) dX9_creditTold_56
theorem e_X9_creditTold_59 {v0 : Int64} {x0 x1 x2 : Option Value} : Wp S N d MX9_creditTold 59 [x0, x1, x2] [.long v0] I J P Q ↔ Q (some (.long v0)) I J P := wp_lret rfl dX9_creditTold_59
theorem e_X9_creditTold_60 {w : Nat} {x1 x2 : Option Value} : Wp S N d MX9_creditTold 60 [some (.ref w), x1, x2] [] I J P Q ↔ Wp S N d MX9_creditTold 61 [some (.ref w), x1, x2] [.ref w] I J P Q := wp_lod (len := 1) rfl rfl rfl rfl dX9_creditTold_60
theorem e_X9_creditTold_61 {v0 : Nat} {x0 x1 x2 : Option Value} : Wp S N d MX9_creditTold 61 [x0, x1, x2] [.ref v0] I J P Q ↔ S v0 = 9 ∧ Wp S N d MX9_creditTold 64 [x0, x1, x2] [va_rf (P v0 20)] I J P Q := wp_getf rfl rfl rfl rfl dX9_creditTold_61
theorem e_X9_creditTold_64 {v0 : Nat} {w : Int32} {x0 x2 : Option Value} : Wp S N d MX9_creditTold 64 [x0, some (.int w), x2] [.ref v0] I J P Q ↔ Wp S N d MX9_creditTold 65 [x0, some (.int w), x2] [.int w, .ref v0] I J P Q := wp_lod (len := 1) rfl rfl rfl rfl dX9_creditTold_64
theorem e_X9_creditTold_65 {v0 : Int32} {v1 : Nat} {x0 x1 x2 : Option Value} : Wp S N d MX9_creditTold 65 [x0, x1, x2] [.int v0, .ref v1] I J P Q ↔ (S v1 = 11 ∧ vp_in v0 (N v1)) ∧ Wp S N d MX9_creditTold 66 [x0, x1, x2] [.long (J v1 v0.toNatClampNeg)] I J P Q := wp_ald rfl rfl dX9_creditTold_65
theorem e_X9_creditTold_66 {v0 : Int64} {x0 x1 x2 : Option Value} : Wp S N d MX9_creditTold 66 [x0, x1, x2] [.long v0] I J P Q ↔ Q (some (.long v0)) I J P := wp_lret rfl dX9_creditTold_66
theorem dX9_creditPart_0 : decode cX9_creditPart 0 = .ok (.aload_n 0, 1) := by decide +kernel
theorem dX9_creditPart_1 : decode cX9_creditPart 1 = .ok (.iload_n 1, 1) := by decide +kernel
theorem dX9_creditPart_2 : decode cX9_creditPart 2 = .ok (.invokestatic 140, 3) := by decide +kernel
theorem dX9_creditPart_5 : decode cX9_creditPart 5 = .ok (.ifCond .eq 28, 3) := by decide +kernel
theorem dX9_creditPart_8 : decode cX9_creditPart 8 = .ok (.aload_n 0, 1) := by decide +kernel
theorem dX9_creditPart_9 : decode cX9_creditPart 9 = .ok (.iload_n 2, 1) := by decide +kernel
theorem dX9_creditPart_10 : decode cX9_creditPart 10 = .ok (.invokevirtual 126, 3) := by decide +kernel
theorem dX9_creditPart_13 : decode cX9_creditPart 13 = .ok (.ifCond .eq 20, 3) := by decide +kernel
theorem dX9_creditPart_16 : decode cX9_creditPart 16 = .ok (.iload_n 3, 1) := by decide +kernel
theorem dX9_creditPart_17 : decode cX9_creditPart 17 = .ok (.iconst 0, 1) := by decide +kernel
theorem dX9_creditPart_18 : decode cX9_creditPart 18 = .ok (.iconst 4, 1) := by decide +kernel
theorem dX9_creditPart_19 : decode cX9_creditPart 19 = .ok (.invokestatic 60, 3) := by decide +kernel
theorem dX9_creditPart_22 : decode cX9_creditPart 22 = .ok (.ifCond .eq 7, 3) := by decide +kernel
theorem dX9_creditPart_25 : decode cX9_creditPart 25 = .ok (.iconst 0, 1) := by decide +kernel
theorem dX9_creditPart_26 : decode cX9_creditPart 26 = .ok (.goto 8, 3) := by decide +kernel
theorem dX9_creditPart_29 : decode cX9_creditPart 29 = .ok (.iconst 2, 1) := by decide +kernel
theorem dX9_creditPart_30 : decode cX9_creditPart 30 = .ok (.goto 4, 3) := by decide +kernel
theorem dX9_creditPart_33 : decode cX9_creditPart 33 = .ok (.iconst 1, 1) := by decide +kernel
theorem dX9_creditPart_34 : decode cX9_creditPart 34 = .ok (.putfield 57, 3) := by decide +kernel
theorem dX9_creditPart_37 : decode cX9_creditPart 37 = .ok (.aload_n 0, 1) := by decide +kernel
theorem dX9_creditPart_38 : decode cX9_creditPart 38 = .ok (.getfield 57, 3) := by decide +kernel
theorem dX9_creditPart_41 : decode cX9_creditPart 41 = .ok (.ifCond .le 5, 3) := by decide +kernel
theorem dX9_creditPart_44 : decode cX9_creditPart 44 = .ok (.lconst 0, 1) := by decide +kernel
theorem dX9_creditPart_45 : decode cX9_creditPart 45 = .ok (.lreturn, 1) := by decide +kernel
theorem dX9_creditPart_46 : decode cX9_creditPart 46 = .ok (.aload_n 0, 1) := by decide +kernel
theorem dX9_creditPart_47 : decode cX9_creditPart 47 = .ok (.iload_n 1, 1) := by decide +kernel
theorem dX9_creditPart_48 : decode cX9_creditPart 48 = .ok (.invokevirtual 187, 3) := by decide +kernel
theorem dX9_creditPart_51 : decode cX9_creditPart 51 = .ok (.pop2, 1) := by decide +kernel
theorem dX9_creditPart_52 : decode cX9_creditPart 52 = .ok (.aload_n 0, 1) := by decide +kernel
theorem dX9_creditPart_53 : decode cX9_creditPart 53 = .ok (.iload_n 2, 1) := by decide +kernel
theorem dX9_creditPart_54 : decode cX9_creditPart 54 = .ok (.iload_n 3, 1) := by decide +kernel
theorem dX9_creditPart_55 : decode cX9_creditPart 55 = .ok (.invokevirtual 194, 3) := by decide +kernel
theorem dX9_creditPart_58 : decode cX9_creditPart 58 = .ok (.lreturn, 1) := by decide +kernel
theorem c_X9_creditPart {a0 : Nat} {a1 : Int32} {a2 : Int32} {a3 : Int32} : CWp S N d MX9_creditPart [.ref a0, .int a1, .int a2, .int a3] I J P Q ↔ Wp S N d MX9_creditPart 0 [some (.ref a0), some (.int a1), some (.int a2), some (.int a3)] [] I J P Q := by
  rw [cwp_iff]
  exact ⟨fun h => h.2, fun h => ⟨Nat.le_of_ble_eq_true rfl, h⟩⟩
theorem e_X9_creditPart_0 {w : Nat} {x1 x2 x3 : Option Value} : Wp S N d MX9_creditPart 0 [some (.ref w), x1, x2, x3] [] I J P Q ↔ Wp S N d MX9_creditPart 1 [some (.ref w), x1, x2, x3] [.ref w] I J P Q := wp_lod (len := 1) rfl rfl rfl rfl dX9_creditPart_0
theorem e_X9_creditPart_1 {v0 : Nat} {w : Int32} {x0 x2 x3 : Option Value} : Wp S N d MX9_creditPart 1 [x0, some (.int w), x2, x3] [.ref v0] I J P Q ↔ Wp S N d MX9_creditPart 2 [x0, some (.int w), x2, x3] [.int w, .ref v0] I J P Q := wp_lod (len := 1) rfl rfl rfl rfl dX9_creditPart_1
theorem e_X9_creditPart_2 {v0 : Int32} {v1 : Nat} {x0 x1 x2 x3 : Option Value} : Wp S N (d + 1) MX9_creditPart 2 [x0, x1, x2, x3] [.int v0, .ref v1] I J P Q ↔ CWp S N d MX9_isPerson [.int v0] I J P (fun r I1 J1 P1 => Wp S N (d + 1) MX9_creditPart 5 [x0, x1, x2, x3] (r.toList ++ [.ref v1]) I1 J1 P1 Q) := wp_callS (M' := MX9_isPerson) (As := [.int v0]) rfl rfl rfl rfl (Nat.le_of_ble_eq_true rfl) dX9_creditPart_2
theorem e_X9_creditPart_5 {v0 : Int32} {v1 : Nat} {x0 x1 x2 x3 : Option Value} : Wp S N d MX9_creditPart 5 [x0, x1, x2, x3] [.int v0, .ref v1] I J P Q ↔ (v0 = 0 → Wp S N d MX9_creditPart 33 [x0, x1, x2, x3] [.ref v1] I J P Q) ∧ (¬ v0 = 0 → Wp S N d MX9_creditPart 8 [x0, x1, x2, x3] [.ref v1] I J P Q) := wp_br rfl rfl (by decide) dX9_creditPart_5
theorem e_X9_creditPart_8 {v0 : Nat} {w : Nat} {x1 x2 x3 : Option Value} : Wp S N d MX9_creditPart 8 [some (.ref w), x1, x2, x3] [.ref v0] I J P Q ↔ Wp S N d MX9_creditPart 9 [some (.ref w), x1, x2, x3] [.ref w, .ref v0] I J P Q := wp_lod (len := 1) rfl rfl rfl rfl dX9_creditPart_8
theorem e_X9_creditPart_9 {v0 : Nat} {v1 : Nat} {w : Int32} {x0 x1 x3 : Option Value} : Wp S N d MX9_creditPart 9 [x0, x1, some (.int w), x3] [.ref v0, .ref v1] I J P Q ↔ Wp S N d MX9_creditPart 10 [x0, x1, some (.int w), x3] [.int w, .ref v0, .ref v1] I J P Q := wp_lod (len := 1) rfl rfl rfl rfl dX9_creditPart_9
theorem e_X9_creditPart_10 {v0 : Int32} {v1 : Nat} {v2 : Nat} {x0 x1 x2 x3 : Option Value} : Wp S N (d + 1) MX9_creditPart 10 [x0, x1, x2, x3] [.int v0, .ref v1, .ref v2] I J P Q ↔ S v1 = 9 ∧ CWp S N d MX9_isCredit [.ref v1, .int v0] I J P (fun r I1 J1 P1 => Wp S N (d + 1) MX9_creditPart 13 [x0, x1, x2, x3] (r.toList ++ [.ref v2]) I1 J1 P1 Q) := wp_callV (M' := MX9_isCredit) (As := [.int v0]) rfl rfl rfl rfl (by decide) (Nat.le_of_ble_eq_true rfl) dX9_creditPart_10
theorem e_X9_creditPart_13 {v0 : Int32} {v1 : Nat} {x0 x1 x2 x3 : Option Value} : Wp S N d MX9_creditPart 13 [x0, x1, x2, x3] [.int v0, .ref v1] I J P Q ↔ (v0 = 0 → Wp S N d MX9_creditPart 33 [x0, x1, x2, x3] [.ref v1] I J P Q) ∧ (¬ v0 = 0 → Wp S N d MX9_creditPart 16 [x0, x1, x2, x3] [.ref v1] I J P Q) := wp_br rfl rfl (by decide) dX9_creditPart_13
theorem e_X9_creditPart_16 {v0 : Nat} {w : Int32} {x0 x1 x2 : Option Value} : Wp S N d MX9_creditPart 16 [x0, x1, x2, some (.int w)] [.ref v0] I J P Q ↔ Wp S N d MX9_creditPart 17 [x0, x1, x2, some (.int w)] [.int w, .ref v0] I J P Q := wp_lod (len := 1) rfl rfl rfl rfl dX9_creditPart_16
theorem e_X9_creditPart_17 {v0 : Int32} {v1 : Nat} {x0 x1 x2 x3 : Option Value} : Wp S N d MX9_creditPart 17 [x0, x1, x2, x3] [.int v0, .ref v1] I J P Q ↔ Wp S N d MX9_creditPart 18 [x0, x1, x2, x3] [.int 0, .int v0, .ref v1] I J P Q := wp_iconst (by decide) dX9_creditPart_17
theorem e_X9_creditPart_18 {v0 : Int32} {v1 : Int32} {v2 : Nat} {x0 x1 x2 x3 : Option Value} : Wp S N d MX9_creditPart 18 [x0, x1, x2, x3] [.int v0, .int v1, .ref v2] I J P Q ↔ Wp S N d MX9_creditPart 19 [x0, x1, x2, x3] [.int 4, .int v0, .int v1, .ref v2] I J P Q := wp_iconst (by decide) dX9_creditPart_18
theorem e_X9_creditPart_19 {v0 : Int32} {v1 : Int32} {v2 : Int32} {v3 : Nat} {x0 x1 x2 x3 : Option Value} : Wp S N (d + 1) MX9_creditPart 19 [x0, x1, x2, x3] [.int v0, .int v1, .int v2, .ref v3] I J P Q ↔ CWp S N d MX9_in [.int v2, .int v1, .int v0] I J P (fun r I1 J1 P1 => Wp S N (d + 1) MX9_creditPart 22 [x0, x1, x2, x3] (r.toList ++ [.ref v3]) I1 J1 P1 Q) := wp_callS (M' := MX9_in) (As := [.int v2, .int v1, .int v0]) rfl rfl rfl rfl (Nat.le_of_ble_eq_true rfl) dX9_creditPart_19
theorem e_X9_creditPart_22 {v0 : Int32} {v1 : Nat} {x0 x1 x2 x3 : Option Value} : Wp S N d MX9_creditPart 22 [x0, x1, x2, x3] [.int v0, .ref v1] I J P Q ↔ (v0 = 0 → Wp S N d MX9_creditPart 29 [x0, x1, x2, x3] [.ref v1] I J P Q) ∧ (¬ v0 = 0 → Wp S N d MX9_creditPart 25 [x0, x1, x2, x3] [.ref v1] I J P Q) := wp_br rfl rfl (by decide) dX9_creditPart_22
theorem e_X9_creditPart_25 {v0 : Nat} {x0 x1 x2 x3 : Option Value} : Wp S N d MX9_creditPart 25 [x0, x1, x2, x3] [.ref v0] I J P Q ↔ Wp S N d MX9_creditPart 26 [x0, x1, x2, x3] [.int 0, .ref v0] I J P Q := wp_iconst (by decide) dX9_creditPart_25
theorem e_X9_creditPart_26 {v0 : Int32} {v1 : Nat} {x0 x1 x2 x3 : Option Value} : Wp S N d MX9_creditPart 26 [x0, x1, x2, x3] [.int v0, .ref v1] I J P Q ↔ Wp S N d MX9_creditPart 34 [x0, x1, x2, x3] [.int v0, .ref v1] I J P Q := wp_go (len := 3) rfl (fun _ _ => rfl) rfl (by decide) dX9_creditPart_26
theorem e_X9_creditPart_29 {v0 : Nat} {x0 x1 x2 x3 : Option Value} : Wp S N d MX9_creditPart 29 [x0, x1, x2, x3] [.ref v0] I J P Q ↔ Wp S N d MX9_creditPart 30 [x0, x1, x2, x3] [.int 2, .ref v0] I J P Q := wp_iconst (by decide) dX9_creditPart_29
theorem e_X9_creditPart_30 {v0 : Int32} {v1 : Nat} {x0 x1 x2 x3 : Option Value} : Wp S N d MX9_creditPart 30 [x0, x1, x2, x3] [.int v0, .ref v1] I J P Q ↔ Wp S N d MX9_creditPart 34 [x0, x1, x2, x3] [.int v0, .ref v1] I J P Q := wp_go (len := 3) rfl (fun _ _ => rfl) rfl (by decide) dX9_creditPart_30
theorem e_X9_creditPart_33 {v0 : Nat} {x0 x1 x2 x3 : Option Value} : Wp S N d MX9_creditPart 33 [x0, x1, x2, x3] [.ref v0] I J P Q ↔ Wp S N d MX9_creditPart 34 [x0, x1, x2, x3] [.int 1, .ref v0] I J P Q := wp_iconst (by decide) dX9_creditPart_33
theorem e_X9_creditPart_34 {v0 : Int32} {v1 : Nat} {x0 x1 x2 x3 : Option Value} : Wp S N d MX9_creditPart 34 [x0, x1, x2, x3] [.int v0, .ref v1] I J P Q ↔ S v1 = 9 ∧ Wp S N d MX9_creditPart 37 [x0, x1, x2, x3] [] (u2 I v1 8 v0) J P Q := wp_putI rfl rfl rfl rfl dX9_creditPart_34
theorem e_X9_creditPart_37 {w : Nat} {x1 x2 x3 : Option Value} : Wp S N d MX9_creditPart 37 [some (.ref w), x1, x2, x3] [] I J P Q ↔ Wp S N d MX9_creditPart 38 [some (.ref w), x1, x2, x3] [.ref w] I J P Q := wp_lod (len := 1) rfl rfl rfl rfl dX9_creditPart_37
theorem e_X9_creditPart_38 {v0 : Nat} {x0 x1 x2 x3 : Option Value} : Wp S N d MX9_creditPart 38 [x0, x1, x2, x3] [.ref v0] I J P Q ↔ S v0 = 9 ∧ Wp S N d MX9_creditPart 41 [x0, x1, x2, x3] [.int (I v0 8)] I J P Q := wp_getf rfl rfl rfl rfl dX9_creditPart_38
theorem e_X9_creditPart_41 {v0 : Int32} {x0 x1 x2 x3 : Option Value} : Wp S N d MX9_creditPart 41 [x0, x1, x2, x3] [.int v0] I J P Q ↔ (v0 ≤ 0 → Wp S N d MX9_creditPart 46 [x0, x1, x2, x3] [] I J P Q) ∧ (¬ v0 ≤ 0 → Wp S N d MX9_creditPart 44 [x0, x1, x2, x3] [] I J P Q) := wp_br rfl rfl (by decide) dX9_creditPart_41
theorem e_X9_creditPart_44  {x0 x1 x2 x3 : Option Value} : Wp S N d MX9_creditPart 44 [x0, x1, x2, x3] [] I J P Q ↔ Wp S N d MX9_creditPart 45 [x0, x1, x2, x3] [.long 0] I J P Q := wp_lconst (by decide) dX9_creditPart_44
theorem e_X9_creditPart_45 {v0 : Int64} {x0 x1 x2 x3 : Option Value} : Wp S N d MX9_creditPart 45 [x0, x1, x2, x3] [.long v0] I J P Q ↔ Q (some (.long v0)) I J P := wp_lret rfl dX9_creditPart_45
theorem e_X9_creditPart_46 {w : Nat} {x1 x2 x3 : Option Value} : Wp S N d MX9_creditPart 46 [some (.ref w), x1, x2, x3] [] I J P Q ↔ Wp S N d MX9_creditPart 47 [some (.ref w), x1, x2, x3] [.ref w] I J P Q := wp_lod (len := 1) rfl rfl rfl rfl dX9_creditPart_46
theorem e_X9_creditPart_47 {v0 : Nat} {w : Int32} {x0 x2 x3 : Option Value} : Wp S N d MX9_creditPart 47 [x0, some (.int w), x2, x3] [.ref v0] I J P Q ↔ Wp S N d MX9_creditPart 48 [x0, some (.int w), x2, x3] [.int w, .ref v0] I J P Q := wp_lod (len := 1) rfl rfl rfl rfl dX9_creditPart_47
theorem e_X9_creditPart_48 {v0 : Int32} {v1 : Nat} {x0 x1 x2 x3 : Option Value} : Wp S N (d + 1) MX9_creditPart 48 [x0, x1, x2, x3] [.int v0, .ref v1] I J P Q ↔ S v1 = 9 ∧ CWp S N d MX9_taxOfPerson [.ref v1, .int v0] I J P (fun r I1 J1 P1 => Wp S N (d + 1) MX9_creditPart 51 [x0, x1, x2, x3] (r.toList ++ []) I1 J1 P1 Q) := wp_callV (M' := MX9_taxOfPerson) (As := [.int v0]) rfl rfl rfl rfl (by decide) (Nat.le_of_ble_eq_true rfl) dX9_creditPart_48
theorem e_X9_creditPart_51 {v0 : Int64} {x0 x1 x2 x3 : Option Value} : Wp S N d MX9_creditPart 51 [x0, x1, x2, x3] [.long v0] I J P Q ↔ Wp S N d MX9_creditPart 52 [x0, x1, x2, x3] [] I J P Q := wp_alu (len := 1) rfl rfl rfl dX9_creditPart_51
theorem e_X9_creditPart_52 {w : Nat} {x1 x2 x3 : Option Value} : Wp S N d MX9_creditPart 52 [some (.ref w), x1, x2, x3] [] I J P Q ↔ Wp S N d MX9_creditPart 53 [some (.ref w), x1, x2, x3] [.ref w] I J P Q := wp_lod (len := 1) rfl rfl rfl rfl dX9_creditPart_52
theorem e_X9_creditPart_53 {v0 : Nat} {w : Int32} {x0 x1 x3 : Option Value} : Wp S N d MX9_creditPart 53 [x0, x1, some (.int w), x3] [.ref v0] I J P Q ↔ Wp S N d MX9_creditPart 54 [x0, x1, some (.int w), x3] [.int w, .ref v0] I J P Q := wp_lod (len := 1) rfl rfl rfl rfl dX9_creditPart_53
theorem e_X9_creditPart_54 {v0 : Int32} {v1 : Nat} {w : Int32} {x0 x1 x2 : Option Value} : Wp S N d MX9_creditPart 54 [x0, x1, x2, some (.int w)] [.int v0, .ref v1] I J P Q ↔ Wp S N d MX9_creditPart 55 [x0, x1, x2, some (.int w)] [.int w, .int v0, .ref v1] I J P Q := wp_lod (len := 1) rfl rfl rfl rfl dX9_creditPart_54
theorem e_X9_creditPart_55 {v0 : Int32} {v1 : Int32} {v2 : Nat} {x0 x1 x2 x3 : Option Value} : Wp S N (d + 1) MX9_creditPart 55 [x0, x1, x2, x3] [.int v0, .int v1, .ref v2] I J P Q ↔ S v2 = 9 ∧ CWp S N d MX9_creditTold [.ref v2, .int v1, .int v0] I J P (fun r I1 J1 P1 => Wp S N (d + 1) MX9_creditPart 58 [x0, x1, x2, x3] (r.toList ++ []) I1 J1 P1 Q) := wp_callV (M' := MX9_creditTold) (As := [.int v1, .int v0]) rfl rfl rfl rfl (by decide) (Nat.le_of_ble_eq_true rfl) dX9_creditPart_55
theorem e_X9_creditPart_58 {v0 : Int64} {x0 x1 x2 x3 : Option Value} : Wp S N d MX9_creditPart 58 [x0, x1, x2, x3] [.long v0] I J P Q ↔ Q (some (.long v0)) I J P := wp_lret rfl dX9_creditPart_58
theorem dX9_carried_0 : decode cX9_carried 0 = .ok (.aload_n 0, 1) := by decide +kernel
theorem dX9_carried_1 : decode cX9_carried 1 = .ok (.iload_n 1, 1) := by decide +kernel
theorem dX9_carried_2 : decode cX9_carried 2 = .ok (.invokestatic 140, 3) := by decide +kernel
theorem dX9_carried_5 : decode cX9_carried 5 = .ok (.ifCond .eq 15, 3) := by decide +kernel
theorem dX9_carried_8 : decode cX9_carried 8 = .ok (.aload_n 0, 1) := by decide +kernel
theorem dX9_carried_9 : decode cX9_carried 9 = .ok (.iload_n 2, 1) := by decide +kernel
theorem dX9_carried_10 : decode cX9_carried 10 = .ok (.invokevirtual 126, 3) := by decide +kernel
theorem dX9_carried_13 : decode cX9_carried 13 = .ok (.ifCond .eq 7, 3) := by decide +kernel
theorem dX9_carried_16 : decode cX9_carried 16 = .ok (.iconst 0, 1) := by decide +kernel
theorem dX9_carried_17 : decode cX9_carried 17 = .ok (.goto 4, 3) := by decide +kernel
theorem dX9_carried_20 : decode cX9_carried 20 = .ok (.iconst 1, 1) := by decide +kernel
theorem dX9_carried_21 : decode cX9_carried 21 = .ok (.putfield 57, 3) := by decide +kernel
theorem dX9_carried_24 : decode cX9_carried 24 = .ok (.aload_n 0, 1) := by decide +kernel
theorem dX9_carried_25 : decode cX9_carried 25 = .ok (.getfield 57, 3) := by decide +kernel
theorem dX9_carried_28 : decode cX9_carried 28 = .ok (.ifCond .le 7, 3) := by decide +kernel
theorem dX9_carried_31 : decode cX9_carried 31 = .ok (.lconst 0, 1) := by decide +kernel
theorem dX9_carried_32 : decode cX9_carried 32 = .ok (.goto 14, 3) := by decide +kernel
theorem dX9_carried_35 : decode cX9_carried 35 = .ok (.aload_n 0, 1) := by decide +kernel
theorem dX9_carried_36 : decode cX9_carried 36 = .ok (.getfield 13, 3) := by decide +kernel
theorem dX9_carried_39 : decode cX9_carried 39 = .ok (.bipush 6, 2) := by decide +kernel
theorem dX9_carried_41 : decode cX9_carried 41 = .ok (.iload_n 1, 1) := by decide +kernel
theorem dX9_carried_42 : decode cX9_carried 42 = .ok (.imul, 1) := by decide +kernel
theorem dX9_carried_43 : decode cX9_carried 43 = .ok (.iload_n 2, 1) := by decide +kernel
theorem dX9_carried_44 : decode cX9_carried 44 = .ok (.iadd, 1) := by decide +kernel
theorem dX9_carried_45 : decode cX9_carried 45 = .ok (.laload, 1) := by decide +kernel
theorem dX9_carried_46 : decode cX9_carried 46 = .ok (.lreturn, 1) := by decide +kernel
theorem c_X9_carried {a0 : Nat} {a1 : Int32} {a2 : Int32} : CWp S N d MX9_carried [.ref a0, .int a1, .int a2] I J P Q ↔ Wp S N d MX9_carried 0 [some (.ref a0), some (.int a1), some (.int a2)] [] I J P Q := by
  rw [cwp_iff]
  exact ⟨fun h => h.2, fun h => ⟨Nat.le_of_ble_eq_true rfl, h⟩⟩
theorem e_X9_carried_0 {w : Nat} {x1 x2 : Option Value} : Wp S N d MX9_carried 0 [some (.ref w), x1, x2] [] I J P Q ↔ Wp S N d MX9_carried 1 [some (.ref w), x1, x2] [.ref w] I J P Q := wp_lod (len := 1) rfl rfl rfl rfl dX9_carried_0
theorem e_X9_carried_1 {v0 : Nat} {w : Int32} {x0 x2 : Option Value} : Wp S N d MX9_carried 1 [x0, some (.int w), x2] [.ref v0] I J P Q ↔ Wp S N d MX9_carried 2 [x0, some (.int w), x2] [.int w, .ref v0] I J P Q := wp_lod (len := 1) rfl rfl rfl rfl dX9_carried_1
theorem e_X9_carried_2 {v0 : Int32} {v1 : Nat} {x0 x1 x2 : Option Value} : Wp S N (d + 1) MX9_carried 2 [x0, x1, x2] [.int v0, .ref v1] I J P Q ↔ CWp S N d MX9_isPerson [.int v0] I J P (fun r I1 J1 P1 => Wp S N (d + 1) MX9_carried 5 [x0, x1, x2] (r.toList ++ [.ref v1]) I1 J1 P1 Q) := wp_callS (M' := MX9_isPerson) (As := [.int v0]) rfl rfl rfl rfl (Nat.le_of_ble_eq_true rfl) dX9_carried_2
theorem e_X9_carried_5 {v0 : Int32} {v1 : Nat} {x0 x1 x2 : Option Value} : Wp S N d MX9_carried 5 [x0, x1, x2] [.int v0, .ref v1] I J P Q ↔ (v0 = 0 → Wp S N d MX9_carried 20 [x0, x1, x2] [.ref v1] I J P Q) ∧ (¬ v0 = 0 → Wp S N d MX9_carried 8 [x0, x1, x2] [.ref v1] I J P Q) := wp_br rfl rfl (by decide) dX9_carried_5
theorem e_X9_carried_8 {v0 : Nat} {w : Nat} {x1 x2 : Option Value} : Wp S N d MX9_carried 8 [some (.ref w), x1, x2] [.ref v0] I J P Q ↔ Wp S N d MX9_carried 9 [some (.ref w), x1, x2] [.ref w, .ref v0] I J P Q := wp_lod (len := 1) rfl rfl rfl rfl dX9_carried_8
theorem e_X9_carried_9 {v0 : Nat} {v1 : Nat} {w : Int32} {x0 x1 : Option Value} : Wp S N d MX9_carried 9 [x0, x1, some (.int w)] [.ref v0, .ref v1] I J P Q ↔ Wp S N d MX9_carried 10 [x0, x1, some (.int w)] [.int w, .ref v0, .ref v1] I J P Q := wp_lod (len := 1) rfl rfl rfl rfl dX9_carried_9
theorem e_X9_carried_10 {v0 : Int32} {v1 : Nat} {v2 : Nat} {x0 x1 x2 : Option Value} : Wp S N (d + 1) MX9_carried 10 [x0, x1, x2] [.int v0, .ref v1, .ref v2] I J P Q ↔ S v1 = 9 ∧ CWp S N d MX9_isCredit [.ref v1, .int v0] I J P (fun r I1 J1 P1 => Wp S N (d + 1) MX9_carried 13 [x0, x1, x2] (r.toList ++ [.ref v2]) I1 J1 P1 Q) := wp_callV (M' := MX9_isCredit) (As := [.int v0]) rfl rfl rfl rfl (by decide) (Nat.le_of_ble_eq_true rfl) dX9_carried_10
theorem e_X9_carried_13 {v0 : Int32} {v1 : Nat} {x0 x1 x2 : Option Value} : Wp S N d MX9_carried 13 [x0, x1, x2] [.int v0, .ref v1] I J P Q ↔ (v0 = 0 → Wp S N d MX9_carried 20 [x0, x1, x2] [.ref v1] I J P Q) ∧ (¬ v0 = 0 → Wp S N d MX9_carried 16 [x0, x1, x2] [.ref v1] I J P Q) := wp_br rfl rfl (by decide) dX9_carried_13
theorem e_X9_carried_16 {v0 : Nat} {x0 x1 x2 : Option Value} : Wp S N d MX9_carried 16 [x0, x1, x2] [.ref v0] I J P Q ↔ Wp S N d MX9_carried 17 [x0, x1, x2] [.int 0, .ref v0] I J P Q := wp_iconst (by decide) dX9_carried_16
theorem e_X9_carried_17 {v0 : Int32} {v1 : Nat} {x0 x1 x2 : Option Value} : Wp S N d MX9_carried 17 [x0, x1, x2] [.int v0, .ref v1] I J P Q ↔ Wp S N d MX9_carried 21 [x0, x1, x2] [.int v0, .ref v1] I J P Q := wp_go (len := 3) rfl (fun _ _ => rfl) rfl (by decide) dX9_carried_17
theorem e_X9_carried_20 {v0 : Nat} {x0 x1 x2 : Option Value} : Wp S N d MX9_carried 20 [x0, x1, x2] [.ref v0] I J P Q ↔ Wp S N d MX9_carried 21 [x0, x1, x2] [.int 1, .ref v0] I J P Q := wp_iconst (by decide) dX9_carried_20
theorem e_X9_carried_21 {v0 : Int32} {v1 : Nat} {x0 x1 x2 : Option Value} : Wp S N d MX9_carried 21 [x0, x1, x2] [.int v0, .ref v1] I J P Q ↔ S v1 = 9 ∧ Wp S N d MX9_carried 24 [x0, x1, x2] [] (u2 I v1 8 v0) J P Q := wp_putI rfl rfl rfl rfl dX9_carried_21
theorem e_X9_carried_24 {w : Nat} {x1 x2 : Option Value} : Wp S N d MX9_carried 24 [some (.ref w), x1, x2] [] I J P Q ↔ Wp S N d MX9_carried 25 [some (.ref w), x1, x2] [.ref w] I J P Q := wp_lod (len := 1) rfl rfl rfl rfl dX9_carried_24
theorem e_X9_carried_25 {v0 : Nat} {x0 x1 x2 : Option Value} : Wp S N d MX9_carried 25 [x0, x1, x2] [.ref v0] I J P Q ↔ S v0 = 9 ∧ Wp S N d MX9_carried 28 [x0, x1, x2] [.int (I v0 8)] I J P Q := wp_getf rfl rfl rfl rfl dX9_carried_25
theorem e_X9_carried_28 {v0 : Int32} {x0 x1 x2 : Option Value} : Wp S N d MX9_carried 28 [x0, x1, x2] [.int v0] I J P Q ↔ (v0 ≤ 0 → Wp S N d MX9_carried 35 [x0, x1, x2] [] I J P Q) ∧ (¬ v0 ≤ 0 → Wp S N d MX9_carried 31 [x0, x1, x2] [] I J P Q) := wp_br rfl rfl (by decide) dX9_carried_28
theorem e_X9_carried_31  {x0 x1 x2 : Option Value} : Wp S N d MX9_carried 31 [x0, x1, x2] [] I J P Q ↔ Wp S N d MX9_carried 32 [x0, x1, x2] [.long 0] I J P Q := wp_lconst (by decide) dX9_carried_31
theorem e_X9_carried_32 {v0 : Int64} {x0 x1 x2 : Option Value} : Wp S N d MX9_carried 32 [x0, x1, x2] [.long v0] I J P Q ↔ Wp S N d MX9_carried 46 [x0, x1, x2] [.long v0] I J P Q := wp_go (len := 3) rfl (fun _ _ => rfl) rfl (by decide) dX9_carried_32
theorem e_X9_carried_35 {w : Nat} {x1 x2 : Option Value} : Wp S N d MX9_carried 35 [some (.ref w), x1, x2] [] I J P Q ↔ Wp S N d MX9_carried 36 [some (.ref w), x1, x2] [.ref w] I J P Q := wp_lod (len := 1) rfl rfl rfl rfl dX9_carried_35
theorem e_X9_carried_36 {v0 : Nat} {x0 x1 x2 : Option Value} : Wp S N d MX9_carried 36 [x0, x1, x2] [.ref v0] I J P Q ↔ S v0 = 9 ∧ Wp S N d MX9_carried 39 [x0, x1, x2] [va_rf (P v0 1)] I J P Q := wp_getf rfl rfl rfl rfl dX9_carried_36
theorem e_X9_carried_39 {v0 : Nat} {x0 x1 x2 : Option Value} : Wp S N d MX9_carried 39 [x0, x1, x2] [.ref v0] I J P Q ↔ Wp S N d MX9_carried 41 [x0, x1, x2] [.int 6, .ref v0] I J P Q := wp_bipush (by decide) dX9_carried_39
theorem e_X9_carried_41 {v0 : Int32} {v1 : Nat} {w : Int32} {x0 x2 : Option Value} : Wp S N d MX9_carried 41 [x0, some (.int w), x2] [.int v0, .ref v1] I J P Q ↔ Wp S N d MX9_carried 42 [x0, some (.int w), x2] [.int w, .int v0, .ref v1] I J P Q := wp_lod (len := 1) rfl rfl rfl rfl dX9_carried_41
theorem e_X9_carried_42 {v0 : Int32} {v1 : Int32} {v2 : Nat} {x0 x1 x2 : Option Value} : Wp S N d MX9_carried 42 [x0, x1, x2] [.int v0, .int v1, .ref v2] I J P Q ↔ Wp S N d MX9_carried 43 [x0, x1, x2] [.int (v1 * v0), .ref v2] I J P Q := wp_alu (len := 1) rfl rfl rfl dX9_carried_42
theorem e_X9_carried_43 {v0 : Int32} {v1 : Nat} {w : Int32} {x0 x1 : Option Value} : Wp S N d MX9_carried 43 [x0, x1, some (.int w)] [.int v0, .ref v1] I J P Q ↔ Wp S N d MX9_carried 44 [x0, x1, some (.int w)] [.int w, .int v0, .ref v1] I J P Q := wp_lod (len := 1) rfl rfl rfl rfl dX9_carried_43
theorem e_X9_carried_44 {v0 : Int32} {v1 : Int32} {v2 : Nat} {x0 x1 x2 : Option Value} : Wp S N d MX9_carried 44 [x0, x1, x2] [.int v0, .int v1, .ref v2] I J P Q ↔ Wp S N d MX9_carried 45 [x0, x1, x2] [.int (v1 + v0), .ref v2] I J P Q := wp_alu (len := 1) rfl rfl rfl dX9_carried_44
theorem e_X9_carried_45 {v0 : Int32} {v1 : Nat} {x0 x1 x2 : Option Value} : Wp S N d MX9_carried 45 [x0, x1, x2] [.int v0, .ref v1] I J P Q ↔ (S v1 = 11 ∧ vp_in v0 (N v1)) ∧ Wp S N d MX9_carried 46 [x0, x1, x2] [.long (J v1 v0.toNatClampNeg)] I J P Q := wp_ald rfl rfl dX9_carried_45
theorem e_X9_carried_46 {v0 : Int64} {x0 x1 x2 : Option Value} : Wp S N d MX9_carried 46 [x0, x1, x2] [.long v0] I J P Q ↔ Q (some (.long v0)) I J P := wp_lret rfl dX9_carried_46
theorem dX9_firstOf_0 : decode cX9_firstOf 0 = .ok (.aload_n 0, 1) := by decide +kernel
theorem dX9_firstOf_1 : decode cX9_firstOf 1 = .ok (.getfield 7, 3) := by decide +kernel
theorem dX9_firstOf_4 : decode cX9_firstOf 4 = .ok (.bipush 82, 2) := by decide +kernel
theorem dX9_firstOf_6 : decode cX9_firstOf 6 = .ok (.iload_n 1, 1) := by decide +kernel
theorem dX9_firstOf_7 : decode cX9_firstOf 7 = .ok (.iadd, 1) := by decide +kernel
theorem dX9_firstOf_8 : decode cX9_firstOf 8 = .ok (.iaload, 1) := by decide +kernel
theorem dX9_firstOf_9 : decode cX9_firstOf 9 = .ok (.iload_n 1, 1) := by decide +kernel
theorem dX9_firstOf_10 : decode cX9_firstOf 10 = .ok (.if_icmp .ge 15, 3) := by decide +kernel
theorem dX9_firstOf_13 : decode cX9_firstOf 13 = .ok (.aload_n 0, 1) := by decide +kernel
theorem dX9_firstOf_14 : decode cX9_firstOf 14 = .ok (.getfield 7, 3) := by decide +kernel
theorem dX9_firstOf_17 : decode cX9_firstOf 17 = .ok (.bipush 82, 2) := by decide +kernel
theorem dX9_firstOf_19 : decode cX9_firstOf 19 = .ok (.iload_n 1, 1) := by decide +kernel
theorem dX9_firstOf_20 : decode cX9_firstOf 20 = .ok (.iadd, 1) := by decide +kernel
theorem dX9_firstOf_21 : decode cX9_firstOf 21 = .ok (.iaload, 1) := by decide +kernel
theorem dX9_firstOf_22 : decode cX9_firstOf 22 = .ok (.goto 4, 3) := by decide +kernel
theorem dX9_firstOf_25 : decode cX9_firstOf 25 = .ok (.iload_n 1, 1) := by decide +kernel
theorem dX9_firstOf_26 : decode cX9_firstOf 26 = .ok (.ireturn, 1) := by decide +kernel
theorem c_X9_firstOf {a0 : Nat} {a1 : Int32} : CWp S N d MX9_firstOf [.ref a0, .int a1] I J P Q ↔ Wp S N d MX9_firstOf 0 [some (.ref a0), some (.int a1)] [] I J P Q := by
  rw [cwp_iff]
  exact ⟨fun h => h.2, fun h => ⟨Nat.le_of_ble_eq_true rfl, h⟩⟩
theorem e_X9_firstOf_0 {w : Nat} {x1 : Option Value} : Wp S N d MX9_firstOf 0 [some (.ref w), x1] [] I J P Q ↔ Wp S N d MX9_firstOf 1 [some (.ref w), x1] [.ref w] I J P Q := wp_lod (len := 1) rfl rfl rfl rfl dX9_firstOf_0
theorem e_X9_firstOf_1 {v0 : Nat} {x0 x1 : Option Value} : Wp S N d MX9_firstOf 1 [x0, x1] [.ref v0] I J P Q ↔ S v0 = 9 ∧ Wp S N d MX9_firstOf 4 [x0, x1] [va_rf (P v0 0)] I J P Q := wp_getf rfl rfl rfl rfl dX9_firstOf_1
theorem e_X9_firstOf_4 {v0 : Nat} {x0 x1 : Option Value} : Wp S N d MX9_firstOf 4 [x0, x1] [.ref v0] I J P Q ↔ Wp S N d MX9_firstOf 6 [x0, x1] [.int 82, .ref v0] I J P Q := wp_bipush (by decide) dX9_firstOf_4
theorem e_X9_firstOf_6 {v0 : Int32} {v1 : Nat} {w : Int32} {x0 : Option Value} : Wp S N d MX9_firstOf 6 [x0, some (.int w)] [.int v0, .ref v1] I J P Q ↔ Wp S N d MX9_firstOf 7 [x0, some (.int w)] [.int w, .int v0, .ref v1] I J P Q := wp_lod (len := 1) rfl rfl rfl rfl dX9_firstOf_6
theorem e_X9_firstOf_7 {v0 : Int32} {v1 : Int32} {v2 : Nat} {x0 x1 : Option Value} : Wp S N d MX9_firstOf 7 [x0, x1] [.int v0, .int v1, .ref v2] I J P Q ↔ Wp S N d MX9_firstOf 8 [x0, x1] [.int (v1 + v0), .ref v2] I J P Q := wp_alu (len := 1) rfl rfl rfl dX9_firstOf_7
theorem e_X9_firstOf_8 {v0 : Int32} {v1 : Nat} {x0 x1 : Option Value} : Wp S N d MX9_firstOf 8 [x0, x1] [.int v0, .ref v1] I J P Q ↔ (S v1 = 10 ∧ vp_in v0 (N v1)) ∧ Wp S N d MX9_firstOf 9 [x0, x1] [.int (I v1 v0.toNatClampNeg)] I J P Q := wp_ald rfl rfl dX9_firstOf_8
theorem e_X9_firstOf_9 {v0 : Int32} {w : Int32} {x0 : Option Value} : Wp S N d MX9_firstOf 9 [x0, some (.int w)] [.int v0] I J P Q ↔ Wp S N d MX9_firstOf 10 [x0, some (.int w)] [.int w, .int v0] I J P Q := wp_lod (len := 1) rfl rfl rfl rfl dX9_firstOf_9
theorem e_X9_firstOf_10 {v0 : Int32} {v1 : Int32} {x0 x1 : Option Value} : Wp S N d MX9_firstOf 10 [x0, x1] [.int v0, .int v1] I J P Q ↔ (v0 ≤ v1 → Wp S N d MX9_firstOf 25 [x0, x1] [] I J P Q) ∧ (¬ v0 ≤ v1 → Wp S N d MX9_firstOf 13 [x0, x1] [] I J P Q) := wp_br rfl rfl (by decide) dX9_firstOf_10
theorem e_X9_firstOf_13 {w : Nat} {x1 : Option Value} : Wp S N d MX9_firstOf 13 [some (.ref w), x1] [] I J P Q ↔ Wp S N d MX9_firstOf 14 [some (.ref w), x1] [.ref w] I J P Q := wp_lod (len := 1) rfl rfl rfl rfl dX9_firstOf_13
theorem e_X9_firstOf_14 {v0 : Nat} {x0 x1 : Option Value} : Wp S N d MX9_firstOf 14 [x0, x1] [.ref v0] I J P Q ↔ S v0 = 9 ∧ Wp S N d MX9_firstOf 17 [x0, x1] [va_rf (P v0 0)] I J P Q := wp_getf rfl rfl rfl rfl dX9_firstOf_14
theorem e_X9_firstOf_17 {v0 : Nat} {x0 x1 : Option Value} : Wp S N d MX9_firstOf 17 [x0, x1] [.ref v0] I J P Q ↔ Wp S N d MX9_firstOf 19 [x0, x1] [.int 82, .ref v0] I J P Q := wp_bipush (by decide) dX9_firstOf_17
theorem e_X9_firstOf_19 {v0 : Int32} {v1 : Nat} {w : Int32} {x0 : Option Value} : Wp S N d MX9_firstOf 19 [x0, some (.int w)] [.int v0, .ref v1] I J P Q ↔ Wp S N d MX9_firstOf 20 [x0, some (.int w)] [.int w, .int v0, .ref v1] I J P Q := wp_lod (len := 1) rfl rfl rfl rfl dX9_firstOf_19
theorem e_X9_firstOf_20 {v0 : Int32} {v1 : Int32} {v2 : Nat} {x0 x1 : Option Value} : Wp S N d MX9_firstOf 20 [x0, x1] [.int v0, .int v1, .ref v2] I J P Q ↔ Wp S N d MX9_firstOf 21 [x0, x1] [.int (v1 + v0), .ref v2] I J P Q := wp_alu (len := 1) rfl rfl rfl dX9_firstOf_20
theorem e_X9_firstOf_21 {v0 : Int32} {v1 : Nat} {x0 x1 : Option Value} : Wp S N d MX9_firstOf 21 [x0, x1] [.int v0, .ref v1] I J P Q ↔ (S v1 = 10 ∧ vp_in v0 (N v1)) ∧ Wp S N d MX9_firstOf 22 [x0, x1] [.int (I v1 v0.toNatClampNeg)] I J P Q := wp_ald rfl rfl dX9_firstOf_21
theorem e_X9_firstOf_22 {v0 : Int32} {x0 x1 : Option Value} : Wp S N d MX9_firstOf 22 [x0, x1] [.int v0] I J P Q ↔ Wp S N d MX9_firstOf 26 [x0, x1] [.int v0] I J P Q := wp_go (len := 3) rfl (fun _ _ => rfl) rfl (by decide) dX9_firstOf_22
theorem e_X9_firstOf_25 {w : Int32} {x0 : Option Value} : Wp S N d MX9_firstOf 25 [x0, some (.int w)] [] I J P Q ↔ Wp S N d MX9_firstOf 26 [x0, some (.int w)] [.int w] I J P Q := wp_lod (len := 1) rfl rfl rfl rfl dX9_firstOf_25
theorem e_X9_firstOf_26 {v0 : Int32} {x0 x1 : Option Value} : Wp S N d MX9_firstOf 26 [x0, x1] [.int v0] I J P Q ↔ Q (some (.int v0)) I J P := wp_iret rfl dX9_firstOf_26
theorem dX9_jointly_0 : decode cX9_jointly 0 = .ok (.aload_n 0, 1) := by decide +kernel
theorem dX9_jointly_1 : decode cX9_jointly 1 = .ok (.getfield 7, 3) := by decide +kernel
theorem dX9_jointly_4 : decode cX9_jointly 4 = .ok (.bipush 82, 2) := by decide +kernel
theorem dX9_jointly_6 : decode cX9_jointly 6 = .ok (.iload_n 1, 1) := by decide +kernel
theorem dX9_jointly_7 : decode cX9_jointly 7 = .ok (.iadd, 1) := by decide +kernel
theorem dX9_jointly_8 : decode cX9_jointly 8 = .ok (.iaload, 1) := by decide +kernel
theorem dX9_jointly_9 : decode cX9_jointly 9 = .ok (.istore_n 2, 1) := by decide +kernel
theorem dX9_jointly_10 : decode cX9_jointly 10 = .ok (.aload_n 0, 1) := by decide +kernel
theorem dX9_jointly_11 : decode cX9_jointly 11 = .ok (.iload_n 1, 1) := by decide +kernel
theorem dX9_jointly_12 : decode cX9_jointly 12 = .ok (.iconst 0, 1) := by decide +kernel
theorem dX9_jointly_13 : decode cX9_jointly 13 = .ok (.invokevirtual 143, 3) := by decide +kernel
theorem dX9_jointly_16 : decode cX9_jointly 16 = .ok (.aload_n 0, 1) := by decide +kernel
theorem dX9_jointly_17 : decode cX9_jointly 17 = .ok (.iload_n 2, 1) := by decide +kernel
theorem dX9_jointly_18 : decode cX9_jointly 18 = .ok (.iconst 0, 1) := by decide +kernel
theorem dX9_jointly_19 : decode cX9_jointly 19 = .ok (.invokevirtual 143, 3) := by decide +kernel
theorem dX9_jointly_22 : decode cX9_jointly 22 = .ok (.iadd, 1) := by decide +kernel
theorem dX9_jointly_23 : decode cX9_jointly 23 = .ok (.istore_n 3, 1) := by decide +kernel
theorem dX9_jointly_24 : decode cX9_jointly 24 = .ok (.aload_n 0, 1) := by decide +kernel
theorem dX9_jointly_25 : decode cX9_jointly 25 = .ok (.iload_n 1, 1) := by decide +kernel
theorem dX9_jointly_26 : decode cX9_jointly 26 = .ok (.iload_n 2, 1) := by decide +kernel
theorem dX9_jointly_27 : decode cX9_jointly 27 = .ok (.invokevirtual 177, 3) := by decide +kernel
theorem dX9_jointly_30 : decode cX9_jointly 30 = .ok (.aload_n 0, 1) := by decide +kernel
theorem dX9_jointly_31 : decode cX9_jointly 31 = .ok (.iload_n 3, 1) := by decide +kernel
theorem dX9_jointly_32 : decode cX9_jointly 32 = .ok (.iload_n 3, 1) := by decide +kernel
theorem dX9_jointly_33 : decode cX9_jointly 33 = .ok (.aload_n 0, 1) := by decide +kernel
theorem dX9_jointly_34 : decode cX9_jointly 34 = .ok (.iload_n 1, 1) := by decide +kernel
theorem dX9_jointly_35 : decode cX9_jointly 35 = .ok (.iconst 1, 1) := by decide +kernel
theorem dX9_jointly_36 : decode cX9_jointly 36 = .ok (.invokevirtual 143, 3) := by decide +kernel
theorem dX9_jointly_39 : decode cX9_jointly 39 = .ok (.iadd, 1) := by decide +kernel
theorem dX9_jointly_40 : decode cX9_jointly 40 = .ok (.aload_n 0, 1) := by decide +kernel
theorem dX9_jointly_41 : decode cX9_jointly 41 = .ok (.iload_n 2, 1) := by decide +kernel
theorem dX9_jointly_42 : decode cX9_jointly 42 = .ok (.iconst 1, 1) := by decide +kernel
theorem dX9_jointly_43 : decode cX9_jointly 43 = .ok (.invokevirtual 143, 3) := by decide +kernel
theorem dX9_jointly_46 : decode cX9_jointly 46 = .ok (.iadd, 1) := by decide +kernel
theorem dX9_jointly_47 : decode cX9_jointly 47 = .ok (.aload_n 0, 1) := by decide +kernel
theorem dX9_jointly_48 : decode cX9_jointly 48 = .ok (.iload_n 1, 1) := by decide +kernel
theorem dX9_jointly_49 : decode cX9_jointly 49 = .ok (.iconst 2, 1) := by decide +kernel
theorem dX9_jointly_50 : decode cX9_jointly 50 = .ok (.invokevirtual 143, 3) := by decide +kernel
theorem dX9_jointly_53 : decode cX9_jointly 53 = .ok (.aload_n 0, 1) := by decide +kernel
theorem dX9_jointly_54 : decode cX9_jointly 54 = .ok (.iload_n 2, 1) := by decide +kernel
theorem dX9_jointly_55 : decode cX9_jointly 55 = .ok (.iconst 2, 1) := by decide +kernel
theorem dX9_jointly_56 : decode cX9_jointly 56 = .ok (.invokevirtual 143, 3) := by decide +kernel
theorem dX9_jointly_59 : decode cX9_jointly 59 = .ok (.iadd, 1) := by decide +kernel
theorem dX9_jointly_60 : decode cX9_jointly 60 = .ok (.iconst 2, 1) := by decide +kernel
theorem dX9_jointly_61 : decode cX9_jointly 61 = .ok (.invokevirtual 180, 3) := by decide +kernel
theorem dX9_jointly_64 : decode cX9_jointly 64 = .ok (.lreturn, 1) := by decide +kernel
theorem c_X9_jointly {a0 : Nat} {a1 : Int32} : CWp S N d MX9_jointly [.ref a0, .int a1] I J P Q ↔ Wp S N d MX9_jointly 0 [some (.ref a0), some (.int a1), none, none] [] I J P Q := by
  rw [cwp_iff]
  exact ⟨fun h => h.2, fun h => ⟨Nat.le_of_ble_eq_true rfl, h⟩⟩
theorem e_X9_jointly_0 {w : Nat} {x1 x2 x3 : Option Value} : Wp S N d MX9_jointly 0 [some (.ref w), x1, x2, x3] [] I J P Q ↔ Wp S N d MX9_jointly 1 [some (.ref w), x1, x2, x3] [.ref w] I J P Q := wp_lod (len := 1) rfl rfl rfl rfl dX9_jointly_0
theorem e_X9_jointly_1 {v0 : Nat} {x0 x1 x2 x3 : Option Value} : Wp S N d MX9_jointly 1 [x0, x1, x2, x3] [.ref v0] I J P Q ↔ S v0 = 9 ∧ Wp S N d MX9_jointly 4 [x0, x1, x2, x3] [va_rf (P v0 0)] I J P Q := wp_getf rfl rfl rfl rfl dX9_jointly_1
theorem e_X9_jointly_4 {v0 : Nat} {x0 x1 x2 x3 : Option Value} : Wp S N d MX9_jointly 4 [x0, x1, x2, x3] [.ref v0] I J P Q ↔ Wp S N d MX9_jointly 6 [x0, x1, x2, x3] [.int 82, .ref v0] I J P Q := wp_bipush (by decide) dX9_jointly_4
theorem e_X9_jointly_6 {v0 : Int32} {v1 : Nat} {w : Int32} {x0 x2 x3 : Option Value} : Wp S N d MX9_jointly 6 [x0, some (.int w), x2, x3] [.int v0, .ref v1] I J P Q ↔ Wp S N d MX9_jointly 7 [x0, some (.int w), x2, x3] [.int w, .int v0, .ref v1] I J P Q := wp_lod (len := 1) rfl rfl rfl rfl dX9_jointly_6
theorem e_X9_jointly_7 {v0 : Int32} {v1 : Int32} {v2 : Nat} {x0 x1 x2 x3 : Option Value} : Wp S N d MX9_jointly 7 [x0, x1, x2, x3] [.int v0, .int v1, .ref v2] I J P Q ↔ Wp S N d MX9_jointly 8 [x0, x1, x2, x3] [.int (v1 + v0), .ref v2] I J P Q := wp_alu (len := 1) rfl rfl rfl dX9_jointly_7
theorem e_X9_jointly_8 {v0 : Int32} {v1 : Nat} {x0 x1 x2 x3 : Option Value} : Wp S N d MX9_jointly 8 [x0, x1, x2, x3] [.int v0, .ref v1] I J P Q ↔ (S v1 = 10 ∧ vp_in v0 (N v1)) ∧ Wp S N d MX9_jointly 9 [x0, x1, x2, x3] [.int (I v1 v0.toNatClampNeg)] I J P Q := wp_ald rfl rfl dX9_jointly_8
theorem e_X9_jointly_9 {v0 : Int32} {x0 x1 x2 x3 : Option Value} : Wp S N d MX9_jointly 9 [x0, x1, x2, x3] [.int v0] I J P Q ↔ Wp S N d MX9_jointly 10 [x0, kl x1, some (.int v0), x3] [] I J P Q := wp_sto (len := 1) rfl rfl rfl rfl (Nat.le_of_ble_eq_true rfl) rfl dX9_jointly_9
theorem e_X9_jointly_10 {w : Nat} {x1 x2 x3 : Option Value} : Wp S N d MX9_jointly 10 [some (.ref w), x1, x2, x3] [] I J P Q ↔ Wp S N d MX9_jointly 11 [some (.ref w), x1, x2, x3] [.ref w] I J P Q := wp_lod (len := 1) rfl rfl rfl rfl dX9_jointly_10
theorem e_X9_jointly_11 {v0 : Nat} {w : Int32} {x0 x2 x3 : Option Value} : Wp S N d MX9_jointly 11 [x0, some (.int w), x2, x3] [.ref v0] I J P Q ↔ Wp S N d MX9_jointly 12 [x0, some (.int w), x2, x3] [.int w, .ref v0] I J P Q := wp_lod (len := 1) rfl rfl rfl rfl dX9_jointly_11
theorem e_X9_jointly_12 {v0 : Int32} {v1 : Nat} {x0 x1 x2 x3 : Option Value} : Wp S N d MX9_jointly 12 [x0, x1, x2, x3] [.int v0, .ref v1] I J P Q ↔ Wp S N d MX9_jointly 13 [x0, x1, x2, x3] [.int 0, .int v0, .ref v1] I J P Q := wp_iconst (by decide) dX9_jointly_12
theorem e_X9_jointly_13 {v0 : Int32} {v1 : Int32} {v2 : Nat} {x0 x1 x2 x3 : Option Value} : Wp S N (d + 1) MX9_jointly 13 [x0, x1, x2, x3] [.int v0, .int v1, .ref v2] I J P Q ↔ S v2 = 9 ∧ CWp S N d MX9_of [.ref v2, .int v1, .int v0] I J P (fun r I1 J1 P1 => Wp S N (d + 1) MX9_jointly 16 [x0, x1, x2, x3] (r.toList ++ []) I1 J1 P1 Q) := wp_callV (M' := MX9_of) (As := [.int v1, .int v0]) rfl rfl rfl rfl (by decide) (Nat.le_of_ble_eq_true rfl) dX9_jointly_13
theorem e_X9_jointly_16 {v0 : Int32} {w : Nat} {x1 x2 x3 : Option Value} : Wp S N d MX9_jointly 16 [some (.ref w), x1, x2, x3] [.int v0] I J P Q ↔ Wp S N d MX9_jointly 17 [some (.ref w), x1, x2, x3] [.ref w, .int v0] I J P Q := wp_lod (len := 1) rfl rfl rfl rfl dX9_jointly_16
theorem e_X9_jointly_17 {v0 : Nat} {v1 : Int32} {w : Int32} {x0 x1 x3 : Option Value} : Wp S N d MX9_jointly 17 [x0, x1, some (.int w), x3] [.ref v0, .int v1] I J P Q ↔ Wp S N d MX9_jointly 18 [x0, x1, some (.int w), x3] [.int w, .ref v0, .int v1] I J P Q := wp_lod (len := 1) rfl rfl rfl rfl dX9_jointly_17
theorem e_X9_jointly_18 {v0 : Int32} {v1 : Nat} {v2 : Int32} {x0 x1 x2 x3 : Option Value} : Wp S N d MX9_jointly 18 [x0, x1, x2, x3] [.int v0, .ref v1, .int v2] I J P Q ↔ Wp S N d MX9_jointly 19 [x0, x1, x2, x3] [.int 0, .int v0, .ref v1, .int v2] I J P Q := wp_iconst (by decide) dX9_jointly_18
theorem e_X9_jointly_19 {v0 : Int32} {v1 : Int32} {v2 : Nat} {v3 : Int32} {x0 x1 x2 x3 : Option Value} : Wp S N (d + 1) MX9_jointly 19 [x0, x1, x2, x3] [.int v0, .int v1, .ref v2, .int v3] I J P Q ↔ S v2 = 9 ∧ CWp S N d MX9_of [.ref v2, .int v1, .int v0] I J P (fun r I1 J1 P1 => Wp S N (d + 1) MX9_jointly 22 [x0, x1, x2, x3] (r.toList ++ [.int v3]) I1 J1 P1 Q) := wp_callV (M' := MX9_of) (As := [.int v1, .int v0]) rfl rfl rfl rfl (by decide) (Nat.le_of_ble_eq_true rfl) dX9_jointly_19
theorem e_X9_jointly_22 {v0 : Int32} {v1 : Int32} {x0 x1 x2 x3 : Option Value} : Wp S N d MX9_jointly 22 [x0, x1, x2, x3] [.int v0, .int v1] I J P Q ↔ Wp S N d MX9_jointly 23 [x0, x1, x2, x3] [.int (v1 + v0)] I J P Q := wp_alu (len := 1) rfl rfl rfl dX9_jointly_22
theorem e_X9_jointly_23 {v0 : Int32} {x0 x1 x2 x3 : Option Value} : Wp S N d MX9_jointly 23 [x0, x1, x2, x3] [.int v0] I J P Q ↔ Wp S N d MX9_jointly 24 [x0, x1, kl x2, some (.int v0)] [] I J P Q := wp_sto (len := 1) rfl rfl rfl rfl (Nat.le_of_ble_eq_true rfl) rfl dX9_jointly_23
theorem e_X9_jointly_24 {w : Nat} {x1 x2 x3 : Option Value} : Wp S N d MX9_jointly 24 [some (.ref w), x1, x2, x3] [] I J P Q ↔ Wp S N d MX9_jointly 25 [some (.ref w), x1, x2, x3] [.ref w] I J P Q := wp_lod (len := 1) rfl rfl rfl rfl dX9_jointly_24
theorem e_X9_jointly_25 {v0 : Nat} {w : Int32} {x0 x2 x3 : Option Value} : Wp S N d MX9_jointly 25 [x0, some (.int w), x2, x3] [.ref v0] I J P Q ↔ Wp S N d MX9_jointly 26 [x0, some (.int w), x2, x3] [.int w, .ref v0] I J P Q := wp_lod (len := 1) rfl rfl rfl rfl dX9_jointly_25
theorem e_X9_jointly_26 {v0 : Int32} {v1 : Nat} {w : Int32} {x0 x1 x3 : Option Value} : Wp S N d MX9_jointly 26 [x0, x1, some (.int w), x3] [.int v0, .ref v1] I J P Q ↔ Wp S N d MX9_jointly 27 [x0, x1, some (.int w), x3] [.int w, .int v0, .ref v1] I J P Q := wp_lod (len := 1) rfl rfl rfl rfl dX9_jointly_26
theorem e_X9_jointly_27 {v0 : Int32} {v1 : Int32} {v2 : Nat} {x0 x1 x2 x3 : Option Value} : Wp S N (d + 1) MX9_jointly 27 [x0, x1, x2, x3] [.int v0, .int v1, .ref v2] I J P Q ↔ S v2 = 9 ∧ CWp S N d MX9_brings [.ref v2, .int v1, .int v0] I J P (fun r I1 J1 P1 => Wp S N (d + 1) MX9_jointly 30 [x0, x1, x2, x3] (r.toList ++ []) I1 J1 P1 Q) := wp_callV (M' := MX9_brings) (As := [.int v1, .int v0]) rfl rfl rfl rfl (by decide) (Nat.le_of_ble_eq_true rfl) dX9_jointly_27
theorem e_X9_jointly_30 {w : Nat} {x1 x2 x3 : Option Value} : Wp S N d MX9_jointly 30 [some (.ref w), x1, x2, x3] [] I J P Q ↔ Wp S N d MX9_jointly 31 [some (.ref w), x1, x2, x3] [.ref w] I J P Q := wp_lod (len := 1) rfl rfl rfl rfl dX9_jointly_30
theorem e_X9_jointly_31 {v0 : Nat} {w : Int32} {x0 x1 x2 : Option Value} : Wp S N d MX9_jointly 31 [x0, x1, x2, some (.int w)] [.ref v0] I J P Q ↔ Wp S N d MX9_jointly 32 [x0, x1, x2, some (.int w)] [.int w, .ref v0] I J P Q := wp_lod (len := 1) rfl rfl rfl rfl dX9_jointly_31
theorem e_X9_jointly_32 {v0 : Int32} {v1 : Nat} {w : Int32} {x0 x1 x2 : Option Value} : Wp S N d MX9_jointly 32 [x0, x1, x2, some (.int w)] [.int v0, .ref v1] I J P Q ↔ Wp S N d MX9_jointly 33 [x0, x1, x2, some (.int w)] [.int w, .int v0, .ref v1] I J P Q := wp_lod (len := 1) rfl rfl rfl rfl dX9_jointly_32
theorem e_X9_jointly_33 {v0 : Int32} {v1 : Int32} {v2 : Nat} {w : Nat} {x1 x2 x3 : Option Value} : Wp S N d MX9_jointly 33 [some (.ref w), x1, x2, x3] [.int v0, .int v1, .ref v2] I J P Q ↔ Wp S N d MX9_jointly 34 [some (.ref w), x1, x2, x3] [.ref w, .int v0, .int v1, .ref v2] I J P Q := wp_lod (len := 1) rfl rfl rfl rfl dX9_jointly_33
theorem e_X9_jointly_34 {v0 : Nat} {v1 : Int32} {v2 : Int32} {v3 : Nat} {w : Int32} {x0 x2 x3 : Option Value} : Wp S N d MX9_jointly 34 [x0, some (.int w), x2, x3] [.ref v0, .int v1, .int v2, .ref v3] I J P Q ↔ Wp S N d MX9_jointly 35 [x0, some (.int w), x2, x3] [.int w, .ref v0, .int v1, .int v2, .ref v3] I J P Q := wp_lod (len := 1) rfl rfl rfl rfl dX9_jointly_34
theorem e_X9_jointly_35 {v0 : Int32} {v1 : Nat} {v2 : Int32} {v3 : Int32} {v4 : Nat} {x0 x1 x2 x3 : Option Value} : Wp S N d MX9_jointly 35 [x0, x1, x2, x3] [.int v0, .ref v1, .int v2, .int v3, .ref v4] I J P Q ↔ Wp S N d MX9_jointly 36 [x0, x1, x2, x3] [.int 1, .int v0, .ref v1, .int v2, .int v3, .ref v4] I J P Q := wp_iconst (by decide) dX9_jointly_35
theorem e_X9_jointly_36 {v0 : Int32} {v1 : Int32} {v2 : Nat} {v3 : Int32} {v4 : Int32} {v5 : Nat} {x0 x1 x2 x3 : Option Value} : Wp S N (d + 1) MX9_jointly 36 [x0, x1, x2, x3] [.int v0, .int v1, .ref v2, .int v3, .int v4, .ref v5] I J P Q ↔ S v2 = 9 ∧ CWp S N d MX9_of [.ref v2, .int v1, .int v0] I J P (fun r I1 J1 P1 => Wp S N (d + 1) MX9_jointly 39 [x0, x1, x2, x3] (r.toList ++ [.int v3, .int v4, .ref v5]) I1 J1 P1 Q) := wp_callV (M' := MX9_of) (As := [.int v1, .int v0]) rfl rfl rfl rfl (by decide) (Nat.le_of_ble_eq_true rfl) dX9_jointly_36
theorem e_X9_jointly_39 {v0 : Int32} {v1 : Int32} {v2 : Int32} {v3 : Nat} {x0 x1 x2 x3 : Option Value} : Wp S N d MX9_jointly 39 [x0, x1, x2, x3] [.int v0, .int v1, .int v2, .ref v3] I J P Q ↔ Wp S N d MX9_jointly 40 [x0, x1, x2, x3] [.int (v1 + v0), .int v2, .ref v3] I J P Q := wp_alu (len := 1) rfl rfl rfl dX9_jointly_39
theorem e_X9_jointly_40 {v0 : Int32} {v1 : Int32} {v2 : Nat} {w : Nat} {x1 x2 x3 : Option Value} : Wp S N d MX9_jointly 40 [some (.ref w), x1, x2, x3] [.int v0, .int v1, .ref v2] I J P Q ↔ Wp S N d MX9_jointly 41 [some (.ref w), x1, x2, x3] [.ref w, .int v0, .int v1, .ref v2] I J P Q := wp_lod (len := 1) rfl rfl rfl rfl dX9_jointly_40
theorem e_X9_jointly_41 {v0 : Nat} {v1 : Int32} {v2 : Int32} {v3 : Nat} {w : Int32} {x0 x1 x3 : Option Value} : Wp S N d MX9_jointly 41 [x0, x1, some (.int w), x3] [.ref v0, .int v1, .int v2, .ref v3] I J P Q ↔ Wp S N d MX9_jointly 42 [x0, x1, some (.int w), x3] [.int w, .ref v0, .int v1, .int v2, .ref v3] I J P Q := wp_lod (len := 1) rfl rfl rfl rfl dX9_jointly_41
theorem e_X9_jointly_42 {v0 : Int32} {v1 : Nat} {v2 : Int32} {v3 : Int32} {v4 : Nat} {x0 x1 x2 x3 : Option Value} : Wp S N d MX9_jointly 42 [x0, x1, x2, x3] [.int v0, .ref v1, .int v2, .int v3, .ref v4] I J P Q ↔ Wp S N d MX9_jointly 43 [x0, x1, x2, x3] [.int 1, .int v0, .ref v1, .int v2, .int v3, .ref v4] I J P Q := wp_iconst (by decide) dX9_jointly_42
theorem e_X9_jointly_43 {v0 : Int32} {v1 : Int32} {v2 : Nat} {v3 : Int32} {v4 : Int32} {v5 : Nat} {x0 x1 x2 x3 : Option Value} : Wp S N (d + 1) MX9_jointly 43 [x0, x1, x2, x3] [.int v0, .int v1, .ref v2, .int v3, .int v4, .ref v5] I J P Q ↔ S v2 = 9 ∧ CWp S N d MX9_of [.ref v2, .int v1, .int v0] I J P (fun r I1 J1 P1 => Wp S N (d + 1) MX9_jointly 46 [x0, x1, x2, x3] (r.toList ++ [.int v3, .int v4, .ref v5]) I1 J1 P1 Q) := wp_callV (M' := MX9_of) (As := [.int v1, .int v0]) rfl rfl rfl rfl (by decide) (Nat.le_of_ble_eq_true rfl) dX9_jointly_43
theorem e_X9_jointly_46 {v0 : Int32} {v1 : Int32} {v2 : Int32} {v3 : Nat} {x0 x1 x2 x3 : Option Value} : Wp S N d MX9_jointly 46 [x0, x1, x2, x3] [.int v0, .int v1, .int v2, .ref v3] I J P Q ↔ Wp S N d MX9_jointly 47 [x0, x1, x2, x3] [.int (v1 + v0), .int v2, .ref v3] I J P Q := wp_alu (len := 1) rfl rfl rfl dX9_jointly_46
theorem e_X9_jointly_47 {v0 : Int32} {v1 : Int32} {v2 : Nat} {w : Nat} {x1 x2 x3 : Option Value} : Wp S N d MX9_jointly 47 [some (.ref w), x1, x2, x3] [.int v0, .int v1, .ref v2] I J P Q ↔ Wp S N d MX9_jointly 48 [some (.ref w), x1, x2, x3] [.ref w, .int v0, .int v1, .ref v2] I J P Q := wp_lod (len := 1) rfl rfl rfl rfl dX9_jointly_47
theorem e_X9_jointly_48 {v0 : Nat} {v1 : Int32} {v2 : Int32} {v3 : Nat} {w : Int32} {x0 x2 x3 : Option Value} : Wp S N d MX9_jointly 48 [x0, some (.int w), x2, x3] [.ref v0, .int v1, .int v2, .ref v3] I J P Q ↔ Wp S N d MX9_jointly 49 [x0, some (.int w), x2, x3] [.int w, .ref v0, .int v1, .int v2, .ref v3] I J P Q := wp_lod (len := 1) rfl rfl rfl rfl dX9_jointly_48
theorem e_X9_jointly_49 {v0 : Int32} {v1 : Nat} {v2 : Int32} {v3 : Int32} {v4 : Nat} {x0 x1 x2 x3 : Option Value} : Wp S N d MX9_jointly 49 [x0, x1, x2, x3] [.int v0, .ref v1, .int v2, .int v3, .ref v4] I J P Q ↔ Wp S N d MX9_jointly 50 [x0, x1, x2, x3] [.int 2, .int v0, .ref v1, .int v2, .int v3, .ref v4] I J P Q := wp_iconst (by decide) dX9_jointly_49
theorem e_X9_jointly_50 {v0 : Int32} {v1 : Int32} {v2 : Nat} {v3 : Int32} {v4 : Int32} {v5 : Nat} {x0 x1 x2 x3 : Option Value} : Wp S N (d + 1) MX9_jointly 50 [x0, x1, x2, x3] [.int v0, .int v1, .ref v2, .int v3, .int v4, .ref v5] I J P Q ↔ S v2 = 9 ∧ CWp S N d MX9_of [.ref v2, .int v1, .int v0] I J P (fun r I1 J1 P1 => Wp S N (d + 1) MX9_jointly 53 [x0, x1, x2, x3] (r.toList ++ [.int v3, .int v4, .ref v5]) I1 J1 P1 Q) := wp_callV (M' := MX9_of) (As := [.int v1, .int v0]) rfl rfl rfl rfl (by decide) (Nat.le_of_ble_eq_true rfl) dX9_jointly_50
theorem e_X9_jointly_53 {v0 : Int32} {v1 : Int32} {v2 : Int32} {v3 : Nat} {w : Nat} {x1 x2 x3 : Option Value} : Wp S N d MX9_jointly 53 [some (.ref w), x1, x2, x3] [.int v0, .int v1, .int v2, .ref v3] I J P Q ↔ Wp S N d MX9_jointly 54 [some (.ref w), x1, x2, x3] [.ref w, .int v0, .int v1, .int v2, .ref v3] I J P Q := wp_lod (len := 1) rfl rfl rfl rfl dX9_jointly_53
theorem e_X9_jointly_54 {v0 : Nat} {v1 : Int32} {v2 : Int32} {v3 : Int32} {v4 : Nat} {w : Int32} {x0 x1 x3 : Option Value} : Wp S N d MX9_jointly 54 [x0, x1, some (.int w), x3] [.ref v0, .int v1, .int v2, .int v3, .ref v4] I J P Q ↔ Wp S N d MX9_jointly 55 [x0, x1, some (.int w), x3] [.int w, .ref v0, .int v1, .int v2, .int v3, .ref v4] I J P Q := wp_lod (len := 1) rfl rfl rfl rfl dX9_jointly_54
theorem e_X9_jointly_55 {v0 : Int32} {v1 : Nat} {v2 : Int32} {v3 : Int32} {v4 : Int32} {v5 : Nat} {x0 x1 x2 x3 : Option Value} : Wp S N d MX9_jointly 55 [x0, x1, x2, x3] [.int v0, .ref v1, .int v2, .int v3, .int v4, .ref v5] I J P Q ↔ Wp S N d MX9_jointly 56 [x0, x1, x2, x3] [.int 2, .int v0, .ref v1, .int v2, .int v3, .int v4, .ref v5] I J P Q := wp_iconst (by decide) dX9_jointly_55
theorem e_X9_jointly_56 {v0 : Int32} {v1 : Int32} {v2 : Nat} {v3 : Int32} {v4 : Int32} {v5 : Int32} {v6 : Nat} {x0 x1 x2 x3 : Option Value} : Wp S N (d + 1) MX9_jointly 56 [x0, x1, x2, x3] [.int v0, .int v1, .ref v2, .int v3, .int v4, .int v5, .ref v6] I J P Q ↔ S v2 = 9 ∧ CWp S N d MX9_of [.ref v2, .int v1, .int v0] I J P (fun r I1 J1 P1 => Wp S N (d + 1) MX9_jointly 59 [x0, x1, x2, x3] (r.toList ++ [.int v3, .int v4, .int v5, .ref v6]) I1 J1 P1 Q) := wp_callV (M' := MX9_of) (As := [.int v1, .int v0]) rfl rfl rfl rfl (by decide) (Nat.le_of_ble_eq_true rfl) dX9_jointly_56
theorem e_X9_jointly_59 {v0 : Int32} {v1 : Int32} {v2 : Int32} {v3 : Int32} {v4 : Nat} {x0 x1 x2 x3 : Option Value} : Wp S N d MX9_jointly 59 [x0, x1, x2, x3] [.int v0, .int v1, .int v2, .int v3, .ref v4] I J P Q ↔ Wp S N d MX9_jointly 60 [x0, x1, x2, x3] [.int (v1 + v0), .int v2, .int v3, .ref v4] I J P Q := wp_alu (len := 1) rfl rfl rfl dX9_jointly_59
theorem e_X9_jointly_60 {v0 : Int32} {v1 : Int32} {v2 : Int32} {v3 : Nat} {x0 x1 x2 x3 : Option Value} : Wp S N d MX9_jointly 60 [x0, x1, x2, x3] [.int v0, .int v1, .int v2, .ref v3] I J P Q ↔ Wp S N d MX9_jointly 61 [x0, x1, x2, x3] [.int 2, .int v0, .int v1, .int v2, .ref v3] I J P Q := wp_iconst (by decide) dX9_jointly_60
theorem e_X9_jointly_61 {v0 : Int32} {v1 : Int32} {v2 : Int32} {v3 : Int32} {v4 : Nat} {x0 x1 x2 x3 : Option Value} : Wp S N (d + 1) MX9_jointly 61 [x0, x1, x2, x3] [.int v0, .int v1, .int v2, .int v3, .ref v4] I J P Q ↔ S v4 = 9 ∧ CWp S N d MX9_taxOf [.ref v4, .int v3, .int v2, .int v1, .int v0] I J P (fun r I1 J1 P1 => Wp S N (d + 1) MX9_jointly 64 [x0, x1, x2, x3] (r.toList ++ []) I1 J1 P1 Q) := wp_callV (M' := MX9_taxOf) (As := [.int v3, .int v2, .int v1, .int v0]) rfl rfl rfl rfl (by decide) (Nat.le_of_ble_eq_true rfl) dX9_jointly_61
theorem e_X9_jointly_64 {v0 : Int64} {x0 x1 x2 x3 : Option Value} : Wp S N d MX9_jointly 64 [x0, x1, x2, x3] [.long v0] I J P Q ↔ Q (some (.long v0)) I J P := wp_lret rfl dX9_jointly_64
theorem dX9_apart_0 : decode cX9_apart 0 = .ok (.aload_n 0, 1) := by decide +kernel
theorem dX9_apart_1 : decode cX9_apart 1 = .ok (.iload_n 1, 1) := by decide +kernel
theorem dX9_apart_2 : decode cX9_apart 2 = .ok (.invokevirtual 197, 3) := by decide +kernel
theorem dX9_apart_5 : decode cX9_apart 5 = .ok (.istore_n 2, 1) := by decide +kernel
theorem dX9_apart_6 : decode cX9_apart 6 = .ok (.aload_n 0, 1) := by decide +kernel
theorem dX9_apart_7 : decode cX9_apart 7 = .ok (.getfield 7, 3) := by decide +kernel
theorem dX9_apart_10 : decode cX9_apart 10 = .ok (.bipush 82, 2) := by decide +kernel
theorem dX9_apart_12 : decode cX9_apart 12 = .ok (.iload_n 2, 1) := by decide +kernel
theorem dX9_apart_13 : decode cX9_apart 13 = .ok (.iadd, 1) := by decide +kernel
theorem dX9_apart_14 : decode cX9_apart 14 = .ok (.iaload, 1) := by decide +kernel
theorem dX9_apart_15 : decode cX9_apart 15 = .ok (.istore_n 3, 1) := by decide +kernel
theorem dX9_apart_16 : decode cX9_apart 16 = .ok (.aload_n 0, 1) := by decide +kernel
theorem dX9_apart_17 : decode cX9_apart 17 = .ok (.iload_n 2, 1) := by decide +kernel
theorem dX9_apart_18 : decode cX9_apart 18 = .ok (.iconst 2, 1) := by decide +kernel
theorem dX9_apart_19 : decode cX9_apart 19 = .ok (.invokevirtual 143, 3) := by decide +kernel
theorem dX9_apart_22 : decode cX9_apart 22 = .ok (.aload_n 0, 1) := by decide +kernel
theorem dX9_apart_23 : decode cX9_apart 23 = .ok (.iload_n 3, 1) := by decide +kernel
theorem dX9_apart_24 : decode cX9_apart 24 = .ok (.iconst 2, 1) := by decide +kernel
theorem dX9_apart_25 : decode cX9_apart 25 = .ok (.invokevirtual 143, 3) := by decide +kernel
theorem dX9_apart_28 : decode cX9_apart 28 = .ok (.iadd, 1) := by decide +kernel
theorem dX9_apart_29 : decode cX9_apart 29 = .ok (.istore 4, 2) := by decide +kernel
theorem dX9_apart_31 : decode cX9_apart 31 = .ok (.lconst 0, 1) := by decide +kernel
theorem dX9_apart_32 : decode cX9_apart 32 = .ok (.lstore 5, 2) := by decide +kernel
theorem dX9_apart_34 : decode cX9_apart 34 = .ok (.iconst 0, 1) := by decide +kernel
theorem dX9_apart_35 : decode cX9_apart 35 = .ok (.istore 7, 2) := by decide +kernel
theorem dX9_apart_37 : decode cX9_apart 37 = .ok (.iload 7, 2) := by decide +kernel
theorem dX9_apart_39 : decode cX9_apart 39 = .ok (.iload 4, 2) := by decide +kernel
theorem dX9_apart_41 : decode cX9_apart 41 = .ok (.if_icmp .gt 68, 3) := by decide +kernel
theorem dX9_apart_44 : decode cX9_apart 44 = .ok (.aload_n 0, 1) := by decide +kernel
theorem dX9_apart_45 : decode cX9_apart 45 = .ok (.iload_n 2, 1) := by decide +kernel
theorem dX9_apart_46 : decode cX9_apart 46 = .ok (.aload_n 0, 1) := by decide +kernel
theorem dX9_apart_47 : decode cX9_apart 47 = .ok (.iload_n 2, 1) := by decide +kernel
theorem dX9_apart_48 : decode cX9_apart 48 = .ok (.iconst 0, 1) := by decide +kernel
theorem dX9_apart_49 : decode cX9_apart 49 = .ok (.invokevirtual 143, 3) := by decide +kernel
theorem dX9_apart_52 : decode cX9_apart 52 = .ok (.iload 7, 2) := by decide +kernel
theorem dX9_apart_54 : decode cX9_apart 54 = .ok (.invokevirtual 184, 3) := by decide +kernel
theorem dX9_apart_57 : decode cX9_apart 57 = .ok (.lstore 8, 2) := by decide +kernel
theorem dX9_apart_59 : decode cX9_apart 59 = .ok (.lload 8, 2) := by decide +kernel
theorem dX9_apart_61 : decode cX9_apart 61 = .ok (.aload_n 0, 1) := by decide +kernel
theorem dX9_apart_62 : decode cX9_apart 62 = .ok (.iload_n 3, 1) := by decide +kernel
theorem dX9_apart_63 : decode cX9_apart 63 = .ok (.aload_n 0, 1) := by decide +kernel
theorem dX9_apart_64 : decode cX9_apart 64 = .ok (.iload_n 3, 1) := by decide +kernel
theorem dX9_apart_65 : decode cX9_apart 65 = .ok (.iconst 0, 1) := by decide +kernel
theorem dX9_apart_66 : decode cX9_apart 66 = .ok (.invokevirtual 143, 3) := by decide +kernel
theorem dX9_apart_69 : decode cX9_apart 69 = .ok (.iload 4, 2) := by decide +kernel
theorem dX9_apart_71 : decode cX9_apart 71 = .ok (.iload 7, 2) := by decide +kernel
theorem dX9_apart_73 : decode cX9_apart 73 = .ok (.isub, 1) := by decide +kernel
theorem dX9_apart_74 : decode cX9_apart 74 = .ok (.invokevirtual 184, 3) := by decide +kernel
theorem dX9_apart_77 : decode cX9_apart 77 = .ok (.ladd, 1) := by decide +kernel
theorem dX9_apart_78 : decode cX9_apart 78 = .ok (.lstore 8, 2) := by decide +kernel
theorem dX9_apart_80 : decode cX9_apart 80 = .ok (.iload 7, 2) := by decide +kernel
theorem dX9_apart_82 : decode cX9_apart 82 = .ok (.ifCond .eq 11, 3) := by decide +kernel
theorem dX9_apart_85 : decode cX9_apart 85 = .ok (.lload 8, 2) := by decide +kernel
theorem dX9_apart_87 : decode cX9_apart 87 = .ok (.lload 5, 2) := by decide +kernel
theorem dX9_apart_89 : decode cX9_apart 89 = .ok (.lcmp, 1) := by decide +kernel
theorem dX9_apart_90 : decode cX9_apart 90 = .ok (.ifCond .ge 13, 3) := by decide +kernel
theorem dX9_apart_93 : decode cX9_apart 93 = .ok (.lload 8, 2) := by decide +kernel
theorem dX9_apart_95 : decode cX9_apart 95 = .ok (.lstore 5, 2) := by decide +kernel
theorem dX9_apart_97 : decode cX9_apart 97 = .ok (.aload_n 0, 1) := by decide +kernel
theorem dX9_apart_98 : decode cX9_apart 98 = .ok (.iload 7, 2) := by decide +kernel
theorem dX9_apart_100 : decode cX9_apart 100 = .ok (.putfield 200, 3) := by decide +kernel
theorem dX9_apart_103 : decode cX9_apart 103 = .ok (.iinc 7 1, 3) := by decide +kernel
theorem dX9_apart_106 : decode cX9_apart 106 = .ok (.goto (-69), 3) := by decide +kernel
theorem dX9_apart_109 : decode cX9_apart 109 = .ok (.lload 5, 2) := by decide +kernel
theorem dX9_apart_111 : decode cX9_apart 111 = .ok (.lreturn, 1) := by decide +kernel
theorem c_X9_apart {a0 : Nat} {a1 : Int32} : CWp S N d MX9_apart [.ref a0, .int a1] I J P Q ↔ Wp S N d MX9_apart 0 [some (.ref a0), some (.int a1), none, none, none, none, none, none, none, none] [] I J P Q := by
  rw [cwp_iff]
  exact ⟨fun h => h.2, fun h => ⟨Nat.le_of_ble_eq_true rfl, h⟩⟩
theorem e_X9_apart_0 {w : Nat} {x1 x2 x3 x4 x5 x6 x7 x8 x9 : Option Value} : Wp S N d MX9_apart 0 [some (.ref w), x1, x2, x3, x4, x5, x6, x7, x8, x9] [] I J P Q ↔ Wp S N d MX9_apart 1 [some (.ref w), x1, x2, x3, x4, x5, x6, x7, x8, x9] [.ref w] I J P Q := wp_lod (len := 1) rfl rfl rfl rfl dX9_apart_0
theorem e_X9_apart_1 {v0 : Nat} {w : Int32} {x0 x2 x3 x4 x5 x6 x7 x8 x9 : Option Value} : Wp S N d MX9_apart 1 [x0, some (.int w), x2, x3, x4, x5, x6, x7, x8, x9] [.ref v0] I J P Q ↔ Wp S N d MX9_apart 2 [x0, some (.int w), x2, x3, x4, x5, x6, x7, x8, x9] [.int w, .ref v0] I J P Q := wp_lod (len := 1) rfl rfl rfl rfl dX9_apart_1
theorem e_X9_apart_2 {v0 : Int32} {v1 : Nat} {x0 x1 x2 x3 x4 x5 x6 x7 x8 x9 : Option Value} : Wp S N (d + 1) MX9_apart 2 [x0, x1, x2, x3, x4, x5, x6, x7, x8, x9] [.int v0, .ref v1] I J P Q ↔ S v1 = 9 ∧ CWp S N d MX9_firstOf [.ref v1, .int v0] I J P (fun r I1 J1 P1 => Wp S N (d + 1) MX9_apart 5 [x0, x1, x2, x3, x4, x5, x6, x7, x8, x9] (r.toList ++ []) I1 J1 P1 Q) := wp_callV (M' := MX9_firstOf) (As := [.int v0]) rfl rfl rfl rfl (by decide) (Nat.le_of_ble_eq_true rfl) dX9_apart_2
theorem e_X9_apart_5 {v0 : Int32} {x0 x1 x2 x3 x4 x5 x6 x7 x8 x9 : Option Value} : Wp S N d MX9_apart 5 [x0, x1, x2, x3, x4, x5, x6, x7, x8, x9] [.int v0] I J P Q ↔ Wp S N d MX9_apart 6 [x0, kl x1, some (.int v0), x3, x4, x5, x6, x7, x8, x9] [] I J P Q := wp_sto (len := 1) rfl rfl rfl rfl (Nat.le_of_ble_eq_true rfl) rfl dX9_apart_5
theorem e_X9_apart_6 {w : Nat} {x1 x2 x3 x4 x5 x6 x7 x8 x9 : Option Value} : Wp S N d MX9_apart 6 [some (.ref w), x1, x2, x3, x4, x5, x6, x7, x8, x9] [] I J P Q ↔ Wp S N d MX9_apart 7 [some (.ref w), x1, x2, x3, x4, x5, x6, x7, x8, x9] [.ref w] I J P Q := wp_lod (len := 1) rfl rfl rfl rfl dX9_apart_6
theorem e_X9_apart_7 {v0 : Nat} {x0 x1 x2 x3 x4 x5 x6 x7 x8 x9 : Option Value} : Wp S N d MX9_apart 7 [x0, x1, x2, x3, x4, x5, x6, x7, x8, x9] [.ref v0] I J P Q ↔ S v0 = 9 ∧ Wp S N d MX9_apart 10 [x0, x1, x2, x3, x4, x5, x6, x7, x8, x9] [va_rf (P v0 0)] I J P Q := wp_getf rfl rfl rfl rfl dX9_apart_7
theorem e_X9_apart_10 {v0 : Nat} {x0 x1 x2 x3 x4 x5 x6 x7 x8 x9 : Option Value} : Wp S N d MX9_apart 10 [x0, x1, x2, x3, x4, x5, x6, x7, x8, x9] [.ref v0] I J P Q ↔ Wp S N d MX9_apart 12 [x0, x1, x2, x3, x4, x5, x6, x7, x8, x9] [.int 82, .ref v0] I J P Q := wp_bipush (by decide) dX9_apart_10
theorem e_X9_apart_12 {v0 : Int32} {v1 : Nat} {w : Int32} {x0 x1 x3 x4 x5 x6 x7 x8 x9 : Option Value} : Wp S N d MX9_apart 12 [x0, x1, some (.int w), x3, x4, x5, x6, x7, x8, x9] [.int v0, .ref v1] I J P Q ↔ Wp S N d MX9_apart 13 [x0, x1, some (.int w), x3, x4, x5, x6, x7, x8, x9] [.int w, .int v0, .ref v1] I J P Q := wp_lod (len := 1) rfl rfl rfl rfl dX9_apart_12
theorem e_X9_apart_13 {v0 : Int32} {v1 : Int32} {v2 : Nat} {x0 x1 x2 x3 x4 x5 x6 x7 x8 x9 : Option Value} : Wp S N d MX9_apart 13 [x0, x1, x2, x3, x4, x5, x6, x7, x8, x9] [.int v0, .int v1, .ref v2] I J P Q ↔ Wp S N d MX9_apart 14 [x0, x1, x2, x3, x4, x5, x6, x7, x8, x9] [.int (v1 + v0), .ref v2] I J P Q := wp_alu (len := 1) rfl rfl rfl dX9_apart_13
theorem e_X9_apart_14 {v0 : Int32} {v1 : Nat} {x0 x1 x2 x3 x4 x5 x6 x7 x8 x9 : Option Value} : Wp S N d MX9_apart 14 [x0, x1, x2, x3, x4, x5, x6, x7, x8, x9] [.int v0, .ref v1] I J P Q ↔ (S v1 = 10 ∧ vp_in v0 (N v1)) ∧ Wp S N d MX9_apart 15 [x0, x1, x2, x3, x4, x5, x6, x7, x8, x9] [.int (I v1 v0.toNatClampNeg)] I J P Q := wp_ald rfl rfl dX9_apart_14
theorem e_X9_apart_15 {v0 : Int32} {x0 x1 x2 x3 x4 x5 x6 x7 x8 x9 : Option Value} : Wp S N d MX9_apart 15 [x0, x1, x2, x3, x4, x5, x6, x7, x8, x9] [.int v0] I J P Q ↔ Wp S N d MX9_apart 16 [x0, x1, kl x2, some (.int v0), x4, x5, x6, x7, x8, x9] [] I J P Q := wp_sto (len := 1) rfl rfl rfl rfl (Nat.le_of_ble_eq_true rfl) rfl dX9_apart_15
theorem e_X9_apart_16 {w : Nat} {x1 x2 x3 x4 x5 x6 x7 x8 x9 : Option Value} : Wp S N d MX9_apart 16 [some (.ref w), x1, x2, x3, x4, x5, x6, x7, x8, x9] [] I J P Q ↔ Wp S N d MX9_apart 17 [some (.ref w), x1, x2, x3, x4, x5, x6, x7, x8, x9] [.ref w] I J P Q := wp_lod (len := 1) rfl rfl rfl rfl dX9_apart_16
theorem e_X9_apart_17 {v0 : Nat} {w : Int32} {x0 x1 x3 x4 x5 x6 x7 x8 x9 : Option Value} : Wp S N d MX9_apart 17 [x0, x1, some (.int w), x3, x4, x5, x6, x7, x8, x9] [.ref v0] I J P Q ↔ Wp S N d MX9_apart 18 [x0, x1, some (.int w), x3, x4, x5, x6, x7, x8, x9] [.int w, .ref v0] I J P Q := wp_lod (len := 1) rfl rfl rfl rfl dX9_apart_17
theorem e_X9_apart_18 {v0 : Int32} {v1 : Nat} {x0 x1 x2 x3 x4 x5 x6 x7 x8 x9 : Option Value} : Wp S N d MX9_apart 18 [x0, x1, x2, x3, x4, x5, x6, x7, x8, x9] [.int v0, .ref v1] I J P Q ↔ Wp S N d MX9_apart 19 [x0, x1, x2, x3, x4, x5, x6, x7, x8, x9] [.int 2, .int v0, .ref v1] I J P Q := wp_iconst (by decide) dX9_apart_18
theorem e_X9_apart_19 {v0 : Int32} {v1 : Int32} {v2 : Nat} {x0 x1 x2 x3 x4 x5 x6 x7 x8 x9 : Option Value} : Wp S N (d + 1) MX9_apart 19 [x0, x1, x2, x3, x4, x5, x6, x7, x8, x9] [.int v0, .int v1, .ref v2] I J P Q ↔ S v2 = 9 ∧ CWp S N d MX9_of [.ref v2, .int v1, .int v0] I J P (fun r I1 J1 P1 => Wp S N (d + 1) MX9_apart 22 [x0, x1, x2, x3, x4, x5, x6, x7, x8, x9] (r.toList ++ []) I1 J1 P1 Q) := wp_callV (M' := MX9_of) (As := [.int v1, .int v0]) rfl rfl rfl rfl (by decide) (Nat.le_of_ble_eq_true rfl) dX9_apart_19
theorem e_X9_apart_22 {v0 : Int32} {w : Nat} {x1 x2 x3 x4 x5 x6 x7 x8 x9 : Option Value} : Wp S N d MX9_apart 22 [some (.ref w), x1, x2, x3, x4, x5, x6, x7, x8, x9] [.int v0] I J P Q ↔ Wp S N d MX9_apart 23 [some (.ref w), x1, x2, x3, x4, x5, x6, x7, x8, x9] [.ref w, .int v0] I J P Q := wp_lod (len := 1) rfl rfl rfl rfl dX9_apart_22
theorem e_X9_apart_23 {v0 : Nat} {v1 : Int32} {w : Int32} {x0 x1 x2 x4 x5 x6 x7 x8 x9 : Option Value} : Wp S N d MX9_apart 23 [x0, x1, x2, some (.int w), x4, x5, x6, x7, x8, x9] [.ref v0, .int v1] I J P Q ↔ Wp S N d MX9_apart 24 [x0, x1, x2, some (.int w), x4, x5, x6, x7, x8, x9] [.int w, .ref v0, .int v1] I J P Q := wp_lod (len := 1) rfl rfl rfl rfl dX9_apart_23
theorem e_X9_apart_24 {v0 : Int32} {v1 : Nat} {v2 : Int32} {x0 x1 x2 x3 x4 x5 x6 x7 x8 x9 : Option Value} : Wp S N d MX9_apart 24 [x0, x1, x2, x3, x4, x5, x6, x7, x8, x9] [.int v0, .ref v1, .int v2] I J P Q ↔ Wp S N d MX9_apart 25 [x0, x1, x2, x3, x4, x5, x6, x7, x8, x9] [.int 2, .int v0, .ref v1, .int v2] I J P Q := wp_iconst (by decide) dX9_apart_24
theorem e_X9_apart_25 {v0 : Int32} {v1 : Int32} {v2 : Nat} {v3 : Int32} {x0 x1 x2 x3 x4 x5 x6 x7 x8 x9 : Option Value} : Wp S N (d + 1) MX9_apart 25 [x0, x1, x2, x3, x4, x5, x6, x7, x8, x9] [.int v0, .int v1, .ref v2, .int v3] I J P Q ↔ S v2 = 9 ∧ CWp S N d MX9_of [.ref v2, .int v1, .int v0] I J P (fun r I1 J1 P1 => Wp S N (d + 1) MX9_apart 28 [x0, x1, x2, x3, x4, x5, x6, x7, x8, x9] (r.toList ++ [.int v3]) I1 J1 P1 Q) := wp_callV (M' := MX9_of) (As := [.int v1, .int v0]) rfl rfl rfl rfl (by decide) (Nat.le_of_ble_eq_true rfl) dX9_apart_25
theorem e_X9_apart_28 {v0 : Int32} {v1 : Int32} {x0 x1 x2 x3 x4 x5 x6 x7 x8 x9 : Option Value} : Wp S N d MX9_apart 28 [x0, x1, x2, x3, x4, x5, x6, x7, x8, x9] [.int v0, .int v1] I J P Q ↔ Wp S N d MX9_apart 29 [x0, x1, x2, x3, x4, x5, x6, x7, x8, x9] [.int (v1 + v0)] I J P Q := wp_alu (len := 1) rfl rfl rfl dX9_apart_28
theorem e_X9_apart_29 {v0 : Int32} {x0 x1 x2 x3 x4 x5 x6 x7 x8 x9 : Option Value} : Wp S N d MX9_apart 29 [x0, x1, x2, x3, x4, x5, x6, x7, x8, x9] [.int v0] I J P Q ↔ Wp S N d MX9_apart 31 [x0, x1, x2, kl x3, some (.int v0), x5, x6, x7, x8, x9] [] I J P Q := wp_sto (len := 2) rfl rfl rfl rfl (Nat.le_of_ble_eq_true rfl) rfl dX9_apart_29
theorem e_X9_apart_31  {x0 x1 x2 x3 x4 x5 x6 x7 x8 x9 : Option Value} : Wp S N d MX9_apart 31 [x0, x1, x2, x3, x4, x5, x6, x7, x8, x9] [] I J P Q ↔ Wp S N d MX9_apart 32 [x0, x1, x2, x3, x4, x5, x6, x7, x8, x9] [.long 0] I J P Q := wp_lconst (by decide) dX9_apart_31
theorem e_X9_apart_32 {v0 : Int64} {x0 x1 x2 x3 x4 x5 x6 x7 x8 x9 : Option Value} : Wp S N d MX9_apart 32 [x0, x1, x2, x3, x4, x5, x6, x7, x8, x9] [.long v0] I J P Q ↔ Wp S N d MX9_apart 34 [x0, x1, x2, x3, kl x4, some (.long v0), none, x7, x8, x9] [] I J P Q := wp_sto (len := 2) rfl rfl rfl rfl (Nat.le_of_ble_eq_true rfl) rfl dX9_apart_32
theorem e_X9_apart_34  {x0 x1 x2 x3 x4 x5 x6 x7 x8 x9 : Option Value} : Wp S N d MX9_apart 34 [x0, x1, x2, x3, x4, x5, x6, x7, x8, x9] [] I J P Q ↔ Wp S N d MX9_apart 35 [x0, x1, x2, x3, x4, x5, x6, x7, x8, x9] [.int 0] I J P Q := wp_iconst (by decide) dX9_apart_34
theorem e_X9_apart_35 {v0 : Int32} {x0 x1 x2 x3 x4 x5 x6 x7 x8 x9 : Option Value} : Wp S N d MX9_apart 35 [x0, x1, x2, x3, x4, x5, x6, x7, x8, x9] [.int v0] I J P Q ↔ Wp S N d MX9_apart 37 [x0, x1, x2, x3, x4, x5, kl x6, some (.int v0), x8, x9] [] I J P Q := wp_sto (len := 2) rfl rfl rfl rfl (Nat.le_of_ble_eq_true rfl) rfl dX9_apart_35
theorem e_X9_apart_37 {w : Int32} {x0 x1 x2 x3 x4 x5 x6 x8 x9 : Option Value} : Wp S N d MX9_apart 37 [x0, x1, x2, x3, x4, x5, x6, some (.int w), x8, x9] [] I J P Q ↔ Wp S N d MX9_apart 39 [x0, x1, x2, x3, x4, x5, x6, some (.int w), x8, x9] [.int w] I J P Q := wp_lod (len := 2) rfl rfl rfl rfl dX9_apart_37
theorem e_X9_apart_39 {v0 : Int32} {w : Int32} {x0 x1 x2 x3 x5 x6 x7 x8 x9 : Option Value} : Wp S N d MX9_apart 39 [x0, x1, x2, x3, some (.int w), x5, x6, x7, x8, x9] [.int v0] I J P Q ↔ Wp S N d MX9_apart 41 [x0, x1, x2, x3, some (.int w), x5, x6, x7, x8, x9] [.int w, .int v0] I J P Q := wp_lod (len := 2) rfl rfl rfl rfl dX9_apart_39
theorem e_X9_apart_41 {v0 : Int32} {v1 : Int32} {x0 x1 x2 x3 x4 x5 x6 x7 x8 x9 : Option Value} : Wp S N d MX9_apart 41 [x0, x1, x2, x3, x4, x5, x6, x7, x8, x9] [.int v0, .int v1] I J P Q ↔ (v0 < v1 → Wp S N d MX9_apart 109 [x0, x1, x2, x3, x4, x5, x6, x7, x8, x9] [] I J P Q) ∧ (¬ v0 < v1 → Wp S N d MX9_apart 44 [x0, x1, x2, x3, x4, x5, x6, x7, x8, x9] [] I J P Q) := wp_br rfl rfl (by decide) dX9_apart_41
theorem e_X9_apart_44 {w : Nat} {x1 x2 x3 x4 x5 x6 x7 x8 x9 : Option Value} : Wp S N d MX9_apart 44 [some (.ref w), x1, x2, x3, x4, x5, x6, x7, x8, x9] [] I J P Q ↔ Wp S N d MX9_apart 45 [some (.ref w), x1, x2, x3, x4, x5, x6, x7, x8, x9] [.ref w] I J P Q := wp_lod (len := 1) rfl rfl rfl rfl dX9_apart_44
theorem e_X9_apart_45 {v0 : Nat} {w : Int32} {x0 x1 x3 x4 x5 x6 x7 x8 x9 : Option Value} : Wp S N d MX9_apart 45 [x0, x1, some (.int w), x3, x4, x5, x6, x7, x8, x9] [.ref v0] I J P Q ↔ Wp S N d MX9_apart 46 [x0, x1, some (.int w), x3, x4, x5, x6, x7, x8, x9] [.int w, .ref v0] I J P Q := wp_lod (len := 1) rfl rfl rfl rfl dX9_apart_45
theorem e_X9_apart_46 {v0 : Int32} {v1 : Nat} {w : Nat} {x1 x2 x3 x4 x5 x6 x7 x8 x9 : Option Value} : Wp S N d MX9_apart 46 [some (.ref w), x1, x2, x3, x4, x5, x6, x7, x8, x9] [.int v0, .ref v1] I J P Q ↔ Wp S N d MX9_apart 47 [some (.ref w), x1, x2, x3, x4, x5, x6, x7, x8, x9] [.ref w, .int v0, .ref v1] I J P Q := wp_lod (len := 1) rfl rfl rfl rfl dX9_apart_46
theorem e_X9_apart_47 {v0 : Nat} {v1 : Int32} {v2 : Nat} {w : Int32} {x0 x1 x3 x4 x5 x6 x7 x8 x9 : Option Value} : Wp S N d MX9_apart 47 [x0, x1, some (.int w), x3, x4, x5, x6, x7, x8, x9] [.ref v0, .int v1, .ref v2] I J P Q ↔ Wp S N d MX9_apart 48 [x0, x1, some (.int w), x3, x4, x5, x6, x7, x8, x9] [.int w, .ref v0, .int v1, .ref v2] I J P Q := wp_lod (len := 1) rfl rfl rfl rfl dX9_apart_47
theorem e_X9_apart_48 {v0 : Int32} {v1 : Nat} {v2 : Int32} {v3 : Nat} {x0 x1 x2 x3 x4 x5 x6 x7 x8 x9 : Option Value} : Wp S N d MX9_apart 48 [x0, x1, x2, x3, x4, x5, x6, x7, x8, x9] [.int v0, .ref v1, .int v2, .ref v3] I J P Q ↔ Wp S N d MX9_apart 49 [x0, x1, x2, x3, x4, x5, x6, x7, x8, x9] [.int 0, .int v0, .ref v1, .int v2, .ref v3] I J P Q := wp_iconst (by decide) dX9_apart_48
theorem e_X9_apart_49 {v0 : Int32} {v1 : Int32} {v2 : Nat} {v3 : Int32} {v4 : Nat} {x0 x1 x2 x3 x4 x5 x6 x7 x8 x9 : Option Value} : Wp S N (d + 1) MX9_apart 49 [x0, x1, x2, x3, x4, x5, x6, x7, x8, x9] [.int v0, .int v1, .ref v2, .int v3, .ref v4] I J P Q ↔ S v2 = 9 ∧ CWp S N d MX9_of [.ref v2, .int v1, .int v0] I J P (fun r I1 J1 P1 => Wp S N (d + 1) MX9_apart 52 [x0, x1, x2, x3, x4, x5, x6, x7, x8, x9] (r.toList ++ [.int v3, .ref v4]) I1 J1 P1 Q) := wp_callV (M' := MX9_of) (As := [.int v1, .int v0]) rfl rfl rfl rfl (by decide) (Nat.le_of_ble_eq_true rfl) dX9_apart_49
theorem e_X9_apart_52 {v0 : Int32} {v1 : Int32} {v2 : Nat} {w : Int32} {x0 x1 x2 x3 x4 x5 x6 x8 x9 : Option Value} : Wp S N d MX9_apart 52 [x0, x1, x2, x3, x4, x5, x6, some (.int w), x8, x9] [.int v0, .int v1, .ref v2] I J P Q ↔ Wp S N d MX9_apart 54 [x0, x1, x2, x3, x4, x5, x6, some (.int w), x8, x9] [.int w, .int v0, .int v1, .ref v2] I J P Q := wp_lod (len := 2) rfl rfl rfl rfl dX9_apart_52
theorem e_X9_apart_54 {v0 : Int32} {v1 : Int32} {v2 : Int32} {v3 : Nat} {x0 x1 x2 x3 x4 x5 x6 x7 x8 x9 : Option Value} : Wp S N (d + 1) MX9_apart 54 [x0, x1, x2, x3, x4, x5, x6, x7, x8, x9] [.int v0, .int v1, .int v2, .ref v3] I J P Q ↔ S v3 = 9 ∧ CWp S N d MX9_alone [.ref v3, .int v2, .int v1, .int v0] I J P (fun r I1 J1 P1 => Wp S N (d + 1) MX9_apart 57 [x0, x1, x2, x3, x4, x5, x6, x7, x8, x9] (r.toList ++ []) I1 J1 P1 Q) := wp_callV (M' := MX9_alone) (As := [.int v2, .int v1, .int v0]) rfl rfl rfl rfl (by decide) (Nat.le_of_ble_eq_true rfl) dX9_apart_54
theorem e_X9_apart_57 {v0 : Int64} {x0 x1 x2 x3 x4 x5 x6 x7 x8 x9 : Option Value} : Wp S N d MX9_apart 57 [x0, x1, x2, x3, x4, x5, x6, x7, x8, x9] [.long v0] I J P Q ↔ Wp S N d MX9_apart 59 [x0, x1, x2, x3, x4, x5, x6, kl x7, some (.long v0), none] [] I J P Q := wp_sto (len := 2) rfl rfl rfl rfl (Nat.le_of_ble_eq_true rfl) rfl dX9_apart_57
theorem e_X9_apart_59 {w : Int64} {x0 x1 x2 x3 x4 x5 x6 x7 x9 : Option Value} : Wp S N d MX9_apart 59 [x0, x1, x2, x3, x4, x5, x6, x7, some (.long w), x9] [] I J P Q ↔ Wp S N d MX9_apart 61 [x0, x1, x2, x3, x4, x5, x6, x7, some (.long w), x9] [.long w] I J P Q := wp_lod (len := 2) rfl rfl rfl rfl dX9_apart_59
theorem e_X9_apart_61 {v0 : Int64} {w : Nat} {x1 x2 x3 x4 x5 x6 x7 x8 x9 : Option Value} : Wp S N d MX9_apart 61 [some (.ref w), x1, x2, x3, x4, x5, x6, x7, x8, x9] [.long v0] I J P Q ↔ Wp S N d MX9_apart 62 [some (.ref w), x1, x2, x3, x4, x5, x6, x7, x8, x9] [.ref w, .long v0] I J P Q := wp_lod (len := 1) rfl rfl rfl rfl dX9_apart_61
theorem e_X9_apart_62 {v0 : Nat} {v1 : Int64} {w : Int32} {x0 x1 x2 x4 x5 x6 x7 x8 x9 : Option Value} : Wp S N d MX9_apart 62 [x0, x1, x2, some (.int w), x4, x5, x6, x7, x8, x9] [.ref v0, .long v1] I J P Q ↔ Wp S N d MX9_apart 63 [x0, x1, x2, some (.int w), x4, x5, x6, x7, x8, x9] [.int w, .ref v0, .long v1] I J P Q := wp_lod (len := 1) rfl rfl rfl rfl dX9_apart_62
theorem e_X9_apart_63 {v0 : Int32} {v1 : Nat} {v2 : Int64} {w : Nat} {x1 x2 x3 x4 x5 x6 x7 x8 x9 : Option Value} : Wp S N d MX9_apart 63 [some (.ref w), x1, x2, x3, x4, x5, x6, x7, x8, x9] [.int v0, .ref v1, .long v2] I J P Q ↔ Wp S N d MX9_apart 64 [some (.ref w), x1, x2, x3, x4, x5, x6, x7, x8, x9] [.ref w, .int v0, .ref v1, .long v2] I J P Q := wp_lod (len := 1) rfl rfl rfl rfl dX9_apart_63
theorem e_X9_apart_64 {v0 : Nat} {v1 : Int32} {v2 : Nat} {v3 : Int64} {w : Int32} {x0 x1 x2 x4 x5 x6 x7 x8 x9 : Option Value} : Wp S N d MX9_apart 64 [x0, x1, x2, some (.int w), x4, x5, x6, x7, x8, x9] [.ref v0, .int v1, .ref v2, .long v3] I J P Q ↔ Wp S N d MX9_apart 65 [x0, x1, x2, some (.int w), x4, x5, x6, x7, x8, x9] [.int w, .ref v0, .int v1, .ref v2, .long v3] I J P Q := wp_lod (len := 1) rfl rfl rfl rfl dX9_apart_64
theorem e_X9_apart_65 {v0 : Int32} {v1 : Nat} {v2 : Int32} {v3 : Nat} {v4 : Int64} {x0 x1 x2 x3 x4 x5 x6 x7 x8 x9 : Option Value} : Wp S N d MX9_apart 65 [x0, x1, x2, x3, x4, x5, x6, x7, x8, x9] [.int v0, .ref v1, .int v2, .ref v3, .long v4] I J P Q ↔ Wp S N d MX9_apart 66 [x0, x1, x2, x3, x4, x5, x6, x7, x8, x9] [.int 0, .int v0, .ref v1, .int v2, .ref v3, .long v4] I J P Q := wp_iconst (by decide) dX9_apart_65
theorem e_X9_apart_66 {v0 : Int32} {v1 : Int32} {v2 : Nat} {v3 : Int32} {v4 : Nat} {v5 : Int64} {x0 x1 x2 x3 x4 x5 x6 x7 x8 x9 : Option Value} : Wp S N (d + 1) MX9_apart 66 [x0, x1, x2, x3, x4, x5, x6, x7, x8, x9] [.int v0, .int v1, .ref v2, .int v3, .ref v4, .long v5] I J P Q ↔ S v2 = 9 ∧ CWp S N d MX9_of [.ref v2, .int v1, .int v0] I J P (fun r I1 J1 P1 => Wp S N (d + 1) MX9_apart 69 [x0, x1, x2, x3, x4, x5, x6, x7, x8, x9] (r.toList ++ [.int v3, .ref v4, .long v5]) I1 J1 P1 Q) := wp_callV (M' := MX9_of) (As := [.int v1, .int v0]) rfl rfl rfl rfl (by decide) (Nat.le_of_ble_eq_true rfl) dX9_apart_66
theorem e_X9_apart_69 {v0 : Int32} {v1 : Int32} {v2 : Nat} {v3 : Int64} {w : Int32} {x0 x1 x2 x3 x5 x6 x7 x8 x9 : Option Value} : Wp S N d MX9_apart 69 [x0, x1, x2, x3, some (.int w), x5, x6, x7, x8, x9] [.int v0, .int v1, .ref v2, .long v3] I J P Q ↔ Wp S N d MX9_apart 71 [x0, x1, x2, x3, some (.int w), x5, x6, x7, x8, x9] [.int w, .int v0, .int v1, .ref v2, .long v3] I J P Q := wp_lod (len := 2) rfl rfl rfl rfl dX9_apart_69
theorem e_X9_apart_71 {v0 : Int32} {v1 : Int32} {v2 : Int32} {v3 : Nat} {v4 : Int64} {w : Int32} {x0 x1 x2 x3 x4 x5 x6 x8 x9 : Option Value} : Wp S N d MX9_apart 71 [x0, x1, x2, x3, x4, x5, x6, some (.int w), x8, x9] [.int v0, .int v1, .int v2, .ref v3, .long v4] I J P Q ↔ Wp S N d MX9_apart 73 [x0, x1, x2, x3, x4, x5, x6, some (.int w), x8, x9] [.int w, .int v0, .int v1, .int v2, .ref v3, .long v4] I J P Q := wp_lod (len := 2) rfl rfl rfl rfl dX9_apart_71
theorem e_X9_apart_73 {v0 : Int32} {v1 : Int32} {v2 : Int32} {v3 : Int32} {v4 : Nat} {v5 : Int64} {x0 x1 x2 x3 x4 x5 x6 x7 x8 x9 : Option Value} : Wp S N d MX9_apart 73 [x0, x1, x2, x3, x4, x5, x6, x7, x8, x9] [.int v0, .int v1, .int v2, .int v3, .ref v4, .long v5] I J P Q ↔ Wp S N d MX9_apart 74 [x0, x1, x2, x3, x4, x5, x6, x7, x8, x9] [.int (v1 - v0), .int v2, .int v3, .ref v4, .long v5] I J P Q := wp_alu (len := 1) rfl rfl rfl dX9_apart_73
theorem e_X9_apart_74 {v0 : Int32} {v1 : Int32} {v2 : Int32} {v3 : Nat} {v4 : Int64} {x0 x1 x2 x3 x4 x5 x6 x7 x8 x9 : Option Value} : Wp S N (d + 1) MX9_apart 74 [x0, x1, x2, x3, x4, x5, x6, x7, x8, x9] [.int v0, .int v1, .int v2, .ref v3, .long v4] I J P Q ↔ S v3 = 9 ∧ CWp S N d MX9_alone [.ref v3, .int v2, .int v1, .int v0] I J P (fun r I1 J1 P1 => Wp S N (d + 1) MX9_apart 77 [x0, x1, x2, x3, x4, x5, x6, x7, x8, x9] (r.toList ++ [.long v4]) I1 J1 P1 Q) := wp_callV (M' := MX9_alone) (As := [.int v2, .int v1, .int v0]) rfl rfl rfl rfl (by decide) (Nat.le_of_ble_eq_true rfl) dX9_apart_74
theorem e_X9_apart_77 {v0 : Int64} {v1 : Int64} {x0 x1 x2 x3 x4 x5 x6 x7 x8 x9 : Option Value} : Wp S N d MX9_apart 77 [x0, x1, x2, x3, x4, x5, x6, x7, x8, x9] [.long v0, .long v1] I J P Q ↔ Wp S N d MX9_apart 78 [x0, x1, x2, x3, x4, x5, x6, x7, x8, x9] [.long (v1 + v0)] I J P Q := wp_alu (len := 1) rfl rfl rfl dX9_apart_77
theorem e_X9_apart_78 {v0 : Int64} {x0 x1 x2 x3 x4 x5 x6 x7 x8 x9 : Option Value} : Wp S N d MX9_apart 78 [x0, x1, x2, x3, x4, x5, x6, x7, x8, x9] [.long v0] I J P Q ↔ Wp S N d MX9_apart 80 [x0, x1, x2, x3, x4, x5, x6, kl x7, some (.long v0), none] [] I J P Q := wp_sto (len := 2) rfl rfl rfl rfl (Nat.le_of_ble_eq_true rfl) rfl dX9_apart_78
theorem e_X9_apart_80 {w : Int32} {x0 x1 x2 x3 x4 x5 x6 x8 x9 : Option Value} : Wp S N d MX9_apart 80 [x0, x1, x2, x3, x4, x5, x6, some (.int w), x8, x9] [] I J P Q ↔ Wp S N d MX9_apart 82 [x0, x1, x2, x3, x4, x5, x6, some (.int w), x8, x9] [.int w] I J P Q := wp_lod (len := 2) rfl rfl rfl rfl dX9_apart_80
theorem e_X9_apart_82 {v0 : Int32} {x0 x1 x2 x3 x4 x5 x6 x7 x8 x9 : Option Value} : Wp S N d MX9_apart 82 [x0, x1, x2, x3, x4, x5, x6, x7, x8, x9] [.int v0] I J P Q ↔ (v0 = 0 → Wp S N d MX9_apart 93 [x0, x1, x2, x3, x4, x5, x6, x7, x8, x9] [] I J P Q) ∧ (¬ v0 = 0 → Wp S N d MX9_apart 85 [x0, x1, x2, x3, x4, x5, x6, x7, x8, x9] [] I J P Q) := wp_br rfl rfl (by decide) dX9_apart_82
theorem e_X9_apart_85 {w : Int64} {x0 x1 x2 x3 x4 x5 x6 x7 x9 : Option Value} : Wp S N d MX9_apart 85 [x0, x1, x2, x3, x4, x5, x6, x7, some (.long w), x9] [] I J P Q ↔ Wp S N d MX9_apart 87 [x0, x1, x2, x3, x4, x5, x6, x7, some (.long w), x9] [.long w] I J P Q := wp_lod (len := 2) rfl rfl rfl rfl dX9_apart_85
theorem e_X9_apart_87 {v0 : Int64} {w : Int64} {x0 x1 x2 x3 x4 x6 x7 x8 x9 : Option Value} : Wp S N d MX9_apart 87 [x0, x1, x2, x3, x4, some (.long w), x6, x7, x8, x9] [.long v0] I J P Q ↔ Wp S N d MX9_apart 89 [x0, x1, x2, x3, x4, some (.long w), x6, x7, x8, x9] [.long w, .long v0] I J P Q := wp_lod (len := 2) rfl rfl rfl rfl dX9_apart_87
theorem e_X9_apart_89 {v0 : Int64} {v1 : Int64} {x0 x1 x2 x3 x4 x5 x6 x7 x8 x9 : Option Value} : Wp S N d MX9_apart 89 [x0, x1, x2, x3, x4, x5, x6, x7, x8, x9] [.long v0, .long v1] I J P Q ↔ Wp S N d MX9_apart 90 [x0, x1, x2, x3, x4, x5, x6, x7, x8, x9] [.int (lg_cmp v1 v0)] I J P Q := wp_alu (len := 1) rfl rfl rfl dX9_apart_89
theorem e_X9_apart_90 {v0 : Int32} {x0 x1 x2 x3 x4 x5 x6 x7 x8 x9 : Option Value} : Wp S N d MX9_apart 90 [x0, x1, x2, x3, x4, x5, x6, x7, x8, x9] [.int v0] I J P Q ↔ (0 ≤ v0 → Wp S N d MX9_apart 103 [x0, x1, x2, x3, x4, x5, x6, x7, x8, x9] [] I J P Q) ∧ (¬ 0 ≤ v0 → Wp S N d MX9_apart 93 [x0, x1, x2, x3, x4, x5, x6, x7, x8, x9] [] I J P Q) := wp_br rfl rfl (by decide) dX9_apart_90
theorem e_X9_apart_93 {w : Int64} {x0 x1 x2 x3 x4 x5 x6 x7 x9 : Option Value} : Wp S N d MX9_apart 93 [x0, x1, x2, x3, x4, x5, x6, x7, some (.long w), x9] [] I J P Q ↔ Wp S N d MX9_apart 95 [x0, x1, x2, x3, x4, x5, x6, x7, some (.long w), x9] [.long w] I J P Q := wp_lod (len := 2) rfl rfl rfl rfl dX9_apart_93
theorem e_X9_apart_95 {v0 : Int64} {x0 x1 x2 x3 x4 x5 x6 x7 x8 x9 : Option Value} : Wp S N d MX9_apart 95 [x0, x1, x2, x3, x4, x5, x6, x7, x8, x9] [.long v0] I J P Q ↔ Wp S N d MX9_apart 97 [x0, x1, x2, x3, kl x4, some (.long v0), none, x7, x8, x9] [] I J P Q := wp_sto (len := 2) rfl rfl rfl rfl (Nat.le_of_ble_eq_true rfl) rfl dX9_apart_95
theorem e_X9_apart_97 {w : Nat} {x1 x2 x3 x4 x5 x6 x7 x8 x9 : Option Value} : Wp S N d MX9_apart 97 [some (.ref w), x1, x2, x3, x4, x5, x6, x7, x8, x9] [] I J P Q ↔ Wp S N d MX9_apart 98 [some (.ref w), x1, x2, x3, x4, x5, x6, x7, x8, x9] [.ref w] I J P Q := wp_lod (len := 1) rfl rfl rfl rfl dX9_apart_97
theorem e_X9_apart_98 {v0 : Nat} {w : Int32} {x0 x1 x2 x3 x4 x5 x6 x8 x9 : Option Value} : Wp S N d MX9_apart 98 [x0, x1, x2, x3, x4, x5, x6, some (.int w), x8, x9] [.ref v0] I J P Q ↔ Wp S N d MX9_apart 100 [x0, x1, x2, x3, x4, x5, x6, some (.int w), x8, x9] [.int w, .ref v0] I J P Q := wp_lod (len := 2) rfl rfl rfl rfl dX9_apart_98
theorem e_X9_apart_100 {v0 : Int32} {v1 : Nat} {x0 x1 x2 x3 x4 x5 x6 x7 x8 x9 : Option Value} : Wp S N d MX9_apart 100 [x0, x1, x2, x3, x4, x5, x6, x7, x8, x9] [.int v0, .ref v1] I J P Q ↔ S v1 = 9 ∧ Wp S N d MX9_apart 103 [x0, x1, x2, x3, x4, x5, x6, x7, x8, x9] [] (u2 I v1 21 v0) J P Q := wp_putI rfl rfl rfl rfl dX9_apart_100
theorem e_X9_apart_103 {w : Int32} {x0 x1 x2 x3 x4 x5 x6 x8 x9 : Option Value} : Wp S N d MX9_apart 103 [x0, x1, x2, x3, x4, x5, x6, some (.int w), x8, x9] [] I J P Q ↔ Wp S N d MX9_apart 106 [x0, x1, x2, x3, x4, x5, kl x6, some (.int (w + 1)), x8, x9] [] I J P Q := wp_inc rfl rfl dX9_apart_103
theorem e_X9_apart_106  {x0 x1 x2 x3 x4 x5 x6 x7 x8 x9 : Option Value} : Wp S N d MX9_apart 106 [x0, x1, x2, x3, x4, x5, x6, x7, x8, x9] [] I J P Q ↔ Wp S N d MX9_apart 37 [x0, x1, x2, x3, x4, x5, x6, x7, x8, x9] [] I J P Q := wp_go (len := 3) rfl (fun _ _ => rfl) rfl (by decide) dX9_apart_106
theorem e_X9_apart_109 {w : Int64} {x0 x1 x2 x3 x4 x6 x7 x8 x9 : Option Value} : Wp S N d MX9_apart 109 [x0, x1, x2, x3, x4, some (.long w), x6, x7, x8, x9] [] I J P Q ↔ Wp S N d MX9_apart 111 [x0, x1, x2, x3, x4, some (.long w), x6, x7, x8, x9] [.long w] I J P Q := wp_lod (len := 2) rfl rfl rfl rfl dX9_apart_109
theorem e_X9_apart_111 {v0 : Int64} {x0 x1 x2 x3 x4 x5 x6 x7 x8 x9 : Option Value} : Wp S N d MX9_apart 111 [x0, x1, x2, x3, x4, x5, x6, x7, x8, x9] [.long v0] I J P Q ↔ Q (some (.long v0)) I J P := wp_lret rfl dX9_apart_111
theorem dX9_jointTax_0 : decode cX9_jointTax 0 = .ok (.aload_n 0, 1) := by decide +kernel
theorem dX9_jointTax_1 : decode cX9_jointTax 1 = .ok (.aload_n 0, 1) := by decide +kernel
theorem dX9_jointTax_2 : decode cX9_jointTax 2 = .ok (.iload_n 1, 1) := by decide +kernel
theorem dX9_jointTax_3 : decode cX9_jointTax 3 = .ok (.invokevirtual 146, 3) := by decide +kernel
theorem dX9_jointTax_6 : decode cX9_jointTax 6 = .ok (.putfield 57, 3) := by decide +kernel
theorem dX9_jointTax_9 : decode cX9_jointTax 9 = .ok (.aload_n 0, 1) := by decide +kernel
theorem dX9_jointTax_10 : decode cX9_jointTax 10 = .ok (.getfield 57, 3) := by decide +kernel
theorem dX9_jointTax_13 : decode cX9_jointTax 13 = .ok (.ifCond .le 7, 3) := by decide +kernel
theorem dX9_jointTax_16 : decode cX9_jointTax 16 = .ok (.lconst 0, 1) := by decide +kernel
theorem dX9_jointTax_17 : decode cX9_jointTax 17 = .ok (.goto 8, 3) := by decide +kernel
theorem dX9_jointTax_20 : decode cX9_jointTax 20 = .ok (.aload_n 0, 1) := by decide +kernel
theorem dX9_jointTax_21 : decode cX9_jointTax 21 = .ok (.iload_n 1, 1) := by decide +kernel
theorem dX9_jointTax_22 : decode cX9_jointTax 22 = .ok (.invokevirtual 203, 3) := by decide +kernel
theorem dX9_jointTax_25 : decode cX9_jointTax 25 = .ok (.lreturn, 1) := by decide +kernel
theorem c_X9_jointTax {a0 : Nat} {a1 : Int32} : CWp S N d MX9_jointTax [.ref a0, .int a1] I J P Q ↔ Wp S N d MX9_jointTax 0 [some (.ref a0), some (.int a1)] [] I J P Q := by
  rw [cwp_iff]
  exact ⟨fun h => h.2, fun h => ⟨Nat.le_of_ble_eq_true rfl, h⟩⟩
theorem e_X9_jointTax_0 {w : Nat} {x1 : Option Value} : Wp S N d MX9_jointTax 0 [some (.ref w), x1] [] I J P Q ↔ Wp S N d MX9_jointTax 1 [some (.ref w), x1] [.ref w] I J P Q := wp_lod (len := 1) rfl rfl rfl rfl dX9_jointTax_0
theorem e_X9_jointTax_1 {v0 : Nat} {w : Nat} {x1 : Option Value} : Wp S N d MX9_jointTax 1 [some (.ref w), x1] [.ref v0] I J P Q ↔ Wp S N d MX9_jointTax 2 [some (.ref w), x1] [.ref w, .ref v0] I J P Q := wp_lod (len := 1) rfl rfl rfl rfl dX9_jointTax_1
theorem e_X9_jointTax_2 {v0 : Nat} {v1 : Nat} {w : Int32} {x0 : Option Value} : Wp S N d MX9_jointTax 2 [x0, some (.int w)] [.ref v0, .ref v1] I J P Q ↔ Wp S N d MX9_jointTax 3 [x0, some (.int w)] [.int w, .ref v0, .ref v1] I J P Q := wp_lod (len := 1) rfl rfl rfl rfl dX9_jointTax_2
theorem e_X9_jointTax_3 {v0 : Int32} {v1 : Nat} {v2 : Nat} {x0 x1 : Option Value} : Wp S N (d + 1) MX9_jointTax 3 [x0, x1] [.int v0, .ref v1, .ref v2] I J P Q ↔ S v1 = 9 ∧ CWp S N d MX9_coupled [.ref v1, .int v0] I J P (fun r I1 J1 P1 => Wp S N (d + 1) MX9_jointTax 6 [x0, x1] (r.toList ++ [.ref v2]) I1 J1 P1 Q) := wp_callV (M' := MX9_coupled) (As := [.int v0]) rfl rfl rfl rfl (by decide) (Nat.le_of_ble_eq_true rfl) dX9_jointTax_3
theorem e_X9_jointTax_6 {v0 : Int32} {v1 : Nat} {x0 x1 : Option Value} : Wp S N d MX9_jointTax 6 [x0, x1] [.int v0, .ref v1] I J P Q ↔ S v1 = 9 ∧ Wp S N d MX9_jointTax 9 [x0, x1] [] (u2 I v1 8 v0) J P Q := wp_putI rfl rfl rfl rfl dX9_jointTax_6
theorem e_X9_jointTax_9 {w : Nat} {x1 : Option Value} : Wp S N d MX9_jointTax 9 [some (.ref w), x1] [] I J P Q ↔ Wp S N d MX9_jointTax 10 [some (.ref w), x1] [.ref w] I J P Q := wp_lod (len := 1) rfl rfl rfl rfl dX9_jointTax_9
theorem e_X9_jointTax_10 {v0 : Nat} {x0 x1 : Option Value} : Wp S N d MX9_jointTax 10 [x0, x1] [.ref v0] I J P Q ↔ S v0 = 9 ∧ Wp S N d MX9_jointTax 13 [x0, x1] [.int (I v0 8)] I J P Q := wp_getf rfl rfl rfl rfl dX9_jointTax_10
theorem e_X9_jointTax_13 {v0 : Int32} {x0 x1 : Option Value} : Wp S N d MX9_jointTax 13 [x0, x1] [.int v0] I J P Q ↔ (v0 ≤ 0 → Wp S N d MX9_jointTax 20 [x0, x1] [] I J P Q) ∧ (¬ v0 ≤ 0 → Wp S N d MX9_jointTax 16 [x0, x1] [] I J P Q) := wp_br rfl rfl (by decide) dX9_jointTax_13
theorem e_X9_jointTax_16  {x0 x1 : Option Value} : Wp S N d MX9_jointTax 16 [x0, x1] [] I J P Q ↔ Wp S N d MX9_jointTax 17 [x0, x1] [.long 0] I J P Q := wp_lconst (by decide) dX9_jointTax_16
theorem e_X9_jointTax_17 {v0 : Int64} {x0 x1 : Option Value} : Wp S N d MX9_jointTax 17 [x0, x1] [.long v0] I J P Q ↔ Wp S N d MX9_jointTax 25 [x0, x1] [.long v0] I J P Q := wp_go (len := 3) rfl (fun _ _ => rfl) rfl (by decide) dX9_jointTax_17
theorem e_X9_jointTax_20 {w : Nat} {x1 : Option Value} : Wp S N d MX9_jointTax 20 [some (.ref w), x1] [] I J P Q ↔ Wp S N d MX9_jointTax 21 [some (.ref w), x1] [.ref w] I J P Q := wp_lod (len := 1) rfl rfl rfl rfl dX9_jointTax_20
theorem e_X9_jointTax_21 {v0 : Nat} {w : Int32} {x0 : Option Value} : Wp S N d MX9_jointTax 21 [x0, some (.int w)] [.ref v0] I J P Q ↔ Wp S N d MX9_jointTax 22 [x0, some (.int w)] [.int w, .ref v0] I J P Q := wp_lod (len := 1) rfl rfl rfl rfl dX9_jointTax_21
theorem e_X9_jointTax_22 {v0 : Int32} {v1 : Nat} {x0 x1 : Option Value} : Wp S N (d + 1) MX9_jointTax 22 [x0, x1] [.int v0, .ref v1] I J P Q ↔ S v1 = 9 ∧ CWp S N d MX9_jointly [.ref v1, .int v0] I J P (fun r I1 J1 P1 => Wp S N (d + 1) MX9_jointTax 25 [x0, x1] (r.toList ++ []) I1 J1 P1 Q) := wp_callV (M' := MX9_jointly) (As := [.int v0]) rfl rfl rfl rfl (by decide) (Nat.le_of_ble_eq_true rfl) dX9_jointTax_22
theorem e_X9_jointTax_25 {v0 : Int64} {x0 x1 : Option Value} : Wp S N d MX9_jointTax 25 [x0, x1] [.long v0] I J P Q ↔ Q (some (.long v0)) I J P := wp_lret rfl dX9_jointTax_25
theorem dX9_separateTax_0 : decode cX9_separateTax 0 = .ok (.aload_n 0, 1) := by decide +kernel
theorem dX9_separateTax_1 : decode cX9_separateTax 1 = .ok (.aload_n 0, 1) := by decide +kernel
theorem dX9_separateTax_2 : decode cX9_separateTax 2 = .ok (.iload_n 1, 1) := by decide +kernel
theorem dX9_separateTax_3 : decode cX9_separateTax 3 = .ok (.invokevirtual 146, 3) := by decide +kernel
theorem dX9_separateTax_6 : decode cX9_separateTax 6 = .ok (.putfield 57, 3) := by decide +kernel
theorem dX9_separateTax_9 : decode cX9_separateTax 9 = .ok (.aload_n 0, 1) := by decide +kernel
theorem dX9_separateTax_10 : decode cX9_separateTax 10 = .ok (.getfield 57, 3) := by decide +kernel
theorem dX9_separateTax_13 : decode cX9_separateTax 13 = .ok (.ifCond .le 7, 3) := by decide +kernel
theorem dX9_separateTax_16 : decode cX9_separateTax 16 = .ok (.lconst 0, 1) := by decide +kernel
theorem dX9_separateTax_17 : decode cX9_separateTax 17 = .ok (.goto 8, 3) := by decide +kernel
theorem dX9_separateTax_20 : decode cX9_separateTax 20 = .ok (.aload_n 0, 1) := by decide +kernel
theorem dX9_separateTax_21 : decode cX9_separateTax 21 = .ok (.iload_n 1, 1) := by decide +kernel
theorem dX9_separateTax_22 : decode cX9_separateTax 22 = .ok (.invokevirtual 206, 3) := by decide +kernel
theorem dX9_separateTax_25 : decode cX9_separateTax 25 = .ok (.lreturn, 1) := by decide +kernel
theorem c_X9_separateTax {a0 : Nat} {a1 : Int32} : CWp S N d MX9_separateTax [.ref a0, .int a1] I J P Q ↔ Wp S N d MX9_separateTax 0 [some (.ref a0), some (.int a1)] [] I J P Q := by
  rw [cwp_iff]
  exact ⟨fun h => h.2, fun h => ⟨Nat.le_of_ble_eq_true rfl, h⟩⟩
theorem e_X9_separateTax_0 {w : Nat} {x1 : Option Value} : Wp S N d MX9_separateTax 0 [some (.ref w), x1] [] I J P Q ↔ Wp S N d MX9_separateTax 1 [some (.ref w), x1] [.ref w] I J P Q := wp_lod (len := 1) rfl rfl rfl rfl dX9_separateTax_0
theorem e_X9_separateTax_1 {v0 : Nat} {w : Nat} {x1 : Option Value} : Wp S N d MX9_separateTax 1 [some (.ref w), x1] [.ref v0] I J P Q ↔ Wp S N d MX9_separateTax 2 [some (.ref w), x1] [.ref w, .ref v0] I J P Q := wp_lod (len := 1) rfl rfl rfl rfl dX9_separateTax_1
theorem e_X9_separateTax_2 {v0 : Nat} {v1 : Nat} {w : Int32} {x0 : Option Value} : Wp S N d MX9_separateTax 2 [x0, some (.int w)] [.ref v0, .ref v1] I J P Q ↔ Wp S N d MX9_separateTax 3 [x0, some (.int w)] [.int w, .ref v0, .ref v1] I J P Q := wp_lod (len := 1) rfl rfl rfl rfl dX9_separateTax_2
theorem e_X9_separateTax_3 {v0 : Int32} {v1 : Nat} {v2 : Nat} {x0 x1 : Option Value} : Wp S N (d + 1) MX9_separateTax 3 [x0, x1] [.int v0, .ref v1, .ref v2] I J P Q ↔ S v1 = 9 ∧ CWp S N d MX9_coupled [.ref v1, .int v0] I J P (fun r I1 J1 P1 => Wp S N (d + 1) MX9_separateTax 6 [x0, x1] (r.toList ++ [.ref v2]) I1 J1 P1 Q) := wp_callV (M' := MX9_coupled) (As := [.int v0]) rfl rfl rfl rfl (by decide) (Nat.le_of_ble_eq_true rfl) dX9_separateTax_3
theorem e_X9_separateTax_6 {v0 : Int32} {v1 : Nat} {x0 x1 : Option Value} : Wp S N d MX9_separateTax 6 [x0, x1] [.int v0, .ref v1] I J P Q ↔ S v1 = 9 ∧ Wp S N d MX9_separateTax 9 [x0, x1] [] (u2 I v1 8 v0) J P Q := wp_putI rfl rfl rfl rfl dX9_separateTax_6
theorem e_X9_separateTax_9 {w : Nat} {x1 : Option Value} : Wp S N d MX9_separateTax 9 [some (.ref w), x1] [] I J P Q ↔ Wp S N d MX9_separateTax 10 [some (.ref w), x1] [.ref w] I J P Q := wp_lod (len := 1) rfl rfl rfl rfl dX9_separateTax_9
theorem e_X9_separateTax_10 {v0 : Nat} {x0 x1 : Option Value} : Wp S N d MX9_separateTax 10 [x0, x1] [.ref v0] I J P Q ↔ S v0 = 9 ∧ Wp S N d MX9_separateTax 13 [x0, x1] [.int (I v0 8)] I J P Q := wp_getf rfl rfl rfl rfl dX9_separateTax_10
theorem e_X9_separateTax_13 {v0 : Int32} {x0 x1 : Option Value} : Wp S N d MX9_separateTax 13 [x0, x1] [.int v0] I J P Q ↔ (v0 ≤ 0 → Wp S N d MX9_separateTax 20 [x0, x1] [] I J P Q) ∧ (¬ v0 ≤ 0 → Wp S N d MX9_separateTax 16 [x0, x1] [] I J P Q) := wp_br rfl rfl (by decide) dX9_separateTax_13
theorem e_X9_separateTax_16  {x0 x1 : Option Value} : Wp S N d MX9_separateTax 16 [x0, x1] [] I J P Q ↔ Wp S N d MX9_separateTax 17 [x0, x1] [.long 0] I J P Q := wp_lconst (by decide) dX9_separateTax_16
theorem e_X9_separateTax_17 {v0 : Int64} {x0 x1 : Option Value} : Wp S N d MX9_separateTax 17 [x0, x1] [.long v0] I J P Q ↔ Wp S N d MX9_separateTax 25 [x0, x1] [.long v0] I J P Q := wp_go (len := 3) rfl (fun _ _ => rfl) rfl (by decide) dX9_separateTax_17
theorem e_X9_separateTax_20 {w : Nat} {x1 : Option Value} : Wp S N d MX9_separateTax 20 [some (.ref w), x1] [] I J P Q ↔ Wp S N d MX9_separateTax 21 [some (.ref w), x1] [.ref w] I J P Q := wp_lod (len := 1) rfl rfl rfl rfl dX9_separateTax_20
theorem e_X9_separateTax_21 {v0 : Nat} {w : Int32} {x0 : Option Value} : Wp S N d MX9_separateTax 21 [x0, some (.int w)] [.ref v0] I J P Q ↔ Wp S N d MX9_separateTax 22 [x0, some (.int w)] [.int w, .ref v0] I J P Q := wp_lod (len := 1) rfl rfl rfl rfl dX9_separateTax_21
theorem e_X9_separateTax_22 {v0 : Int32} {v1 : Nat} {x0 x1 : Option Value} : Wp S N (d + 1) MX9_separateTax 22 [x0, x1] [.int v0, .ref v1] I J P Q ↔ S v1 = 9 ∧ CWp S N d MX9_apart [.ref v1, .int v0] I J P (fun r I1 J1 P1 => Wp S N (d + 1) MX9_separateTax 25 [x0, x1] (r.toList ++ []) I1 J1 P1 Q) := wp_callV (M' := MX9_apart) (As := [.int v0]) rfl rfl rfl rfl (by decide) (Nat.le_of_ble_eq_true rfl) dX9_separateTax_22
theorem e_X9_separateTax_25 {v0 : Int64} {x0 x1 : Option Value} : Wp S N d MX9_separateTax 25 [x0, x1] [.long v0] I J P Q ↔ Q (some (.long v0)) I J P := wp_lret rfl dX9_separateTax_25
theorem dX9_division_0 : decode cX9_division 0 = .ok (.aload_n 0, 1) := by decide +kernel
theorem dX9_division_1 : decode cX9_division 1 = .ok (.aload_n 0, 1) := by decide +kernel
theorem dX9_division_2 : decode cX9_division 2 = .ok (.iload_n 1, 1) := by decide +kernel
theorem dX9_division_3 : decode cX9_division 3 = .ok (.invokevirtual 146, 3) := by decide +kernel
theorem dX9_division_6 : decode cX9_division 6 = .ok (.putfield 57, 3) := by decide +kernel
theorem dX9_division_9 : decode cX9_division 9 = .ok (.aload_n 0, 1) := by decide +kernel
theorem dX9_division_10 : decode cX9_division 10 = .ok (.getfield 57, 3) := by decide +kernel
theorem dX9_division_13 : decode cX9_division 13 = .ok (.ifCond .le 5, 3) := by decide +kernel
theorem dX9_division_16 : decode cX9_division 16 = .ok (.iconst 0, 1) := by decide +kernel
theorem dX9_division_17 : decode cX9_division 17 = .ok (.ireturn, 1) := by decide +kernel
theorem dX9_division_18 : decode cX9_division 18 = .ok (.aload_n 0, 1) := by decide +kernel
theorem dX9_division_19 : decode cX9_division 19 = .ok (.iload_n 1, 1) := by decide +kernel
theorem dX9_division_20 : decode cX9_division 20 = .ok (.invokevirtual 206, 3) := by decide +kernel
theorem dX9_division_23 : decode cX9_division 23 = .ok (.pop2, 1) := by decide +kernel
theorem dX9_division_24 : decode cX9_division 24 = .ok (.aload_n 0, 1) := by decide +kernel
theorem dX9_division_25 : decode cX9_division 25 = .ok (.getfield 200, 3) := by decide +kernel
theorem dX9_division_28 : decode cX9_division 28 = .ok (.ireturn, 1) := by decide +kernel
theorem c_X9_division {a0 : Nat} {a1 : Int32} : CWp S N d MX9_division [.ref a0, .int a1] I J P Q ↔ Wp S N d MX9_division 0 [some (.ref a0), some (.int a1)] [] I J P Q := by
  rw [cwp_iff]
  exact ⟨fun h => h.2, fun h => ⟨Nat.le_of_ble_eq_true rfl, h⟩⟩
theorem e_X9_division_0 {w : Nat} {x1 : Option Value} : Wp S N d MX9_division 0 [some (.ref w), x1] [] I J P Q ↔ Wp S N d MX9_division 1 [some (.ref w), x1] [.ref w] I J P Q := wp_lod (len := 1) rfl rfl rfl rfl dX9_division_0
theorem e_X9_division_1 {v0 : Nat} {w : Nat} {x1 : Option Value} : Wp S N d MX9_division 1 [some (.ref w), x1] [.ref v0] I J P Q ↔ Wp S N d MX9_division 2 [some (.ref w), x1] [.ref w, .ref v0] I J P Q := wp_lod (len := 1) rfl rfl rfl rfl dX9_division_1
theorem e_X9_division_2 {v0 : Nat} {v1 : Nat} {w : Int32} {x0 : Option Value} : Wp S N d MX9_division 2 [x0, some (.int w)] [.ref v0, .ref v1] I J P Q ↔ Wp S N d MX9_division 3 [x0, some (.int w)] [.int w, .ref v0, .ref v1] I J P Q := wp_lod (len := 1) rfl rfl rfl rfl dX9_division_2
theorem e_X9_division_3 {v0 : Int32} {v1 : Nat} {v2 : Nat} {x0 x1 : Option Value} : Wp S N (d + 1) MX9_division 3 [x0, x1] [.int v0, .ref v1, .ref v2] I J P Q ↔ S v1 = 9 ∧ CWp S N d MX9_coupled [.ref v1, .int v0] I J P (fun r I1 J1 P1 => Wp S N (d + 1) MX9_division 6 [x0, x1] (r.toList ++ [.ref v2]) I1 J1 P1 Q) := wp_callV (M' := MX9_coupled) (As := [.int v0]) rfl rfl rfl rfl (by decide) (Nat.le_of_ble_eq_true rfl) dX9_division_3
theorem e_X9_division_6 {v0 : Int32} {v1 : Nat} {x0 x1 : Option Value} : Wp S N d MX9_division 6 [x0, x1] [.int v0, .ref v1] I J P Q ↔ S v1 = 9 ∧ Wp S N d MX9_division 9 [x0, x1] [] (u2 I v1 8 v0) J P Q := wp_putI rfl rfl rfl rfl dX9_division_6
theorem e_X9_division_9 {w : Nat} {x1 : Option Value} : Wp S N d MX9_division 9 [some (.ref w), x1] [] I J P Q ↔ Wp S N d MX9_division 10 [some (.ref w), x1] [.ref w] I J P Q := wp_lod (len := 1) rfl rfl rfl rfl dX9_division_9
theorem e_X9_division_10 {v0 : Nat} {x0 x1 : Option Value} : Wp S N d MX9_division 10 [x0, x1] [.ref v0] I J P Q ↔ S v0 = 9 ∧ Wp S N d MX9_division 13 [x0, x1] [.int (I v0 8)] I J P Q := wp_getf rfl rfl rfl rfl dX9_division_10
theorem e_X9_division_13 {v0 : Int32} {x0 x1 : Option Value} : Wp S N d MX9_division 13 [x0, x1] [.int v0] I J P Q ↔ (v0 ≤ 0 → Wp S N d MX9_division 18 [x0, x1] [] I J P Q) ∧ (¬ v0 ≤ 0 → Wp S N d MX9_division 16 [x0, x1] [] I J P Q) := wp_br rfl rfl (by decide) dX9_division_13
theorem e_X9_division_16  {x0 x1 : Option Value} : Wp S N d MX9_division 16 [x0, x1] [] I J P Q ↔ Wp S N d MX9_division 17 [x0, x1] [.int 0] I J P Q := wp_iconst (by decide) dX9_division_16
theorem e_X9_division_17 {v0 : Int32} {x0 x1 : Option Value} : Wp S N d MX9_division 17 [x0, x1] [.int v0] I J P Q ↔ Q (some (.int v0)) I J P := wp_iret rfl dX9_division_17
theorem e_X9_division_18 {w : Nat} {x1 : Option Value} : Wp S N d MX9_division 18 [some (.ref w), x1] [] I J P Q ↔ Wp S N d MX9_division 19 [some (.ref w), x1] [.ref w] I J P Q := wp_lod (len := 1) rfl rfl rfl rfl dX9_division_18
theorem e_X9_division_19 {v0 : Nat} {w : Int32} {x0 : Option Value} : Wp S N d MX9_division 19 [x0, some (.int w)] [.ref v0] I J P Q ↔ Wp S N d MX9_division 20 [x0, some (.int w)] [.int w, .ref v0] I J P Q := wp_lod (len := 1) rfl rfl rfl rfl dX9_division_19
theorem e_X9_division_20 {v0 : Int32} {v1 : Nat} {x0 x1 : Option Value} : Wp S N (d + 1) MX9_division 20 [x0, x1] [.int v0, .ref v1] I J P Q ↔ S v1 = 9 ∧ CWp S N d MX9_apart [.ref v1, .int v0] I J P (fun r I1 J1 P1 => Wp S N (d + 1) MX9_division 23 [x0, x1] (r.toList ++ []) I1 J1 P1 Q) := wp_callV (M' := MX9_apart) (As := [.int v0]) rfl rfl rfl rfl (by decide) (Nat.le_of_ble_eq_true rfl) dX9_division_20
theorem e_X9_division_23 {v0 : Int64} {x0 x1 : Option Value} : Wp S N d MX9_division 23 [x0, x1] [.long v0] I J P Q ↔ Wp S N d MX9_division 24 [x0, x1] [] I J P Q := wp_alu (len := 1) rfl rfl rfl dX9_division_23
theorem e_X9_division_24 {w : Nat} {x1 : Option Value} : Wp S N d MX9_division 24 [some (.ref w), x1] [] I J P Q ↔ Wp S N d MX9_division 25 [some (.ref w), x1] [.ref w] I J P Q := wp_lod (len := 1) rfl rfl rfl rfl dX9_division_24
theorem e_X9_division_25 {v0 : Nat} {x0 x1 : Option Value} : Wp S N d MX9_division 25 [x0, x1] [.ref v0] I J P Q ↔ S v0 = 9 ∧ Wp S N d MX9_division 28 [x0, x1] [.int (I v0 21)] I J P Q := wp_getf rfl rfl rfl rfl dX9_division_25
theorem e_X9_division_28 {v0 : Int32} {x0 x1 : Option Value} : Wp S N d MX9_division 28 [x0, x1] [.int v0] I J P Q ↔ Q (some (.int v0)) I J P := wp_iret rfl dX9_division_28
theorem dX9_choosesJoint_0 : decode cX9_choosesJoint 0 = .ok (.aload_n 0, 1) := by decide +kernel
theorem dX9_choosesJoint_1 : decode cX9_choosesJoint 1 = .ok (.aload_n 0, 1) := by decide +kernel
theorem dX9_choosesJoint_2 : decode cX9_choosesJoint 2 = .ok (.iload_n 1, 1) := by decide +kernel
theorem dX9_choosesJoint_3 : decode cX9_choosesJoint 3 = .ok (.invokevirtual 146, 3) := by decide +kernel
theorem dX9_choosesJoint_6 : decode cX9_choosesJoint 6 = .ok (.putfield 57, 3) := by decide +kernel
theorem dX9_choosesJoint_9 : decode cX9_choosesJoint 9 = .ok (.aload_n 0, 1) := by decide +kernel
theorem dX9_choosesJoint_10 : decode cX9_choosesJoint 10 = .ok (.getfield 57, 3) := by decide +kernel
theorem dX9_choosesJoint_13 : decode cX9_choosesJoint 13 = .ok (.ifCond .ne 21, 3) := by decide +kernel
theorem dX9_choosesJoint_16 : decode cX9_choosesJoint 16 = .ok (.aload_n 0, 1) := by decide +kernel
theorem dX9_choosesJoint_17 : decode cX9_choosesJoint 17 = .ok (.iload_n 1, 1) := by decide +kernel
theorem dX9_choosesJoint_18 : decode cX9_choosesJoint 18 = .ok (.invokevirtual 203, 3) := by decide +kernel
theorem dX9_choosesJoint_21 : decode cX9_choosesJoint 21 = .ok (.aload_n 0, 1) := by decide +kernel
theorem dX9_choosesJoint_22 : decode cX9_choosesJoint 22 = .ok (.iload_n 1, 1) := by decide +kernel
theorem dX9_choosesJoint_23 : decode cX9_choosesJoint 23 = .ok (.invokevirtual 206, 3) := by decide +kernel
theorem dX9_choosesJoint_26 : decode cX9_choosesJoint 26 = .ok (.lcmp, 1) := by decide +kernel
theorem dX9_choosesJoint_27 : decode cX9_choosesJoint 27 = .ok (.ifCond .ge 7, 3) := by decide +kernel
theorem dX9_choosesJoint_30 : decode cX9_choosesJoint 30 = .ok (.iconst 1, 1) := by decide +kernel
theorem dX9_choosesJoint_31 : decode cX9_choosesJoint 31 = .ok (.goto 4, 3) := by decide +kernel
theorem dX9_choosesJoint_34 : decode cX9_choosesJoint 34 = .ok (.iconst 0, 1) := by decide +kernel
theorem dX9_choosesJoint_35 : decode cX9_choosesJoint 35 = .ok (.ireturn, 1) := by decide +kernel
theorem c_X9_choosesJoint {a0 : Nat} {a1 : Int32} : CWp S N d MX9_choosesJoint [.ref a0, .int a1] I J P Q ↔ Wp S N d MX9_choosesJoint 0 [some (.ref a0), some (.int a1)] [] I J P Q := by
  rw [cwp_iff]
  exact ⟨fun h => h.2, fun h => ⟨Nat.le_of_ble_eq_true rfl, h⟩⟩
theorem e_X9_choosesJoint_0 {w : Nat} {x1 : Option Value} : Wp S N d MX9_choosesJoint 0 [some (.ref w), x1] [] I J P Q ↔ Wp S N d MX9_choosesJoint 1 [some (.ref w), x1] [.ref w] I J P Q := wp_lod (len := 1) rfl rfl rfl rfl dX9_choosesJoint_0
theorem e_X9_choosesJoint_1 {v0 : Nat} {w : Nat} {x1 : Option Value} : Wp S N d MX9_choosesJoint 1 [some (.ref w), x1] [.ref v0] I J P Q ↔ Wp S N d MX9_choosesJoint 2 [some (.ref w), x1] [.ref w, .ref v0] I J P Q := wp_lod (len := 1) rfl rfl rfl rfl dX9_choosesJoint_1
theorem e_X9_choosesJoint_2 {v0 : Nat} {v1 : Nat} {w : Int32} {x0 : Option Value} : Wp S N d MX9_choosesJoint 2 [x0, some (.int w)] [.ref v0, .ref v1] I J P Q ↔ Wp S N d MX9_choosesJoint 3 [x0, some (.int w)] [.int w, .ref v0, .ref v1] I J P Q := wp_lod (len := 1) rfl rfl rfl rfl dX9_choosesJoint_2
theorem e_X9_choosesJoint_3 {v0 : Int32} {v1 : Nat} {v2 : Nat} {x0 x1 : Option Value} : Wp S N (d + 1) MX9_choosesJoint 3 [x0, x1] [.int v0, .ref v1, .ref v2] I J P Q ↔ S v1 = 9 ∧ CWp S N d MX9_coupled [.ref v1, .int v0] I J P (fun r I1 J1 P1 => Wp S N (d + 1) MX9_choosesJoint 6 [x0, x1] (r.toList ++ [.ref v2]) I1 J1 P1 Q) := wp_callV (M' := MX9_coupled) (As := [.int v0]) rfl rfl rfl rfl (by decide) (Nat.le_of_ble_eq_true rfl) dX9_choosesJoint_3
theorem e_X9_choosesJoint_6 {v0 : Int32} {v1 : Nat} {x0 x1 : Option Value} : Wp S N d MX9_choosesJoint 6 [x0, x1] [.int v0, .ref v1] I J P Q ↔ S v1 = 9 ∧ Wp S N d MX9_choosesJoint 9 [x0, x1] [] (u2 I v1 8 v0) J P Q := wp_putI rfl rfl rfl rfl dX9_choosesJoint_6
theorem e_X9_choosesJoint_9 {w : Nat} {x1 : Option Value} : Wp S N d MX9_choosesJoint 9 [some (.ref w), x1] [] I J P Q ↔ Wp S N d MX9_choosesJoint 10 [some (.ref w), x1] [.ref w] I J P Q := wp_lod (len := 1) rfl rfl rfl rfl dX9_choosesJoint_9
theorem e_X9_choosesJoint_10 {v0 : Nat} {x0 x1 : Option Value} : Wp S N d MX9_choosesJoint 10 [x0, x1] [.ref v0] I J P Q ↔ S v0 = 9 ∧ Wp S N d MX9_choosesJoint 13 [x0, x1] [.int (I v0 8)] I J P Q := wp_getf rfl rfl rfl rfl dX9_choosesJoint_10
theorem e_X9_choosesJoint_13 {v0 : Int32} {x0 x1 : Option Value} : Wp S N d MX9_choosesJoint 13 [x0, x1] [.int v0] I J P Q ↔ (¬ v0 = 0 → Wp S N d MX9_choosesJoint 34 [x0, x1] [] I J P Q) ∧ (v0 = 0 → Wp S N d MX9_choosesJoint 16 [x0, x1] [] I J P Q) := wp_brn rfl rfl (by decide) dX9_choosesJoint_13
theorem e_X9_choosesJoint_16 {w : Nat} {x1 : Option Value} : Wp S N d MX9_choosesJoint 16 [some (.ref w), x1] [] I J P Q ↔ Wp S N d MX9_choosesJoint 17 [some (.ref w), x1] [.ref w] I J P Q := wp_lod (len := 1) rfl rfl rfl rfl dX9_choosesJoint_16
theorem e_X9_choosesJoint_17 {v0 : Nat} {w : Int32} {x0 : Option Value} : Wp S N d MX9_choosesJoint 17 [x0, some (.int w)] [.ref v0] I J P Q ↔ Wp S N d MX9_choosesJoint 18 [x0, some (.int w)] [.int w, .ref v0] I J P Q := wp_lod (len := 1) rfl rfl rfl rfl dX9_choosesJoint_17
theorem e_X9_choosesJoint_18 {v0 : Int32} {v1 : Nat} {x0 x1 : Option Value} : Wp S N (d + 1) MX9_choosesJoint 18 [x0, x1] [.int v0, .ref v1] I J P Q ↔ S v1 = 9 ∧ CWp S N d MX9_jointly [.ref v1, .int v0] I J P (fun r I1 J1 P1 => Wp S N (d + 1) MX9_choosesJoint 21 [x0, x1] (r.toList ++ []) I1 J1 P1 Q) := wp_callV (M' := MX9_jointly) (As := [.int v0]) rfl rfl rfl rfl (by decide) (Nat.le_of_ble_eq_true rfl) dX9_choosesJoint_18
theorem e_X9_choosesJoint_21 {v0 : Int64} {w : Nat} {x1 : Option Value} : Wp S N d MX9_choosesJoint 21 [some (.ref w), x1] [.long v0] I J P Q ↔ Wp S N d MX9_choosesJoint 22 [some (.ref w), x1] [.ref w, .long v0] I J P Q := wp_lod (len := 1) rfl rfl rfl rfl dX9_choosesJoint_21
theorem e_X9_choosesJoint_22 {v0 : Nat} {v1 : Int64} {w : Int32} {x0 : Option Value} : Wp S N d MX9_choosesJoint 22 [x0, some (.int w)] [.ref v0, .long v1] I J P Q ↔ Wp S N d MX9_choosesJoint 23 [x0, some (.int w)] [.int w, .ref v0, .long v1] I J P Q := wp_lod (len := 1) rfl rfl rfl rfl dX9_choosesJoint_22
theorem e_X9_choosesJoint_23 {v0 : Int32} {v1 : Nat} {v2 : Int64} {x0 x1 : Option Value} : Wp S N (d + 1) MX9_choosesJoint 23 [x0, x1] [.int v0, .ref v1, .long v2] I J P Q ↔ S v1 = 9 ∧ CWp S N d MX9_apart [.ref v1, .int v0] I J P (fun r I1 J1 P1 => Wp S N (d + 1) MX9_choosesJoint 26 [x0, x1] (r.toList ++ [.long v2]) I1 J1 P1 Q) := wp_callV (M' := MX9_apart) (As := [.int v0]) rfl rfl rfl rfl (by decide) (Nat.le_of_ble_eq_true rfl) dX9_choosesJoint_23
theorem e_X9_choosesJoint_26 {v0 : Int64} {v1 : Int64} {x0 x1 : Option Value} : Wp S N d MX9_choosesJoint 26 [x0, x1] [.long v0, .long v1] I J P Q ↔ Wp S N d MX9_choosesJoint 27 [x0, x1] [.int (lg_cmp v1 v0)] I J P Q := wp_alu (len := 1) rfl rfl rfl dX9_choosesJoint_26
theorem e_X9_choosesJoint_27 {v0 : Int32} {x0 x1 : Option Value} : Wp S N d MX9_choosesJoint 27 [x0, x1] [.int v0] I J P Q ↔ (0 ≤ v0 → Wp S N d MX9_choosesJoint 34 [x0, x1] [] I J P Q) ∧ (¬ 0 ≤ v0 → Wp S N d MX9_choosesJoint 30 [x0, x1] [] I J P Q) := wp_br rfl rfl (by decide) dX9_choosesJoint_27
theorem e_X9_choosesJoint_30  {x0 x1 : Option Value} : Wp S N d MX9_choosesJoint 30 [x0, x1] [] I J P Q ↔ Wp S N d MX9_choosesJoint 31 [x0, x1] [.int 1] I J P Q := wp_iconst (by decide) dX9_choosesJoint_30
theorem e_X9_choosesJoint_31 {v0 : Int32} {x0 x1 : Option Value} : Wp S N d MX9_choosesJoint 31 [x0, x1] [.int v0] I J P Q ↔ Wp S N d MX9_choosesJoint 35 [x0, x1] [.int v0] I J P Q := wp_go (len := 3) rfl (fun _ _ => rfl) rfl (by decide) dX9_choosesJoint_31
theorem e_X9_choosesJoint_34  {x0 x1 : Option Value} : Wp S N d MX9_choosesJoint 34 [x0, x1] [] I J P Q ↔ Wp S N d MX9_choosesJoint 35 [x0, x1] [.int 0] I J P Q := wp_iconst (by decide) dX9_choosesJoint_34
theorem e_X9_choosesJoint_35 {v0 : Int32} (hb : isB v0) {x0 x1 : Option Value} : Wp S N d MX9_choosesJoint 35 [x0, x1] [.int v0] I J P Q ↔ Q (some (.int v0)) I J P := wp_zret rfl dX9_choosesJoint_35 hb
theorem dX9_household_0 : decode cX9_household 0 = .ok (.aload_n 0, 1) := by decide +kernel
theorem dX9_household_1 : decode cX9_household 1 = .ok (.getfield 7, 3) := by decide +kernel
theorem dX9_household_4 : decode cX9_household 4 = .ok (.bipush 82, 2) := by decide +kernel
theorem dX9_household_6 : decode cX9_household 6 = .ok (.iload_n 1, 1) := by decide +kernel
theorem dX9_household_7 : decode cX9_household 7 = .ok (.iadd, 1) := by decide +kernel
theorem dX9_household_8 : decode cX9_household 8 = .ok (.iaload, 1) := by decide +kernel
theorem dX9_household_9 : decode cX9_household 9 = .ok (.ifCond .ge 9, 3) := by decide +kernel
theorem dX9_household_12 : decode cX9_household 12 = .ok (.aload_n 0, 1) := by decide +kernel
theorem dX9_household_13 : decode cX9_household 13 = .ok (.iload_n 1, 1) := by decide +kernel
theorem dX9_household_14 : decode cX9_household 14 = .ok (.invokevirtual 187, 3) := by decide +kernel
theorem dX9_household_17 : decode cX9_household 17 = .ok (.lreturn, 1) := by decide +kernel
theorem dX9_household_18 : decode cX9_household 18 = .ok (.aload_n 0, 1) := by decide +kernel
theorem dX9_household_19 : decode cX9_household 19 = .ok (.iload_n 1, 1) := by decide +kernel
theorem dX9_household_20 : decode cX9_household 20 = .ok (.invokevirtual 203, 3) := by decide +kernel
theorem dX9_household_23 : decode cX9_household 23 = .ok (.aload_n 0, 1) := by decide +kernel
theorem dX9_household_24 : decode cX9_household 24 = .ok (.iload_n 1, 1) := by decide +kernel
theorem dX9_household_25 : decode cX9_household 25 = .ok (.invokevirtual 206, 3) := by decide +kernel
theorem dX9_household_28 : decode cX9_household 28 = .ok (.invokestatic 153, 3) := by decide +kernel
theorem dX9_household_31 : decode cX9_household 31 = .ok (.lreturn, 1) := by decide +kernel
theorem c_X9_household {a0 : Nat} {a1 : Int32} : CWp S N d MX9_household [.ref a0, .int a1] I J P Q ↔ Wp S N d MX9_household 0 [some (.ref a0), some (.int a1)] [] I J P Q := by
  rw [cwp_iff]
  exact ⟨fun h => h.2, fun h => ⟨Nat.le_of_ble_eq_true rfl, h⟩⟩
theorem e_X9_household_0 {w : Nat} {x1 : Option Value} : Wp S N d MX9_household 0 [some (.ref w), x1] [] I J P Q ↔ Wp S N d MX9_household 1 [some (.ref w), x1] [.ref w] I J P Q := wp_lod (len := 1) rfl rfl rfl rfl dX9_household_0
theorem e_X9_household_1 {v0 : Nat} {x0 x1 : Option Value} : Wp S N d MX9_household 1 [x0, x1] [.ref v0] I J P Q ↔ S v0 = 9 ∧ Wp S N d MX9_household 4 [x0, x1] [va_rf (P v0 0)] I J P Q := wp_getf rfl rfl rfl rfl dX9_household_1
theorem e_X9_household_4 {v0 : Nat} {x0 x1 : Option Value} : Wp S N d MX9_household 4 [x0, x1] [.ref v0] I J P Q ↔ Wp S N d MX9_household 6 [x0, x1] [.int 82, .ref v0] I J P Q := wp_bipush (by decide) dX9_household_4
theorem e_X9_household_6 {v0 : Int32} {v1 : Nat} {w : Int32} {x0 : Option Value} : Wp S N d MX9_household 6 [x0, some (.int w)] [.int v0, .ref v1] I J P Q ↔ Wp S N d MX9_household 7 [x0, some (.int w)] [.int w, .int v0, .ref v1] I J P Q := wp_lod (len := 1) rfl rfl rfl rfl dX9_household_6
theorem e_X9_household_7 {v0 : Int32} {v1 : Int32} {v2 : Nat} {x0 x1 : Option Value} : Wp S N d MX9_household 7 [x0, x1] [.int v0, .int v1, .ref v2] I J P Q ↔ Wp S N d MX9_household 8 [x0, x1] [.int (v1 + v0), .ref v2] I J P Q := wp_alu (len := 1) rfl rfl rfl dX9_household_7
theorem e_X9_household_8 {v0 : Int32} {v1 : Nat} {x0 x1 : Option Value} : Wp S N d MX9_household 8 [x0, x1] [.int v0, .ref v1] I J P Q ↔ (S v1 = 10 ∧ vp_in v0 (N v1)) ∧ Wp S N d MX9_household 9 [x0, x1] [.int (I v1 v0.toNatClampNeg)] I J P Q := wp_ald rfl rfl dX9_household_8
theorem e_X9_household_9 {v0 : Int32} {x0 x1 : Option Value} : Wp S N d MX9_household 9 [x0, x1] [.int v0] I J P Q ↔ (0 ≤ v0 → Wp S N d MX9_household 18 [x0, x1] [] I J P Q) ∧ (¬ 0 ≤ v0 → Wp S N d MX9_household 12 [x0, x1] [] I J P Q) := wp_br rfl rfl (by decide) dX9_household_9
theorem e_X9_household_12 {w : Nat} {x1 : Option Value} : Wp S N d MX9_household 12 [some (.ref w), x1] [] I J P Q ↔ Wp S N d MX9_household 13 [some (.ref w), x1] [.ref w] I J P Q := wp_lod (len := 1) rfl rfl rfl rfl dX9_household_12
theorem e_X9_household_13 {v0 : Nat} {w : Int32} {x0 : Option Value} : Wp S N d MX9_household 13 [x0, some (.int w)] [.ref v0] I J P Q ↔ Wp S N d MX9_household 14 [x0, some (.int w)] [.int w, .ref v0] I J P Q := wp_lod (len := 1) rfl rfl rfl rfl dX9_household_13
theorem e_X9_household_14 {v0 : Int32} {v1 : Nat} {x0 x1 : Option Value} : Wp S N (d + 1) MX9_household 14 [x0, x1] [.int v0, .ref v1] I J P Q ↔ S v1 = 9 ∧ CWp S N d MX9_taxOfPerson [.ref v1, .int v0] I J P (fun r I1 J1 P1 => Wp S N (d + 1) MX9_household 17 [x0, x1] (r.toList ++ []) I1 J1 P1 Q) := wp_callV (M' := MX9_taxOfPerson) (As := [.int v0]) rfl rfl rfl rfl (by decide) (Nat.le_of_ble_eq_true rfl) dX9_household_14
theorem e_X9_household_17 {v0 : Int64} {x0 x1 : Option Value} : Wp S N d MX9_household 17 [x0, x1] [.long v0] I J P Q ↔ Q (some (.long v0)) I J P := wp_lret rfl dX9_household_17
theorem e_X9_household_18 {w : Nat} {x1 : Option Value} : Wp S N d MX9_household 18 [some (.ref w), x1] [] I J P Q ↔ Wp S N d MX9_household 19 [some (.ref w), x1] [.ref w] I J P Q := wp_lod (len := 1) rfl rfl rfl rfl dX9_household_18
theorem e_X9_household_19 {v0 : Nat} {w : Int32} {x0 : Option Value} : Wp S N d MX9_household 19 [x0, some (.int w)] [.ref v0] I J P Q ↔ Wp S N d MX9_household 20 [x0, some (.int w)] [.int w, .ref v0] I J P Q := wp_lod (len := 1) rfl rfl rfl rfl dX9_household_19
theorem e_X9_household_20 {v0 : Int32} {v1 : Nat} {x0 x1 : Option Value} : Wp S N (d + 1) MX9_household 20 [x0, x1] [.int v0, .ref v1] I J P Q ↔ S v1 = 9 ∧ CWp S N d MX9_jointly [.ref v1, .int v0] I J P (fun r I1 J1 P1 => Wp S N (d + 1) MX9_household 23 [x0, x1] (r.toList ++ []) I1 J1 P1 Q) := wp_callV (M' := MX9_jointly) (As := [.int v0]) rfl rfl rfl rfl (by decide) (Nat.le_of_ble_eq_true rfl) dX9_household_20
theorem e_X9_household_23 {v0 : Int64} {w : Nat} {x1 : Option Value} : Wp S N d MX9_household 23 [some (.ref w), x1] [.long v0] I J P Q ↔ Wp S N d MX9_household 24 [some (.ref w), x1] [.ref w, .long v0] I J P Q := wp_lod (len := 1) rfl rfl rfl rfl dX9_household_23
theorem e_X9_household_24 {v0 : Nat} {v1 : Int64} {w : Int32} {x0 : Option Value} : Wp S N d MX9_household 24 [x0, some (.int w)] [.ref v0, .long v1] I J P Q ↔ Wp S N d MX9_household 25 [x0, some (.int w)] [.int w, .ref v0, .long v1] I J P Q := wp_lod (len := 1) rfl rfl rfl rfl dX9_household_24
theorem e_X9_household_25 {v0 : Int32} {v1 : Nat} {v2 : Int64} {x0 x1 : Option Value} : Wp S N (d + 1) MX9_household 25 [x0, x1] [.int v0, .ref v1, .long v2] I J P Q ↔ S v1 = 9 ∧ CWp S N d MX9_apart [.ref v1, .int v0] I J P (fun r I1 J1 P1 => Wp S N (d + 1) MX9_household 28 [x0, x1] (r.toList ++ [.long v2]) I1 J1 P1 Q) := wp_callV (M' := MX9_apart) (As := [.int v0]) rfl rfl rfl rfl (by decide) (Nat.le_of_ble_eq_true rfl) dX9_household_25
theorem e_X9_household_28 {v0 : Int64} {v1 : Int64} {x0 x1 : Option Value} : Wp S N (d + 1) MX9_household 28 [x0, x1] [.long v0, .long v1] I J P Q ↔ CWp S N d MX9_lesser [.long v1, .long v0] I J P (fun r I1 J1 P1 => Wp S N (d + 1) MX9_household 31 [x0, x1] (r.toList ++ []) I1 J1 P1 Q) := wp_callS (M' := MX9_lesser) (As := [.long v1, .long v0]) rfl rfl rfl rfl (Nat.le_of_ble_eq_true rfl) dX9_household_28
theorem e_X9_household_31 {v0 : Int64} {x0 x1 : Option Value} : Wp S N d MX9_household 31 [x0, x1] [.long v0] I J P Q ↔ Q (some (.long v0)) I J P := wp_lret rfl dX9_household_31
theorem dX9_householdTax_0 : decode cX9_householdTax 0 = .ok (.aload_n 0, 1) := by decide +kernel
theorem dX9_householdTax_1 : decode cX9_householdTax 1 = .ok (.iload_n 1, 1) := by decide +kernel
theorem dX9_householdTax_2 : decode cX9_householdTax 2 = .ok (.invokestatic 140, 3) := by decide +kernel
theorem dX9_householdTax_5 : decode cX9_householdTax 5 = .ok (.ifCond .eq 7, 3) := by decide +kernel
theorem dX9_householdTax_8 : decode cX9_householdTax 8 = .ok (.iconst 0, 1) := by decide +kernel
theorem dX9_householdTax_9 : decode cX9_householdTax 9 = .ok (.goto 4, 3) := by decide +kernel
theorem dX9_householdTax_12 : decode cX9_householdTax 12 = .ok (.iconst 1, 1) := by decide +kernel
theorem dX9_householdTax_13 : decode cX9_householdTax 13 = .ok (.putfield 57, 3) := by decide +kernel
theorem dX9_householdTax_16 : decode cX9_householdTax 16 = .ok (.aload_n 0, 1) := by decide +kernel
theorem dX9_householdTax_17 : decode cX9_householdTax 17 = .ok (.getfield 57, 3) := by decide +kernel
theorem dX9_householdTax_20 : decode cX9_householdTax 20 = .ok (.ifCond .le 7, 3) := by decide +kernel
theorem dX9_householdTax_23 : decode cX9_householdTax 23 = .ok (.lconst 0, 1) := by decide +kernel
theorem dX9_householdTax_24 : decode cX9_householdTax 24 = .ok (.goto 8, 3) := by decide +kernel
theorem dX9_householdTax_27 : decode cX9_householdTax 27 = .ok (.aload_n 0, 1) := by decide +kernel
theorem dX9_householdTax_28 : decode cX9_householdTax 28 = .ok (.iload_n 1, 1) := by decide +kernel
theorem dX9_householdTax_29 : decode cX9_householdTax 29 = .ok (.invokevirtual 209, 3) := by decide +kernel
theorem dX9_householdTax_32 : decode cX9_householdTax 32 = .ok (.lreturn, 1) := by decide +kernel
theorem c_X9_householdTax {a0 : Nat} {a1 : Int32} : CWp S N d MX9_householdTax [.ref a0, .int a1] I J P Q ↔ Wp S N d MX9_householdTax 0 [some (.ref a0), some (.int a1)] [] I J P Q := by
  rw [cwp_iff]
  exact ⟨fun h => h.2, fun h => ⟨Nat.le_of_ble_eq_true rfl, h⟩⟩
theorem e_X9_householdTax_0 {w : Nat} {x1 : Option Value} : Wp S N d MX9_householdTax 0 [some (.ref w), x1] [] I J P Q ↔ Wp S N d MX9_householdTax 1 [some (.ref w), x1] [.ref w] I J P Q := wp_lod (len := 1) rfl rfl rfl rfl dX9_householdTax_0
theorem e_X9_householdTax_1 {v0 : Nat} {w : Int32} {x0 : Option Value} : Wp S N d MX9_householdTax 1 [x0, some (.int w)] [.ref v0] I J P Q ↔ Wp S N d MX9_householdTax 2 [x0, some (.int w)] [.int w, .ref v0] I J P Q := wp_lod (len := 1) rfl rfl rfl rfl dX9_householdTax_1
theorem e_X9_householdTax_2 {v0 : Int32} {v1 : Nat} {x0 x1 : Option Value} : Wp S N (d + 1) MX9_householdTax 2 [x0, x1] [.int v0, .ref v1] I J P Q ↔ CWp S N d MX9_isPerson [.int v0] I J P (fun r I1 J1 P1 => Wp S N (d + 1) MX9_householdTax 5 [x0, x1] (r.toList ++ [.ref v1]) I1 J1 P1 Q) := wp_callS (M' := MX9_isPerson) (As := [.int v0]) rfl rfl rfl rfl (Nat.le_of_ble_eq_true rfl) dX9_householdTax_2
theorem e_X9_householdTax_5 {v0 : Int32} {v1 : Nat} {x0 x1 : Option Value} : Wp S N d MX9_householdTax 5 [x0, x1] [.int v0, .ref v1] I J P Q ↔ (v0 = 0 → Wp S N d MX9_householdTax 12 [x0, x1] [.ref v1] I J P Q) ∧ (¬ v0 = 0 → Wp S N d MX9_householdTax 8 [x0, x1] [.ref v1] I J P Q) := wp_br rfl rfl (by decide) dX9_householdTax_5
theorem e_X9_householdTax_8 {v0 : Nat} {x0 x1 : Option Value} : Wp S N d MX9_householdTax 8 [x0, x1] [.ref v0] I J P Q ↔ Wp S N d MX9_householdTax 9 [x0, x1] [.int 0, .ref v0] I J P Q := wp_iconst (by decide) dX9_householdTax_8
theorem e_X9_householdTax_9 {v0 : Int32} {v1 : Nat} {x0 x1 : Option Value} : Wp S N d MX9_householdTax 9 [x0, x1] [.int v0, .ref v1] I J P Q ↔ Wp S N d MX9_householdTax 13 [x0, x1] [.int v0, .ref v1] I J P Q := wp_go (len := 3) rfl (fun _ _ => rfl) rfl (by decide) dX9_householdTax_9
theorem e_X9_householdTax_12 {v0 : Nat} {x0 x1 : Option Value} : Wp S N d MX9_householdTax 12 [x0, x1] [.ref v0] I J P Q ↔ Wp S N d MX9_householdTax 13 [x0, x1] [.int 1, .ref v0] I J P Q := wp_iconst (by decide) dX9_householdTax_12
theorem e_X9_householdTax_13 {v0 : Int32} {v1 : Nat} {x0 x1 : Option Value} : Wp S N d MX9_householdTax 13 [x0, x1] [.int v0, .ref v1] I J P Q ↔ S v1 = 9 ∧ Wp S N d MX9_householdTax 16 [x0, x1] [] (u2 I v1 8 v0) J P Q := wp_putI rfl rfl rfl rfl dX9_householdTax_13
theorem e_X9_householdTax_16 {w : Nat} {x1 : Option Value} : Wp S N d MX9_householdTax 16 [some (.ref w), x1] [] I J P Q ↔ Wp S N d MX9_householdTax 17 [some (.ref w), x1] [.ref w] I J P Q := wp_lod (len := 1) rfl rfl rfl rfl dX9_householdTax_16
theorem e_X9_householdTax_17 {v0 : Nat} {x0 x1 : Option Value} : Wp S N d MX9_householdTax 17 [x0, x1] [.ref v0] I J P Q ↔ S v0 = 9 ∧ Wp S N d MX9_householdTax 20 [x0, x1] [.int (I v0 8)] I J P Q := wp_getf rfl rfl rfl rfl dX9_householdTax_17
theorem e_X9_householdTax_20 {v0 : Int32} {x0 x1 : Option Value} : Wp S N d MX9_householdTax 20 [x0, x1] [.int v0] I J P Q ↔ (v0 ≤ 0 → Wp S N d MX9_householdTax 27 [x0, x1] [] I J P Q) ∧ (¬ v0 ≤ 0 → Wp S N d MX9_householdTax 23 [x0, x1] [] I J P Q) := wp_br rfl rfl (by decide) dX9_householdTax_20
theorem e_X9_householdTax_23  {x0 x1 : Option Value} : Wp S N d MX9_householdTax 23 [x0, x1] [] I J P Q ↔ Wp S N d MX9_householdTax 24 [x0, x1] [.long 0] I J P Q := wp_lconst (by decide) dX9_householdTax_23
theorem e_X9_householdTax_24 {v0 : Int64} {x0 x1 : Option Value} : Wp S N d MX9_householdTax 24 [x0, x1] [.long v0] I J P Q ↔ Wp S N d MX9_householdTax 32 [x0, x1] [.long v0] I J P Q := wp_go (len := 3) rfl (fun _ _ => rfl) rfl (by decide) dX9_householdTax_24
theorem e_X9_householdTax_27 {w : Nat} {x1 : Option Value} : Wp S N d MX9_householdTax 27 [some (.ref w), x1] [] I J P Q ↔ Wp S N d MX9_householdTax 28 [some (.ref w), x1] [.ref w] I J P Q := wp_lod (len := 1) rfl rfl rfl rfl dX9_householdTax_27
theorem e_X9_householdTax_28 {v0 : Nat} {w : Int32} {x0 : Option Value} : Wp S N d MX9_householdTax 28 [x0, some (.int w)] [.ref v0] I J P Q ↔ Wp S N d MX9_householdTax 29 [x0, some (.int w)] [.int w, .ref v0] I J P Q := wp_lod (len := 1) rfl rfl rfl rfl dX9_householdTax_28
theorem e_X9_householdTax_29 {v0 : Int32} {v1 : Nat} {x0 x1 : Option Value} : Wp S N (d + 1) MX9_householdTax 29 [x0, x1] [.int v0, .ref v1] I J P Q ↔ S v1 = 9 ∧ CWp S N d MX9_household [.ref v1, .int v0] I J P (fun r I1 J1 P1 => Wp S N (d + 1) MX9_householdTax 32 [x0, x1] (r.toList ++ []) I1 J1 P1 Q) := wp_callV (M' := MX9_household) (As := [.int v0]) rfl rfl rfl rfl (by decide) (Nat.le_of_ble_eq_true rfl) dX9_householdTax_29
theorem e_X9_householdTax_32 {v0 : Int64} {x0 x1 : Option Value} : Wp S N d MX9_householdTax 32 [x0, x1] [.long v0] I J P Q ↔ Q (some (.long v0)) I J P := wp_lret rfl dX9_householdTax_32
theorem dX9_isCounted_0 : decode cX9_isCounted 0 = .ok (.aload_n 0, 1) := by decide +kernel
theorem dX9_isCounted_1 : decode cX9_isCounted 1 = .ok (.getfield 7, 3) := by decide +kernel
theorem dX9_isCounted_4 : decode cX9_isCounted 4 = .ok (.bipush 82, 2) := by decide +kernel
theorem dX9_isCounted_6 : decode cX9_isCounted 6 = .ok (.iload_n 1, 1) := by decide +kernel
theorem dX9_isCounted_7 : decode cX9_isCounted 7 = .ok (.iadd, 1) := by decide +kernel
theorem dX9_isCounted_8 : decode cX9_isCounted 8 = .ok (.iaload, 1) := by decide +kernel
theorem dX9_isCounted_9 : decode cX9_isCounted 9 = .ok (.ifCond .lt 12, 3) := by decide +kernel
theorem dX9_isCounted_12 : decode cX9_isCounted 12 = .ok (.aload_n 0, 1) := by decide +kernel
theorem dX9_isCounted_13 : decode cX9_isCounted 13 = .ok (.iload_n 1, 1) := by decide +kernel
theorem dX9_isCounted_14 : decode cX9_isCounted 14 = .ok (.invokevirtual 197, 3) := by decide +kernel
theorem dX9_isCounted_17 : decode cX9_isCounted 17 = .ok (.iload_n 1, 1) := by decide +kernel
theorem dX9_isCounted_18 : decode cX9_isCounted 18 = .ok (.if_icmp .ne 7, 3) := by decide +kernel
theorem dX9_isCounted_21 : decode cX9_isCounted 21 = .ok (.iconst 1, 1) := by decide +kernel
theorem dX9_isCounted_22 : decode cX9_isCounted 22 = .ok (.goto 4, 3) := by decide +kernel
theorem dX9_isCounted_25 : decode cX9_isCounted 25 = .ok (.iconst 0, 1) := by decide +kernel
theorem dX9_isCounted_26 : decode cX9_isCounted 26 = .ok (.ireturn, 1) := by decide +kernel
theorem c_X9_isCounted {a0 : Nat} {a1 : Int32} : CWp S N d MX9_isCounted [.ref a0, .int a1] I J P Q ↔ Wp S N d MX9_isCounted 0 [some (.ref a0), some (.int a1)] [] I J P Q := by
  rw [cwp_iff]
  exact ⟨fun h => h.2, fun h => ⟨Nat.le_of_ble_eq_true rfl, h⟩⟩
theorem e_X9_isCounted_0 {w : Nat} {x1 : Option Value} : Wp S N d MX9_isCounted 0 [some (.ref w), x1] [] I J P Q ↔ Wp S N d MX9_isCounted 1 [some (.ref w), x1] [.ref w] I J P Q := wp_lod (len := 1) rfl rfl rfl rfl dX9_isCounted_0
theorem e_X9_isCounted_1 {v0 : Nat} {x0 x1 : Option Value} : Wp S N d MX9_isCounted 1 [x0, x1] [.ref v0] I J P Q ↔ S v0 = 9 ∧ Wp S N d MX9_isCounted 4 [x0, x1] [va_rf (P v0 0)] I J P Q := wp_getf rfl rfl rfl rfl dX9_isCounted_1
theorem e_X9_isCounted_4 {v0 : Nat} {x0 x1 : Option Value} : Wp S N d MX9_isCounted 4 [x0, x1] [.ref v0] I J P Q ↔ Wp S N d MX9_isCounted 6 [x0, x1] [.int 82, .ref v0] I J P Q := wp_bipush (by decide) dX9_isCounted_4
theorem e_X9_isCounted_6 {v0 : Int32} {v1 : Nat} {w : Int32} {x0 : Option Value} : Wp S N d MX9_isCounted 6 [x0, some (.int w)] [.int v0, .ref v1] I J P Q ↔ Wp S N d MX9_isCounted 7 [x0, some (.int w)] [.int w, .int v0, .ref v1] I J P Q := wp_lod (len := 1) rfl rfl rfl rfl dX9_isCounted_6
theorem e_X9_isCounted_7 {v0 : Int32} {v1 : Int32} {v2 : Nat} {x0 x1 : Option Value} : Wp S N d MX9_isCounted 7 [x0, x1] [.int v0, .int v1, .ref v2] I J P Q ↔ Wp S N d MX9_isCounted 8 [x0, x1] [.int (v1 + v0), .ref v2] I J P Q := wp_alu (len := 1) rfl rfl rfl dX9_isCounted_7
theorem e_X9_isCounted_8 {v0 : Int32} {v1 : Nat} {x0 x1 : Option Value} : Wp S N d MX9_isCounted 8 [x0, x1] [.int v0, .ref v1] I J P Q ↔ (S v1 = 10 ∧ vp_in v0 (N v1)) ∧ Wp S N d MX9_isCounted 9 [x0, x1] [.int (I v1 v0.toNatClampNeg)] I J P Q := wp_ald rfl rfl dX9_isCounted_8
theorem e_X9_isCounted_9 {v0 : Int32} {x0 x1 : Option Value} : Wp S N d MX9_isCounted 9 [x0, x1] [.int v0] I J P Q ↔ (v0 < 0 → Wp S N d MX9_isCounted 21 [x0, x1] [] I J P Q) ∧ (¬ v0 < 0 → Wp S N d MX9_isCounted 12 [x0, x1] [] I J P Q) := wp_br rfl rfl (by decide) dX9_isCounted_9
theorem e_X9_isCounted_12 {w : Nat} {x1 : Option Value} : Wp S N d MX9_isCounted 12 [some (.ref w), x1] [] I J P Q ↔ Wp S N d MX9_isCounted 13 [some (.ref w), x1] [.ref w] I J P Q := wp_lod (len := 1) rfl rfl rfl rfl dX9_isCounted_12
theorem e_X9_isCounted_13 {v0 : Nat} {w : Int32} {x0 : Option Value} : Wp S N d MX9_isCounted 13 [x0, some (.int w)] [.ref v0] I J P Q ↔ Wp S N d MX9_isCounted 14 [x0, some (.int w)] [.int w, .ref v0] I J P Q := wp_lod (len := 1) rfl rfl rfl rfl dX9_isCounted_13
theorem e_X9_isCounted_14 {v0 : Int32} {v1 : Nat} {x0 x1 : Option Value} : Wp S N (d + 1) MX9_isCounted 14 [x0, x1] [.int v0, .ref v1] I J P Q ↔ S v1 = 9 ∧ CWp S N d MX9_firstOf [.ref v1, .int v0] I J P (fun r I1 J1 P1 => Wp S N (d + 1) MX9_isCounted 17 [x0, x1] (r.toList ++ []) I1 J1 P1 Q) := wp_callV (M' := MX9_firstOf) (As := [.int v0]) rfl rfl rfl rfl (by decide) (Nat.le_of_ble_eq_true rfl) dX9_isCounted_14
theorem e_X9_isCounted_17 {v0 : Int32} {w : Int32} {x0 : Option Value} : Wp S N d MX9_isCounted 17 [x0, some (.int w)] [.int v0] I J P Q ↔ Wp S N d MX9_isCounted 18 [x0, some (.int w)] [.int w, .int v0] I J P Q := wp_lod (len := 1) rfl rfl rfl rfl dX9_isCounted_17
theorem e_X9_isCounted_18 {v0 : Int32} {v1 : Int32} {x0 x1 : Option Value} : Wp S N d MX9_isCounted 18 [x0, x1] [.int v0, .int v1] I J P Q ↔ (¬ v1 = v0 → Wp S N d MX9_isCounted 25 [x0, x1] [] I J P Q) ∧ (v1 = v0 → Wp S N d MX9_isCounted 21 [x0, x1] [] I J P Q) := wp_brn rfl rfl (by decide) dX9_isCounted_18
theorem e_X9_isCounted_21  {x0 x1 : Option Value} : Wp S N d MX9_isCounted 21 [x0, x1] [] I J P Q ↔ Wp S N d MX9_isCounted 22 [x0, x1] [.int 1] I J P Q := wp_iconst (by decide) dX9_isCounted_21
theorem e_X9_isCounted_22 {v0 : Int32} {x0 x1 : Option Value} : Wp S N d MX9_isCounted 22 [x0, x1] [.int v0] I J P Q ↔ Wp S N d MX9_isCounted 26 [x0, x1] [.int v0] I J P Q := wp_go (len := 3) rfl (fun _ _ => rfl) rfl (by decide) dX9_isCounted_22
theorem e_X9_isCounted_25  {x0 x1 : Option Value} : Wp S N d MX9_isCounted 25 [x0, x1] [] I J P Q ↔ Wp S N d MX9_isCounted 26 [x0, x1] [.int 0] I J P Q := wp_iconst (by decide) dX9_isCounted_25
theorem e_X9_isCounted_26 {v0 : Int32} (hb : isB v0) {x0 x1 : Option Value} : Wp S N d MX9_isCounted 26 [x0, x1] [.int v0] I J P Q ↔ Q (some (.int v0)) I J P := wp_zret rfl dX9_isCounted_26 hb
theorem dX9_totalTax_0 : decode cX9_totalTax 0 = .ok (.aload_n 0, 1) := by decide +kernel
theorem dX9_totalTax_1 : decode cX9_totalTax 1 = .ok (.iconst 0, 1) := by decide +kernel
theorem dX9_totalTax_2 : decode cX9_totalTax 2 = .ok (.putfield 57, 3) := by decide +kernel
theorem dX9_totalTax_5 : decode cX9_totalTax 5 = .ok (.lconst 0, 1) := by decide +kernel
theorem dX9_totalTax_6 : decode cX9_totalTax 6 = .ok (.lstore_n 1, 1) := by decide +kernel
theorem dX9_totalTax_7 : decode cX9_totalTax 7 = .ok (.iconst 0, 1) := by decide +kernel
theorem dX9_totalTax_8 : decode cX9_totalTax 8 = .ok (.istore_n 3, 1) := by decide +kernel
theorem dX9_totalTax_9 : decode cX9_totalTax 9 = .ok (.iload_n 3, 1) := by decide +kernel
theorem dX9_totalTax_10 : decode cX9_totalTax 10 = .ok (.bipush 6, 2) := by decide +kernel
theorem dX9_totalTax_12 : decode cX9_totalTax 12 = .ok (.if_icmp .ge 29, 3) := by decide +kernel
theorem dX9_totalTax_15 : decode cX9_totalTax 15 = .ok (.lload_n 1, 1) := by decide +kernel
theorem dX9_totalTax_16 : decode cX9_totalTax 16 = .ok (.aload_n 0, 1) := by decide +kernel
theorem dX9_totalTax_17 : decode cX9_totalTax 17 = .ok (.iload_n 3, 1) := by decide +kernel
theorem dX9_totalTax_18 : decode cX9_totalTax 18 = .ok (.invokevirtual 212, 3) := by decide +kernel
theorem dX9_totalTax_21 : decode cX9_totalTax 21 = .ok (.ifCond .eq 11, 3) := by decide +kernel
theorem dX9_totalTax_24 : decode cX9_totalTax 24 = .ok (.aload_n 0, 1) := by decide +kernel
theorem dX9_totalTax_25 : decode cX9_totalTax 25 = .ok (.iload_n 3, 1) := by decide +kernel
theorem dX9_totalTax_26 : decode cX9_totalTax 26 = .ok (.invokevirtual 209, 3) := by decide +kernel
theorem dX9_totalTax_29 : decode cX9_totalTax 29 = .ok (.goto 4, 3) := by decide +kernel
theorem dX9_totalTax_32 : decode cX9_totalTax 32 = .ok (.lconst 0, 1) := by decide +kernel
theorem dX9_totalTax_33 : decode cX9_totalTax 33 = .ok (.ladd, 1) := by decide +kernel
theorem dX9_totalTax_34 : decode cX9_totalTax 34 = .ok (.lstore_n 1, 1) := by decide +kernel
theorem dX9_totalTax_35 : decode cX9_totalTax 35 = .ok (.iinc 3 1, 3) := by decide +kernel
theorem dX9_totalTax_38 : decode cX9_totalTax 38 = .ok (.goto (-29), 3) := by decide +kernel
theorem dX9_totalTax_41 : decode cX9_totalTax 41 = .ok (.lload_n 1, 1) := by decide +kernel
theorem dX9_totalTax_42 : decode cX9_totalTax 42 = .ok (.lreturn, 1) := by decide +kernel
theorem c_X9_totalTax {a0 : Nat} : CWp S N d MX9_totalTax [.ref a0] I J P Q ↔ Wp S N d MX9_totalTax 0 [some (.ref a0), none, none, none] [] I J P Q := by
  rw [cwp_iff]
  exact ⟨fun h => h.2, fun h => ⟨Nat.le_of_ble_eq_true rfl, h⟩⟩
theorem e_X9_totalTax_0 {w : Nat} {x1 x2 x3 : Option Value} : Wp S N d MX9_totalTax 0 [some (.ref w), x1, x2, x3] [] I J P Q ↔ Wp S N d MX9_totalTax 1 [some (.ref w), x1, x2, x3] [.ref w] I J P Q := wp_lod (len := 1) rfl rfl rfl rfl dX9_totalTax_0
theorem e_X9_totalTax_1 {v0 : Nat} {x0 x1 x2 x3 : Option Value} : Wp S N d MX9_totalTax 1 [x0, x1, x2, x3] [.ref v0] I J P Q ↔ Wp S N d MX9_totalTax 2 [x0, x1, x2, x3] [.int 0, .ref v0] I J P Q := wp_iconst (by decide) dX9_totalTax_1
theorem e_X9_totalTax_2 {v0 : Int32} {v1 : Nat} {x0 x1 x2 x3 : Option Value} : Wp S N d MX9_totalTax 2 [x0, x1, x2, x3] [.int v0, .ref v1] I J P Q ↔ S v1 = 9 ∧ Wp S N d MX9_totalTax 5 [x0, x1, x2, x3] [] (u2 I v1 8 v0) J P Q := wp_putI rfl rfl rfl rfl dX9_totalTax_2
theorem e_X9_totalTax_5  {x0 x1 x2 x3 : Option Value} : Wp S N d MX9_totalTax 5 [x0, x1, x2, x3] [] I J P Q ↔ Wp S N d MX9_totalTax 6 [x0, x1, x2, x3] [.long 0] I J P Q := wp_lconst (by decide) dX9_totalTax_5
theorem e_X9_totalTax_6 {v0 : Int64} {x0 x1 x2 x3 : Option Value} : Wp S N d MX9_totalTax 6 [x0, x1, x2, x3] [.long v0] I J P Q ↔ Wp S N d MX9_totalTax 7 [kl x0, some (.long v0), none, x3] [] I J P Q := wp_sto (len := 1) rfl rfl rfl rfl (Nat.le_of_ble_eq_true rfl) rfl dX9_totalTax_6
theorem e_X9_totalTax_7  {x0 x1 x2 x3 : Option Value} : Wp S N d MX9_totalTax 7 [x0, x1, x2, x3] [] I J P Q ↔ Wp S N d MX9_totalTax 8 [x0, x1, x2, x3] [.int 0] I J P Q := wp_iconst (by decide) dX9_totalTax_7
theorem e_X9_totalTax_8 {v0 : Int32} {x0 x1 x2 x3 : Option Value} : Wp S N d MX9_totalTax 8 [x0, x1, x2, x3] [.int v0] I J P Q ↔ Wp S N d MX9_totalTax 9 [x0, x1, kl x2, some (.int v0)] [] I J P Q := wp_sto (len := 1) rfl rfl rfl rfl (Nat.le_of_ble_eq_true rfl) rfl dX9_totalTax_8
theorem e_X9_totalTax_9 {w : Int32} {x0 x1 x2 : Option Value} : Wp S N d MX9_totalTax 9 [x0, x1, x2, some (.int w)] [] I J P Q ↔ Wp S N d MX9_totalTax 10 [x0, x1, x2, some (.int w)] [.int w] I J P Q := wp_lod (len := 1) rfl rfl rfl rfl dX9_totalTax_9
theorem e_X9_totalTax_10 {v0 : Int32} {x0 x1 x2 x3 : Option Value} : Wp S N d MX9_totalTax 10 [x0, x1, x2, x3] [.int v0] I J P Q ↔ Wp S N d MX9_totalTax 12 [x0, x1, x2, x3] [.int 6, .int v0] I J P Q := wp_bipush (by decide) dX9_totalTax_10
theorem e_X9_totalTax_12 {v0 : Int32} {v1 : Int32} {x0 x1 x2 x3 : Option Value} : Wp S N d MX9_totalTax 12 [x0, x1, x2, x3] [.int v0, .int v1] I J P Q ↔ (v0 ≤ v1 → Wp S N d MX9_totalTax 41 [x0, x1, x2, x3] [] I J P Q) ∧ (¬ v0 ≤ v1 → Wp S N d MX9_totalTax 15 [x0, x1, x2, x3] [] I J P Q) := wp_br rfl rfl (by decide) dX9_totalTax_12
theorem e_X9_totalTax_15 {w : Int64} {x0 x2 x3 : Option Value} : Wp S N d MX9_totalTax 15 [x0, some (.long w), x2, x3] [] I J P Q ↔ Wp S N d MX9_totalTax 16 [x0, some (.long w), x2, x3] [.long w] I J P Q := wp_lod (len := 1) rfl rfl rfl rfl dX9_totalTax_15
theorem e_X9_totalTax_16 {v0 : Int64} {w : Nat} {x1 x2 x3 : Option Value} : Wp S N d MX9_totalTax 16 [some (.ref w), x1, x2, x3] [.long v0] I J P Q ↔ Wp S N d MX9_totalTax 17 [some (.ref w), x1, x2, x3] [.ref w, .long v0] I J P Q := wp_lod (len := 1) rfl rfl rfl rfl dX9_totalTax_16
theorem e_X9_totalTax_17 {v0 : Nat} {v1 : Int64} {w : Int32} {x0 x1 x2 : Option Value} : Wp S N d MX9_totalTax 17 [x0, x1, x2, some (.int w)] [.ref v0, .long v1] I J P Q ↔ Wp S N d MX9_totalTax 18 [x0, x1, x2, some (.int w)] [.int w, .ref v0, .long v1] I J P Q := wp_lod (len := 1) rfl rfl rfl rfl dX9_totalTax_17
theorem e_X9_totalTax_18 {v0 : Int32} {v1 : Nat} {v2 : Int64} {x0 x1 x2 x3 : Option Value} : Wp S N (d + 1) MX9_totalTax 18 [x0, x1, x2, x3] [.int v0, .ref v1, .long v2] I J P Q ↔ S v1 = 9 ∧ CWp S N d MX9_isCounted [.ref v1, .int v0] I J P (fun r I1 J1 P1 => Wp S N (d + 1) MX9_totalTax 21 [x0, x1, x2, x3] (r.toList ++ [.long v2]) I1 J1 P1 Q) := wp_callV (M' := MX9_isCounted) (As := [.int v0]) rfl rfl rfl rfl (by decide) (Nat.le_of_ble_eq_true rfl) dX9_totalTax_18
theorem e_X9_totalTax_21 {v0 : Int32} {v1 : Int64} {x0 x1 x2 x3 : Option Value} : Wp S N d MX9_totalTax 21 [x0, x1, x2, x3] [.int v0, .long v1] I J P Q ↔ (v0 = 0 → Wp S N d MX9_totalTax 32 [x0, x1, x2, x3] [.long v1] I J P Q) ∧ (¬ v0 = 0 → Wp S N d MX9_totalTax 24 [x0, x1, x2, x3] [.long v1] I J P Q) := wp_br rfl rfl (by decide) dX9_totalTax_21
theorem e_X9_totalTax_24 {v0 : Int64} {w : Nat} {x1 x2 x3 : Option Value} : Wp S N d MX9_totalTax 24 [some (.ref w), x1, x2, x3] [.long v0] I J P Q ↔ Wp S N d MX9_totalTax 25 [some (.ref w), x1, x2, x3] [.ref w, .long v0] I J P Q := wp_lod (len := 1) rfl rfl rfl rfl dX9_totalTax_24
theorem e_X9_totalTax_25 {v0 : Nat} {v1 : Int64} {w : Int32} {x0 x1 x2 : Option Value} : Wp S N d MX9_totalTax 25 [x0, x1, x2, some (.int w)] [.ref v0, .long v1] I J P Q ↔ Wp S N d MX9_totalTax 26 [x0, x1, x2, some (.int w)] [.int w, .ref v0, .long v1] I J P Q := wp_lod (len := 1) rfl rfl rfl rfl dX9_totalTax_25
theorem e_X9_totalTax_26 {v0 : Int32} {v1 : Nat} {v2 : Int64} {x0 x1 x2 x3 : Option Value} : Wp S N (d + 1) MX9_totalTax 26 [x0, x1, x2, x3] [.int v0, .ref v1, .long v2] I J P Q ↔ S v1 = 9 ∧ CWp S N d MX9_household [.ref v1, .int v0] I J P (fun r I1 J1 P1 => Wp S N (d + 1) MX9_totalTax 29 [x0, x1, x2, x3] (r.toList ++ [.long v2]) I1 J1 P1 Q) := wp_callV (M' := MX9_household) (As := [.int v0]) rfl rfl rfl rfl (by decide) (Nat.le_of_ble_eq_true rfl) dX9_totalTax_26
theorem e_X9_totalTax_29 {v0 : Int64} {v1 : Int64} {x0 x1 x2 x3 : Option Value} : Wp S N d MX9_totalTax 29 [x0, x1, x2, x3] [.long v0, .long v1] I J P Q ↔ Wp S N d MX9_totalTax 33 [x0, x1, x2, x3] [.long v0, .long v1] I J P Q := wp_go (len := 3) rfl (fun _ _ => rfl) rfl (by decide) dX9_totalTax_29
theorem e_X9_totalTax_32 {v0 : Int64} {x0 x1 x2 x3 : Option Value} : Wp S N d MX9_totalTax 32 [x0, x1, x2, x3] [.long v0] I J P Q ↔ Wp S N d MX9_totalTax 33 [x0, x1, x2, x3] [.long 0, .long v0] I J P Q := wp_lconst (by decide) dX9_totalTax_32
theorem e_X9_totalTax_33 {v0 : Int64} {v1 : Int64} {x0 x1 x2 x3 : Option Value} : Wp S N d MX9_totalTax 33 [x0, x1, x2, x3] [.long v0, .long v1] I J P Q ↔ Wp S N d MX9_totalTax 34 [x0, x1, x2, x3] [.long (v1 + v0)] I J P Q := wp_alu (len := 1) rfl rfl rfl dX9_totalTax_33
theorem e_X9_totalTax_34 {v0 : Int64} {x0 x1 x2 x3 : Option Value} : Wp S N d MX9_totalTax 34 [x0, x1, x2, x3] [.long v0] I J P Q ↔ Wp S N d MX9_totalTax 35 [kl x0, some (.long v0), none, x3] [] I J P Q := wp_sto (len := 1) rfl rfl rfl rfl (Nat.le_of_ble_eq_true rfl) rfl dX9_totalTax_34
theorem e_X9_totalTax_35 {w : Int32} {x0 x1 x2 : Option Value} : Wp S N d MX9_totalTax 35 [x0, x1, x2, some (.int w)] [] I J P Q ↔ Wp S N d MX9_totalTax 38 [x0, x1, kl x2, some (.int (w + 1))] [] I J P Q := wp_inc rfl rfl dX9_totalTax_35
theorem e_X9_totalTax_38  {x0 x1 x2 x3 : Option Value} : Wp S N d MX9_totalTax 38 [x0, x1, x2, x3] [] I J P Q ↔ Wp S N d MX9_totalTax 9 [x0, x1, x2, x3] [] I J P Q := wp_go (len := 3) rfl (fun _ _ => rfl) rfl (by decide) dX9_totalTax_38
theorem e_X9_totalTax_41 {w : Int64} {x0 x2 x3 : Option Value} : Wp S N d MX9_totalTax 41 [x0, some (.long w), x2, x3] [] I J P Q ↔ Wp S N d MX9_totalTax 42 [x0, some (.long w), x2, x3] [.long w] I J P Q := wp_lod (len := 1) rfl rfl rfl rfl dX9_totalTax_41
theorem e_X9_totalTax_42 {v0 : Int64} {x0 x1 x2 x3 : Option Value} : Wp S N d MX9_totalTax 42 [x0, x1, x2, x3] [.long v0] I J P Q ↔ Q (some (.long v0)) I J P := wp_lret rfl dX9_totalTax_42
theorem dX9_carries_0 : decode cX9_carries 0 = .ok (.iconst 0, 1) := by decide +kernel
theorem dX9_carries_1 : decode cX9_carries 1 = .ok (.istore_n 2, 1) := by decide +kernel
theorem dX9_carries_2 : decode cX9_carries 2 = .ok (.iload_n 2, 1) := by decide +kernel
theorem dX9_carries_3 : decode cX9_carries 3 = .ok (.aload_n 0, 1) := by decide +kernel
theorem dX9_carries_4 : decode cX9_carries 4 = .ok (.getfield 7, 3) := by decide +kernel
theorem dX9_carries_7 : decode cX9_carries 7 = .ok (.bipush 27, 2) := by decide +kernel
theorem dX9_carries_9 : decode cX9_carries 9 = .ok (.iaload, 1) := by decide +kernel
theorem dX9_carries_10 : decode cX9_carries 10 = .ok (.if_icmp .ge 26, 3) := by decide +kernel
theorem dX9_carries_13 : decode cX9_carries 13 = .ok (.aload_n 0, 1) := by decide +kernel
theorem dX9_carries_14 : decode cX9_carries 14 = .ok (.getfield 54, 3) := by decide +kernel
theorem dX9_carries_17 : decode cX9_carries 17 = .ok (.bipush 6, 2) := by decide +kernel
theorem dX9_carries_19 : decode cX9_carries 19 = .ok (.iload_n 1, 1) := by decide +kernel
theorem dX9_carries_20 : decode cX9_carries 20 = .ok (.imul, 1) := by decide +kernel
theorem dX9_carries_21 : decode cX9_carries 21 = .ok (.iload_n 2, 1) := by decide +kernel
theorem dX9_carries_22 : decode cX9_carries 22 = .ok (.iadd, 1) := by decide +kernel
theorem dX9_carries_23 : decode cX9_carries 23 = .ok (.aload_n 0, 1) := by decide +kernel
theorem dX9_carries_24 : decode cX9_carries 24 = .ok (.iload_n 2, 1) := by decide +kernel
theorem dX9_carries_25 : decode cX9_carries 25 = .ok (.iconst 2, 1) := by decide +kernel
theorem dX9_carries_26 : decode cX9_carries 26 = .ok (.invokevirtual 191, 3) := by decide +kernel
theorem dX9_carries_29 : decode cX9_carries 29 = .ok (.lastore, 1) := by decide +kernel
theorem dX9_carries_30 : decode cX9_carries 30 = .ok (.iinc 2 1, 3) := by decide +kernel
theorem dX9_carries_33 : decode cX9_carries 33 = .ok (.goto (-31), 3) := by decide +kernel
theorem dX9_carries_36 : decode cX9_carries 36 = .ok (.return_, 1) := by decide +kernel
theorem c_X9_carries {a0 : Nat} {a1 : Int32} : CWp S N d MX9_carries [.ref a0, .int a1] I J P Q ↔ Wp S N d MX9_carries 0 [some (.ref a0), some (.int a1), none] [] I J P Q := by
  rw [cwp_iff]
  exact ⟨fun h => h.2, fun h => ⟨Nat.le_of_ble_eq_true rfl, h⟩⟩
theorem e_X9_carries_0  {x0 x1 x2 : Option Value} : Wp S N d MX9_carries 0 [x0, x1, x2] [] I J P Q ↔ Wp S N d MX9_carries 1 [x0, x1, x2] [.int 0] I J P Q := wp_iconst (by decide) dX9_carries_0
theorem e_X9_carries_1 {v0 : Int32} {x0 x1 x2 : Option Value} : Wp S N d MX9_carries 1 [x0, x1, x2] [.int v0] I J P Q ↔ Wp S N d MX9_carries 2 [x0, kl x1, some (.int v0)] [] I J P Q := wp_sto (len := 1) rfl rfl rfl rfl (Nat.le_of_ble_eq_true rfl) rfl dX9_carries_1
theorem e_X9_carries_2 {w : Int32} {x0 x1 : Option Value} : Wp S N d MX9_carries 2 [x0, x1, some (.int w)] [] I J P Q ↔ Wp S N d MX9_carries 3 [x0, x1, some (.int w)] [.int w] I J P Q := wp_lod (len := 1) rfl rfl rfl rfl dX9_carries_2
theorem e_X9_carries_3 {v0 : Int32} {w : Nat} {x1 x2 : Option Value} : Wp S N d MX9_carries 3 [some (.ref w), x1, x2] [.int v0] I J P Q ↔ Wp S N d MX9_carries 4 [some (.ref w), x1, x2] [.ref w, .int v0] I J P Q := wp_lod (len := 1) rfl rfl rfl rfl dX9_carries_3
theorem e_X9_carries_4 {v0 : Nat} {v1 : Int32} {x0 x1 x2 : Option Value} : Wp S N d MX9_carries 4 [x0, x1, x2] [.ref v0, .int v1] I J P Q ↔ S v0 = 9 ∧ Wp S N d MX9_carries 7 [x0, x1, x2] [va_rf (P v0 0), .int v1] I J P Q := wp_getf rfl rfl rfl rfl dX9_carries_4
theorem e_X9_carries_7 {v0 : Nat} {v1 : Int32} {x0 x1 x2 : Option Value} : Wp S N d MX9_carries 7 [x0, x1, x2] [.ref v0, .int v1] I J P Q ↔ Wp S N d MX9_carries 9 [x0, x1, x2] [.int 27, .ref v0, .int v1] I J P Q := wp_bipush (by decide) dX9_carries_7
theorem e_X9_carries_9 {v0 : Int32} {v1 : Nat} {v2 : Int32} {x0 x1 x2 : Option Value} : Wp S N d MX9_carries 9 [x0, x1, x2] [.int v0, .ref v1, .int v2] I J P Q ↔ (S v1 = 10 ∧ vp_in v0 (N v1)) ∧ Wp S N d MX9_carries 10 [x0, x1, x2] [.int (I v1 v0.toNatClampNeg), .int v2] I J P Q := wp_ald rfl rfl dX9_carries_9
theorem e_X9_carries_10 {v0 : Int32} {v1 : Int32} {x0 x1 x2 : Option Value} : Wp S N d MX9_carries 10 [x0, x1, x2] [.int v0, .int v1] I J P Q ↔ (v0 ≤ v1 → Wp S N d MX9_carries 36 [x0, x1, x2] [] I J P Q) ∧ (¬ v0 ≤ v1 → Wp S N d MX9_carries 13 [x0, x1, x2] [] I J P Q) := wp_br rfl rfl (by decide) dX9_carries_10
theorem e_X9_carries_13 {w : Nat} {x1 x2 : Option Value} : Wp S N d MX9_carries 13 [some (.ref w), x1, x2] [] I J P Q ↔ Wp S N d MX9_carries 14 [some (.ref w), x1, x2] [.ref w] I J P Q := wp_lod (len := 1) rfl rfl rfl rfl dX9_carries_13
theorem e_X9_carries_14 {v0 : Nat} {x0 x1 x2 : Option Value} : Wp S N d MX9_carries 14 [x0, x1, x2] [.ref v0] I J P Q ↔ S v0 = 9 ∧ Wp S N d MX9_carries 17 [x0, x1, x2] [va_rf (P v0 22)] I J P Q := wp_getf rfl rfl rfl rfl dX9_carries_14
theorem e_X9_carries_17 {v0 : Nat} {x0 x1 x2 : Option Value} : Wp S N d MX9_carries 17 [x0, x1, x2] [.ref v0] I J P Q ↔ Wp S N d MX9_carries 19 [x0, x1, x2] [.int 6, .ref v0] I J P Q := wp_bipush (by decide) dX9_carries_17
theorem e_X9_carries_19 {v0 : Int32} {v1 : Nat} {w : Int32} {x0 x2 : Option Value} : Wp S N d MX9_carries 19 [x0, some (.int w), x2] [.int v0, .ref v1] I J P Q ↔ Wp S N d MX9_carries 20 [x0, some (.int w), x2] [.int w, .int v0, .ref v1] I J P Q := wp_lod (len := 1) rfl rfl rfl rfl dX9_carries_19
theorem e_X9_carries_20 {v0 : Int32} {v1 : Int32} {v2 : Nat} {x0 x1 x2 : Option Value} : Wp S N d MX9_carries 20 [x0, x1, x2] [.int v0, .int v1, .ref v2] I J P Q ↔ Wp S N d MX9_carries 21 [x0, x1, x2] [.int (v1 * v0), .ref v2] I J P Q := wp_alu (len := 1) rfl rfl rfl dX9_carries_20
theorem e_X9_carries_21 {v0 : Int32} {v1 : Nat} {w : Int32} {x0 x1 : Option Value} : Wp S N d MX9_carries 21 [x0, x1, some (.int w)] [.int v0, .ref v1] I J P Q ↔ Wp S N d MX9_carries 22 [x0, x1, some (.int w)] [.int w, .int v0, .ref v1] I J P Q := wp_lod (len := 1) rfl rfl rfl rfl dX9_carries_21
theorem e_X9_carries_22 {v0 : Int32} {v1 : Int32} {v2 : Nat} {x0 x1 x2 : Option Value} : Wp S N d MX9_carries 22 [x0, x1, x2] [.int v0, .int v1, .ref v2] I J P Q ↔ Wp S N d MX9_carries 23 [x0, x1, x2] [.int (v1 + v0), .ref v2] I J P Q := wp_alu (len := 1) rfl rfl rfl dX9_carries_22
theorem e_X9_carries_23 {v0 : Int32} {v1 : Nat} {w : Nat} {x1 x2 : Option Value} : Wp S N d MX9_carries 23 [some (.ref w), x1, x2] [.int v0, .ref v1] I J P Q ↔ Wp S N d MX9_carries 24 [some (.ref w), x1, x2] [.ref w, .int v0, .ref v1] I J P Q := wp_lod (len := 1) rfl rfl rfl rfl dX9_carries_23
theorem e_X9_carries_24 {v0 : Nat} {v1 : Int32} {v2 : Nat} {w : Int32} {x0 x1 : Option Value} : Wp S N d MX9_carries 24 [x0, x1, some (.int w)] [.ref v0, .int v1, .ref v2] I J P Q ↔ Wp S N d MX9_carries 25 [x0, x1, some (.int w)] [.int w, .ref v0, .int v1, .ref v2] I J P Q := wp_lod (len := 1) rfl rfl rfl rfl dX9_carries_24
theorem e_X9_carries_25 {v0 : Int32} {v1 : Nat} {v2 : Int32} {v3 : Nat} {x0 x1 x2 : Option Value} : Wp S N d MX9_carries 25 [x0, x1, x2] [.int v0, .ref v1, .int v2, .ref v3] I J P Q ↔ Wp S N d MX9_carries 26 [x0, x1, x2] [.int 2, .int v0, .ref v1, .int v2, .ref v3] I J P Q := wp_iconst (by decide) dX9_carries_25
theorem e_X9_carries_26 {v0 : Int32} {v1 : Int32} {v2 : Nat} {v3 : Int32} {v4 : Nat} {x0 x1 x2 : Option Value} : Wp S N (d + 1) MX9_carries 26 [x0, x1, x2] [.int v0, .int v1, .ref v2, .int v3, .ref v4] I J P Q ↔ S v2 = 9 ∧ CWp S N d MX9_unused [.ref v2, .int v1, .int v0] I J P (fun r I1 J1 P1 => Wp S N (d + 1) MX9_carries 29 [x0, x1, x2] (r.toList ++ [.int v3, .ref v4]) I1 J1 P1 Q) := wp_callV (M' := MX9_unused) (As := [.int v1, .int v0]) rfl rfl rfl rfl (by decide) (Nat.le_of_ble_eq_true rfl) dX9_carries_26
theorem e_X9_carries_29 {v0 : Int64} {v1 : Int32} {v2 : Nat} {x0 x1 x2 : Option Value} : Wp S N d MX9_carries 29 [x0, x1, x2] [.long v0, .int v1, .ref v2] I J P Q ↔ (S v2 = 11 ∧ vp_in v1 (N v2)) ∧ Wp S N d MX9_carries 30 [x0, x1, x2] [] I (u2 J v2 v1.toNatClampNeg v0) P Q := wp_ast rfl rfl dX9_carries_29
theorem e_X9_carries_30 {w : Int32} {x0 x1 : Option Value} : Wp S N d MX9_carries 30 [x0, x1, some (.int w)] [] I J P Q ↔ Wp S N d MX9_carries 33 [x0, kl x1, some (.int (w + 1))] [] I J P Q := wp_inc rfl rfl dX9_carries_30
theorem e_X9_carries_33  {x0 x1 x2 : Option Value} : Wp S N d MX9_carries 33 [x0, x1, x2] [] I J P Q ↔ Wp S N d MX9_carries 2 [x0, x1, x2] [] I J P Q := wp_go (len := 3) rfl (fun _ _ => rfl) rfl (by decide) dX9_carries_33
theorem e_X9_carries_36  {x0 x1 x2 : Option Value} : Wp S N d MX9_carries 36 [x0, x1, x2] [] I J P Q ↔ Q none I J P := wp_vret rfl dX9_carries_36
theorem dX9_closes_0 : decode cX9_closes 0 = .ok (.aload_n 0, 1) := by decide +kernel
theorem dX9_closes_1 : decode cX9_closes 1 = .ok (.getfield 7, 3) := by decide +kernel
theorem dX9_closes_4 : decode cX9_closes 4 = .ok (.bipush 82, 2) := by decide +kernel
theorem dX9_closes_6 : decode cX9_closes 6 = .ok (.iload_n 1, 1) := by decide +kernel
theorem dX9_closes_7 : decode cX9_closes 7 = .ok (.iadd, 1) := by decide +kernel
theorem dX9_closes_8 : decode cX9_closes 8 = .ok (.iaload, 1) := by decide +kernel
theorem dX9_closes_9 : decode cX9_closes 9 = .ok (.istore_n 2, 1) := by decide +kernel
theorem dX9_closes_10 : decode cX9_closes 10 = .ok (.iload_n 2, 1) := by decide +kernel
theorem dX9_closes_11 : decode cX9_closes 11 = .ok (.ifCond .ge 17, 3) := by decide +kernel
theorem dX9_closes_14 : decode cX9_closes 14 = .ok (.aload_n 0, 1) := by decide +kernel
theorem dX9_closes_15 : decode cX9_closes 15 = .ok (.iload_n 1, 1) := by decide +kernel
theorem dX9_closes_16 : decode cX9_closes 16 = .ok (.invokevirtual 187, 3) := by decide +kernel
theorem dX9_closes_19 : decode cX9_closes 19 = .ok (.pop2, 1) := by decide +kernel
theorem dX9_closes_20 : decode cX9_closes 20 = .ok (.aload_n 0, 1) := by decide +kernel
theorem dX9_closes_21 : decode cX9_closes 21 = .ok (.iload_n 1, 1) := by decide +kernel
theorem dX9_closes_22 : decode cX9_closes 22 = .ok (.invokevirtual 215, 3) := by decide +kernel
theorem dX9_closes_25 : decode cX9_closes 25 = .ok (.goto 91, 3) := by decide +kernel
theorem dX9_closes_28 : decode cX9_closes 28 = .ok (.aload_n 0, 1) := by decide +kernel
theorem dX9_closes_29 : decode cX9_closes 29 = .ok (.iload_n 1, 1) := by decide +kernel
theorem dX9_closes_30 : decode cX9_closes 30 = .ok (.invokevirtual 203, 3) := by decide +kernel
theorem dX9_closes_33 : decode cX9_closes 33 = .ok (.aload_n 0, 1) := by decide +kernel
theorem dX9_closes_34 : decode cX9_closes 34 = .ok (.iload_n 1, 1) := by decide +kernel
theorem dX9_closes_35 : decode cX9_closes 35 = .ok (.invokevirtual 206, 3) := by decide +kernel
theorem dX9_closes_38 : decode cX9_closes 38 = .ok (.lcmp, 1) := by decide +kernel
theorem dX9_closes_39 : decode cX9_closes 39 = .ok (.ifCond .ge 17, 3) := by decide +kernel
theorem dX9_closes_42 : decode cX9_closes 42 = .ok (.aload_n 0, 1) := by decide +kernel
theorem dX9_closes_43 : decode cX9_closes 43 = .ok (.iload_n 1, 1) := by decide +kernel
theorem dX9_closes_44 : decode cX9_closes 44 = .ok (.invokevirtual 203, 3) := by decide +kernel
theorem dX9_closes_47 : decode cX9_closes 47 = .ok (.pop2, 1) := by decide +kernel
theorem dX9_closes_48 : decode cX9_closes 48 = .ok (.aload_n 0, 1) := by decide +kernel
theorem dX9_closes_49 : decode cX9_closes 49 = .ok (.iload_n 1, 1) := by decide +kernel
theorem dX9_closes_50 : decode cX9_closes 50 = .ok (.invokevirtual 215, 3) := by decide +kernel
theorem dX9_closes_53 : decode cX9_closes 53 = .ok (.goto 63, 3) := by decide +kernel
theorem dX9_closes_56 : decode cX9_closes 56 = .ok (.aload_n 0, 1) := by decide +kernel
theorem dX9_closes_57 : decode cX9_closes 57 = .ok (.iload_n 1, 1) := by decide +kernel
theorem dX9_closes_58 : decode cX9_closes 58 = .ok (.iconst 2, 1) := by decide +kernel
theorem dX9_closes_59 : decode cX9_closes 59 = .ok (.invokevirtual 143, 3) := by decide +kernel
theorem dX9_closes_62 : decode cX9_closes 62 = .ok (.aload_n 0, 1) := by decide +kernel
theorem dX9_closes_63 : decode cX9_closes 63 = .ok (.iload_n 2, 1) := by decide +kernel
theorem dX9_closes_64 : decode cX9_closes 64 = .ok (.iconst 2, 1) := by decide +kernel
theorem dX9_closes_65 : decode cX9_closes 65 = .ok (.invokevirtual 143, 3) := by decide +kernel
theorem dX9_closes_68 : decode cX9_closes 68 = .ok (.iadd, 1) := by decide +kernel
theorem dX9_closes_69 : decode cX9_closes 69 = .ok (.istore_n 3, 1) := by decide +kernel
theorem dX9_closes_70 : decode cX9_closes 70 = .ok (.aload_n 0, 1) := by decide +kernel
theorem dX9_closes_71 : decode cX9_closes 71 = .ok (.getfield 200, 3) := by decide +kernel
theorem dX9_closes_74 : decode cX9_closes 74 = .ok (.istore 4, 2) := by decide +kernel
theorem dX9_closes_76 : decode cX9_closes 76 = .ok (.aload_n 0, 1) := by decide +kernel
theorem dX9_closes_77 : decode cX9_closes 77 = .ok (.iload_n 1, 1) := by decide +kernel
theorem dX9_closes_78 : decode cX9_closes 78 = .ok (.aload_n 0, 1) := by decide +kernel
theorem dX9_closes_79 : decode cX9_closes 79 = .ok (.iload_n 1, 1) := by decide +kernel
theorem dX9_closes_80 : decode cX9_closes 80 = .ok (.iconst 0, 1) := by decide +kernel
theorem dX9_closes_81 : decode cX9_closes 81 = .ok (.invokevirtual 143, 3) := by decide +kernel
theorem dX9_closes_84 : decode cX9_closes 84 = .ok (.iload 4, 2) := by decide +kernel
theorem dX9_closes_86 : decode cX9_closes 86 = .ok (.invokevirtual 184, 3) := by decide +kernel
theorem dX9_closes_89 : decode cX9_closes 89 = .ok (.pop2, 1) := by decide +kernel
theorem dX9_closes_90 : decode cX9_closes 90 = .ok (.aload_n 0, 1) := by decide +kernel
theorem dX9_closes_91 : decode cX9_closes 91 = .ok (.iload_n 1, 1) := by decide +kernel
theorem dX9_closes_92 : decode cX9_closes 92 = .ok (.invokevirtual 215, 3) := by decide +kernel
theorem dX9_closes_95 : decode cX9_closes 95 = .ok (.aload_n 0, 1) := by decide +kernel
theorem dX9_closes_96 : decode cX9_closes 96 = .ok (.iload_n 2, 1) := by decide +kernel
theorem dX9_closes_97 : decode cX9_closes 97 = .ok (.aload_n 0, 1) := by decide +kernel
theorem dX9_closes_98 : decode cX9_closes 98 = .ok (.iload_n 2, 1) := by decide +kernel
theorem dX9_closes_99 : decode cX9_closes 99 = .ok (.iconst 0, 1) := by decide +kernel
theorem dX9_closes_100 : decode cX9_closes 100 = .ok (.invokevirtual 143, 3) := by decide +kernel
theorem dX9_closes_103 : decode cX9_closes 103 = .ok (.iload_n 3, 1) := by decide +kernel
theorem dX9_closes_104 : decode cX9_closes 104 = .ok (.iload 4, 2) := by decide +kernel
theorem dX9_closes_106 : decode cX9_closes 106 = .ok (.isub, 1) := by decide +kernel
theorem dX9_closes_107 : decode cX9_closes 107 = .ok (.invokevirtual 184, 3) := by decide +kernel
theorem dX9_closes_110 : decode cX9_closes 110 = .ok (.pop2, 1) := by decide +kernel
theorem dX9_closes_111 : decode cX9_closes 111 = .ok (.aload_n 0, 1) := by decide +kernel
theorem dX9_closes_112 : decode cX9_closes 112 = .ok (.iload_n 2, 1) := by decide +kernel
theorem dX9_closes_113 : decode cX9_closes 113 = .ok (.invokevirtual 215, 3) := by decide +kernel
theorem dX9_closes_116 : decode cX9_closes 116 = .ok (.return_, 1) := by decide +kernel
theorem c_X9_closes {a0 : Nat} {a1 : Int32} : CWp S N d MX9_closes [.ref a0, .int a1] I J P Q ↔ Wp S N d MX9_closes 0 [some (.ref a0), some (.int a1), none, none, none] [] I J P Q := by
  rw [cwp_iff]
  exact ⟨fun h => h.2, fun h => ⟨Nat.le_of_ble_eq_true rfl, h⟩⟩
theorem e_X9_closes_0 {w : Nat} {x1 x2 x3 x4 : Option Value} : Wp S N d MX9_closes 0 [some (.ref w), x1, x2, x3, x4] [] I J P Q ↔ Wp S N d MX9_closes 1 [some (.ref w), x1, x2, x3, x4] [.ref w] I J P Q := wp_lod (len := 1) rfl rfl rfl rfl dX9_closes_0
theorem e_X9_closes_1 {v0 : Nat} {x0 x1 x2 x3 x4 : Option Value} : Wp S N d MX9_closes 1 [x0, x1, x2, x3, x4] [.ref v0] I J P Q ↔ S v0 = 9 ∧ Wp S N d MX9_closes 4 [x0, x1, x2, x3, x4] [va_rf (P v0 0)] I J P Q := wp_getf rfl rfl rfl rfl dX9_closes_1
theorem e_X9_closes_4 {v0 : Nat} {x0 x1 x2 x3 x4 : Option Value} : Wp S N d MX9_closes 4 [x0, x1, x2, x3, x4] [.ref v0] I J P Q ↔ Wp S N d MX9_closes 6 [x0, x1, x2, x3, x4] [.int 82, .ref v0] I J P Q := wp_bipush (by decide) dX9_closes_4
theorem e_X9_closes_6 {v0 : Int32} {v1 : Nat} {w : Int32} {x0 x2 x3 x4 : Option Value} : Wp S N d MX9_closes 6 [x0, some (.int w), x2, x3, x4] [.int v0, .ref v1] I J P Q ↔ Wp S N d MX9_closes 7 [x0, some (.int w), x2, x3, x4] [.int w, .int v0, .ref v1] I J P Q := wp_lod (len := 1) rfl rfl rfl rfl dX9_closes_6
theorem e_X9_closes_7 {v0 : Int32} {v1 : Int32} {v2 : Nat} {x0 x1 x2 x3 x4 : Option Value} : Wp S N d MX9_closes 7 [x0, x1, x2, x3, x4] [.int v0, .int v1, .ref v2] I J P Q ↔ Wp S N d MX9_closes 8 [x0, x1, x2, x3, x4] [.int (v1 + v0), .ref v2] I J P Q := wp_alu (len := 1) rfl rfl rfl dX9_closes_7
theorem e_X9_closes_8 {v0 : Int32} {v1 : Nat} {x0 x1 x2 x3 x4 : Option Value} : Wp S N d MX9_closes 8 [x0, x1, x2, x3, x4] [.int v0, .ref v1] I J P Q ↔ (S v1 = 10 ∧ vp_in v0 (N v1)) ∧ Wp S N d MX9_closes 9 [x0, x1, x2, x3, x4] [.int (I v1 v0.toNatClampNeg)] I J P Q := wp_ald rfl rfl dX9_closes_8
theorem e_X9_closes_9 {v0 : Int32} {x0 x1 x2 x3 x4 : Option Value} : Wp S N d MX9_closes 9 [x0, x1, x2, x3, x4] [.int v0] I J P Q ↔ Wp S N d MX9_closes 10 [x0, kl x1, some (.int v0), x3, x4] [] I J P Q := wp_sto (len := 1) rfl rfl rfl rfl (Nat.le_of_ble_eq_true rfl) rfl dX9_closes_9
theorem e_X9_closes_10 {w : Int32} {x0 x1 x3 x4 : Option Value} : Wp S N d MX9_closes 10 [x0, x1, some (.int w), x3, x4] [] I J P Q ↔ Wp S N d MX9_closes 11 [x0, x1, some (.int w), x3, x4] [.int w] I J P Q := wp_lod (len := 1) rfl rfl rfl rfl dX9_closes_10
theorem e_X9_closes_11 {v0 : Int32} {x0 x1 x2 x3 x4 : Option Value} : Wp S N d MX9_closes 11 [x0, x1, x2, x3, x4] [.int v0] I J P Q ↔ (0 ≤ v0 → Wp S N d MX9_closes 28 [x0, x1, x2, x3, x4] [] I J P Q) ∧ (¬ 0 ≤ v0 → Wp S N d MX9_closes 14 [x0, x1, x2, x3, x4] [] I J P Q) := wp_br rfl rfl (by decide) dX9_closes_11
theorem e_X9_closes_14 {w : Nat} {x1 x2 x3 x4 : Option Value} : Wp S N d MX9_closes 14 [some (.ref w), x1, x2, x3, x4] [] I J P Q ↔ Wp S N d MX9_closes 15 [some (.ref w), x1, x2, x3, x4] [.ref w] I J P Q := wp_lod (len := 1) rfl rfl rfl rfl dX9_closes_14
theorem e_X9_closes_15 {v0 : Nat} {w : Int32} {x0 x2 x3 x4 : Option Value} : Wp S N d MX9_closes 15 [x0, some (.int w), x2, x3, x4] [.ref v0] I J P Q ↔ Wp S N d MX9_closes 16 [x0, some (.int w), x2, x3, x4] [.int w, .ref v0] I J P Q := wp_lod (len := 1) rfl rfl rfl rfl dX9_closes_15
theorem e_X9_closes_16 {v0 : Int32} {v1 : Nat} {x0 x1 x2 x3 x4 : Option Value} : Wp S N (d + 1) MX9_closes 16 [x0, x1, x2, x3, x4] [.int v0, .ref v1] I J P Q ↔ S v1 = 9 ∧ CWp S N d MX9_taxOfPerson [.ref v1, .int v0] I J P (fun r I1 J1 P1 => Wp S N (d + 1) MX9_closes 19 [x0, x1, x2, x3, x4] (r.toList ++ []) I1 J1 P1 Q) := wp_callV (M' := MX9_taxOfPerson) (As := [.int v0]) rfl rfl rfl rfl (by decide) (Nat.le_of_ble_eq_true rfl) dX9_closes_16
theorem e_X9_closes_19 {v0 : Int64} {x0 x1 x2 x3 x4 : Option Value} : Wp S N d MX9_closes 19 [x0, x1, x2, x3, x4] [.long v0] I J P Q ↔ Wp S N d MX9_closes 20 [x0, x1, x2, x3, x4] [] I J P Q := wp_alu (len := 1) rfl rfl rfl dX9_closes_19
theorem e_X9_closes_20 {w : Nat} {x1 x2 x3 x4 : Option Value} : Wp S N d MX9_closes 20 [some (.ref w), x1, x2, x3, x4] [] I J P Q ↔ Wp S N d MX9_closes 21 [some (.ref w), x1, x2, x3, x4] [.ref w] I J P Q := wp_lod (len := 1) rfl rfl rfl rfl dX9_closes_20
theorem e_X9_closes_21 {v0 : Nat} {w : Int32} {x0 x2 x3 x4 : Option Value} : Wp S N d MX9_closes 21 [x0, some (.int w), x2, x3, x4] [.ref v0] I J P Q ↔ Wp S N d MX9_closes 22 [x0, some (.int w), x2, x3, x4] [.int w, .ref v0] I J P Q := wp_lod (len := 1) rfl rfl rfl rfl dX9_closes_21
theorem e_X9_closes_22 {v0 : Int32} {v1 : Nat} {x0 x1 x2 x3 x4 : Option Value} : Wp S N (d + 1) MX9_closes 22 [x0, x1, x2, x3, x4] [.int v0, .ref v1] I J P Q ↔ S v1 = 9 ∧ CWp S N d MX9_carries [.ref v1, .int v0] I J P (fun r I1 J1 P1 => Wp S N (d + 1) MX9_closes 25 [x0, x1, x2, x3, x4] (r.toList ++ []) I1 J1 P1 Q) := wp_callV (M' := MX9_carries) (As := [.int v0]) rfl rfl rfl rfl (by decide) (Nat.le_of_ble_eq_true rfl) dX9_closes_22
theorem e_X9_closes_25  {x0 x1 x2 x3 x4 : Option Value} : Wp S N d MX9_closes 25 [x0, x1, x2, x3, x4] [] I J P Q ↔ Wp S N d MX9_closes 116 [x0, x1, x2, x3, x4] [] I J P Q := wp_go (len := 3) rfl (fun _ _ => rfl) rfl (by decide) dX9_closes_25
theorem e_X9_closes_28 {w : Nat} {x1 x2 x3 x4 : Option Value} : Wp S N d MX9_closes 28 [some (.ref w), x1, x2, x3, x4] [] I J P Q ↔ Wp S N d MX9_closes 29 [some (.ref w), x1, x2, x3, x4] [.ref w] I J P Q := wp_lod (len := 1) rfl rfl rfl rfl dX9_closes_28
theorem e_X9_closes_29 {v0 : Nat} {w : Int32} {x0 x2 x3 x4 : Option Value} : Wp S N d MX9_closes 29 [x0, some (.int w), x2, x3, x4] [.ref v0] I J P Q ↔ Wp S N d MX9_closes 30 [x0, some (.int w), x2, x3, x4] [.int w, .ref v0] I J P Q := wp_lod (len := 1) rfl rfl rfl rfl dX9_closes_29
theorem e_X9_closes_30 {v0 : Int32} {v1 : Nat} {x0 x1 x2 x3 x4 : Option Value} : Wp S N (d + 1) MX9_closes 30 [x0, x1, x2, x3, x4] [.int v0, .ref v1] I J P Q ↔ S v1 = 9 ∧ CWp S N d MX9_jointly [.ref v1, .int v0] I J P (fun r I1 J1 P1 => Wp S N (d + 1) MX9_closes 33 [x0, x1, x2, x3, x4] (r.toList ++ []) I1 J1 P1 Q) := wp_callV (M' := MX9_jointly) (As := [.int v0]) rfl rfl rfl rfl (by decide) (Nat.le_of_ble_eq_true rfl) dX9_closes_30
theorem e_X9_closes_33 {v0 : Int64} {w : Nat} {x1 x2 x3 x4 : Option Value} : Wp S N d MX9_closes 33 [some (.ref w), x1, x2, x3, x4] [.long v0] I J P Q ↔ Wp S N d MX9_closes 34 [some (.ref w), x1, x2, x3, x4] [.ref w, .long v0] I J P Q := wp_lod (len := 1) rfl rfl rfl rfl dX9_closes_33
theorem e_X9_closes_34 {v0 : Nat} {v1 : Int64} {w : Int32} {x0 x2 x3 x4 : Option Value} : Wp S N d MX9_closes 34 [x0, some (.int w), x2, x3, x4] [.ref v0, .long v1] I J P Q ↔ Wp S N d MX9_closes 35 [x0, some (.int w), x2, x3, x4] [.int w, .ref v0, .long v1] I J P Q := wp_lod (len := 1) rfl rfl rfl rfl dX9_closes_34
theorem e_X9_closes_35 {v0 : Int32} {v1 : Nat} {v2 : Int64} {x0 x1 x2 x3 x4 : Option Value} : Wp S N (d + 1) MX9_closes 35 [x0, x1, x2, x3, x4] [.int v0, .ref v1, .long v2] I J P Q ↔ S v1 = 9 ∧ CWp S N d MX9_apart [.ref v1, .int v0] I J P (fun r I1 J1 P1 => Wp S N (d + 1) MX9_closes 38 [x0, x1, x2, x3, x4] (r.toList ++ [.long v2]) I1 J1 P1 Q) := wp_callV (M' := MX9_apart) (As := [.int v0]) rfl rfl rfl rfl (by decide) (Nat.le_of_ble_eq_true rfl) dX9_closes_35
theorem e_X9_closes_38 {v0 : Int64} {v1 : Int64} {x0 x1 x2 x3 x4 : Option Value} : Wp S N d MX9_closes 38 [x0, x1, x2, x3, x4] [.long v0, .long v1] I J P Q ↔ Wp S N d MX9_closes 39 [x0, x1, x2, x3, x4] [.int (lg_cmp v1 v0)] I J P Q := wp_alu (len := 1) rfl rfl rfl dX9_closes_38
theorem e_X9_closes_39 {v0 : Int32} {x0 x1 x2 x3 x4 : Option Value} : Wp S N d MX9_closes 39 [x0, x1, x2, x3, x4] [.int v0] I J P Q ↔ (0 ≤ v0 → Wp S N d MX9_closes 56 [x0, x1, x2, x3, x4] [] I J P Q) ∧ (¬ 0 ≤ v0 → Wp S N d MX9_closes 42 [x0, x1, x2, x3, x4] [] I J P Q) := wp_br rfl rfl (by decide) dX9_closes_39
theorem e_X9_closes_42 {w : Nat} {x1 x2 x3 x4 : Option Value} : Wp S N d MX9_closes 42 [some (.ref w), x1, x2, x3, x4] [] I J P Q ↔ Wp S N d MX9_closes 43 [some (.ref w), x1, x2, x3, x4] [.ref w] I J P Q := wp_lod (len := 1) rfl rfl rfl rfl dX9_closes_42
theorem e_X9_closes_43 {v0 : Nat} {w : Int32} {x0 x2 x3 x4 : Option Value} : Wp S N d MX9_closes 43 [x0, some (.int w), x2, x3, x4] [.ref v0] I J P Q ↔ Wp S N d MX9_closes 44 [x0, some (.int w), x2, x3, x4] [.int w, .ref v0] I J P Q := wp_lod (len := 1) rfl rfl rfl rfl dX9_closes_43
theorem e_X9_closes_44 {v0 : Int32} {v1 : Nat} {x0 x1 x2 x3 x4 : Option Value} : Wp S N (d + 1) MX9_closes 44 [x0, x1, x2, x3, x4] [.int v0, .ref v1] I J P Q ↔ S v1 = 9 ∧ CWp S N d MX9_jointly [.ref v1, .int v0] I J P (fun r I1 J1 P1 => Wp S N (d + 1) MX9_closes 47 [x0, x1, x2, x3, x4] (r.toList ++ []) I1 J1 P1 Q) := wp_callV (M' := MX9_jointly) (As := [.int v0]) rfl rfl rfl rfl (by decide) (Nat.le_of_ble_eq_true rfl) dX9_closes_44
theorem e_X9_closes_47 {v0 : Int64} {x0 x1 x2 x3 x4 : Option Value} : Wp S N d MX9_closes 47 [x0, x1, x2, x3, x4] [.long v0] I J P Q ↔ Wp S N d MX9_closes 48 [x0, x1, x2, x3, x4] [] I J P Q := wp_alu (len := 1) rfl rfl rfl dX9_closes_47
theorem e_X9_closes_48 {w : Nat} {x1 x2 x3 x4 : Option Value} : Wp S N d MX9_closes 48 [some (.ref w), x1, x2, x3, x4] [] I J P Q ↔ Wp S N d MX9_closes 49 [some (.ref w), x1, x2, x3, x4] [.ref w] I J P Q := wp_lod (len := 1) rfl rfl rfl rfl dX9_closes_48
theorem e_X9_closes_49 {v0 : Nat} {w : Int32} {x0 x2 x3 x4 : Option Value} : Wp S N d MX9_closes 49 [x0, some (.int w), x2, x3, x4] [.ref v0] I J P Q ↔ Wp S N d MX9_closes 50 [x0, some (.int w), x2, x3, x4] [.int w, .ref v0] I J P Q := wp_lod (len := 1) rfl rfl rfl rfl dX9_closes_49
theorem e_X9_closes_50 {v0 : Int32} {v1 : Nat} {x0 x1 x2 x3 x4 : Option Value} : Wp S N (d + 1) MX9_closes 50 [x0, x1, x2, x3, x4] [.int v0, .ref v1] I J P Q ↔ S v1 = 9 ∧ CWp S N d MX9_carries [.ref v1, .int v0] I J P (fun r I1 J1 P1 => Wp S N (d + 1) MX9_closes 53 [x0, x1, x2, x3, x4] (r.toList ++ []) I1 J1 P1 Q) := wp_callV (M' := MX9_carries) (As := [.int v0]) rfl rfl rfl rfl (by decide) (Nat.le_of_ble_eq_true rfl) dX9_closes_50
theorem e_X9_closes_53  {x0 x1 x2 x3 x4 : Option Value} : Wp S N d MX9_closes 53 [x0, x1, x2, x3, x4] [] I J P Q ↔ Wp S N d MX9_closes 116 [x0, x1, x2, x3, x4] [] I J P Q := wp_go (len := 3) rfl (fun _ _ => rfl) rfl (by decide) dX9_closes_53
theorem e_X9_closes_56 {w : Nat} {x1 x2 x3 x4 : Option Value} : Wp S N d MX9_closes 56 [some (.ref w), x1, x2, x3, x4] [] I J P Q ↔ Wp S N d MX9_closes 57 [some (.ref w), x1, x2, x3, x4] [.ref w] I J P Q := wp_lod (len := 1) rfl rfl rfl rfl dX9_closes_56
theorem e_X9_closes_57 {v0 : Nat} {w : Int32} {x0 x2 x3 x4 : Option Value} : Wp S N d MX9_closes 57 [x0, some (.int w), x2, x3, x4] [.ref v0] I J P Q ↔ Wp S N d MX9_closes 58 [x0, some (.int w), x2, x3, x4] [.int w, .ref v0] I J P Q := wp_lod (len := 1) rfl rfl rfl rfl dX9_closes_57
theorem e_X9_closes_58 {v0 : Int32} {v1 : Nat} {x0 x1 x2 x3 x4 : Option Value} : Wp S N d MX9_closes 58 [x0, x1, x2, x3, x4] [.int v0, .ref v1] I J P Q ↔ Wp S N d MX9_closes 59 [x0, x1, x2, x3, x4] [.int 2, .int v0, .ref v1] I J P Q := wp_iconst (by decide) dX9_closes_58
theorem e_X9_closes_59 {v0 : Int32} {v1 : Int32} {v2 : Nat} {x0 x1 x2 x3 x4 : Option Value} : Wp S N (d + 1) MX9_closes 59 [x0, x1, x2, x3, x4] [.int v0, .int v1, .ref v2] I J P Q ↔ S v2 = 9 ∧ CWp S N d MX9_of [.ref v2, .int v1, .int v0] I J P (fun r I1 J1 P1 => Wp S N (d + 1) MX9_closes 62 [x0, x1, x2, x3, x4] (r.toList ++ []) I1 J1 P1 Q) := wp_callV (M' := MX9_of) (As := [.int v1, .int v0]) rfl rfl rfl rfl (by decide) (Nat.le_of_ble_eq_true rfl) dX9_closes_59
theorem e_X9_closes_62 {v0 : Int32} {w : Nat} {x1 x2 x3 x4 : Option Value} : Wp S N d MX9_closes 62 [some (.ref w), x1, x2, x3, x4] [.int v0] I J P Q ↔ Wp S N d MX9_closes 63 [some (.ref w), x1, x2, x3, x4] [.ref w, .int v0] I J P Q := wp_lod (len := 1) rfl rfl rfl rfl dX9_closes_62
theorem e_X9_closes_63 {v0 : Nat} {v1 : Int32} {w : Int32} {x0 x1 x3 x4 : Option Value} : Wp S N d MX9_closes 63 [x0, x1, some (.int w), x3, x4] [.ref v0, .int v1] I J P Q ↔ Wp S N d MX9_closes 64 [x0, x1, some (.int w), x3, x4] [.int w, .ref v0, .int v1] I J P Q := wp_lod (len := 1) rfl rfl rfl rfl dX9_closes_63
theorem e_X9_closes_64 {v0 : Int32} {v1 : Nat} {v2 : Int32} {x0 x1 x2 x3 x4 : Option Value} : Wp S N d MX9_closes 64 [x0, x1, x2, x3, x4] [.int v0, .ref v1, .int v2] I J P Q ↔ Wp S N d MX9_closes 65 [x0, x1, x2, x3, x4] [.int 2, .int v0, .ref v1, .int v2] I J P Q := wp_iconst (by decide) dX9_closes_64
theorem e_X9_closes_65 {v0 : Int32} {v1 : Int32} {v2 : Nat} {v3 : Int32} {x0 x1 x2 x3 x4 : Option Value} : Wp S N (d + 1) MX9_closes 65 [x0, x1, x2, x3, x4] [.int v0, .int v1, .ref v2, .int v3] I J P Q ↔ S v2 = 9 ∧ CWp S N d MX9_of [.ref v2, .int v1, .int v0] I J P (fun r I1 J1 P1 => Wp S N (d + 1) MX9_closes 68 [x0, x1, x2, x3, x4] (r.toList ++ [.int v3]) I1 J1 P1 Q) := wp_callV (M' := MX9_of) (As := [.int v1, .int v0]) rfl rfl rfl rfl (by decide) (Nat.le_of_ble_eq_true rfl) dX9_closes_65
theorem e_X9_closes_68 {v0 : Int32} {v1 : Int32} {x0 x1 x2 x3 x4 : Option Value} : Wp S N d MX9_closes 68 [x0, x1, x2, x3, x4] [.int v0, .int v1] I J P Q ↔ Wp S N d MX9_closes 69 [x0, x1, x2, x3, x4] [.int (v1 + v0)] I J P Q := wp_alu (len := 1) rfl rfl rfl dX9_closes_68
theorem e_X9_closes_69 {v0 : Int32} {x0 x1 x2 x3 x4 : Option Value} : Wp S N d MX9_closes 69 [x0, x1, x2, x3, x4] [.int v0] I J P Q ↔ Wp S N d MX9_closes 70 [x0, x1, kl x2, some (.int v0), x4] [] I J P Q := wp_sto (len := 1) rfl rfl rfl rfl (Nat.le_of_ble_eq_true rfl) rfl dX9_closes_69
theorem e_X9_closes_70 {w : Nat} {x1 x2 x3 x4 : Option Value} : Wp S N d MX9_closes 70 [some (.ref w), x1, x2, x3, x4] [] I J P Q ↔ Wp S N d MX9_closes 71 [some (.ref w), x1, x2, x3, x4] [.ref w] I J P Q := wp_lod (len := 1) rfl rfl rfl rfl dX9_closes_70
theorem e_X9_closes_71 {v0 : Nat} {x0 x1 x2 x3 x4 : Option Value} : Wp S N d MX9_closes 71 [x0, x1, x2, x3, x4] [.ref v0] I J P Q ↔ S v0 = 9 ∧ Wp S N d MX9_closes 74 [x0, x1, x2, x3, x4] [.int (I v0 21)] I J P Q := wp_getf rfl rfl rfl rfl dX9_closes_71
theorem e_X9_closes_74 {v0 : Int32} {x0 x1 x2 x3 x4 : Option Value} : Wp S N d MX9_closes 74 [x0, x1, x2, x3, x4] [.int v0] I J P Q ↔ Wp S N d MX9_closes 76 [x0, x1, x2, kl x3, some (.int v0)] [] I J P Q := wp_sto (len := 2) rfl rfl rfl rfl (Nat.le_of_ble_eq_true rfl) rfl dX9_closes_74
theorem e_X9_closes_76 {w : Nat} {x1 x2 x3 x4 : Option Value} : Wp S N d MX9_closes 76 [some (.ref w), x1, x2, x3, x4] [] I J P Q ↔ Wp S N d MX9_closes 77 [some (.ref w), x1, x2, x3, x4] [.ref w] I J P Q := wp_lod (len := 1) rfl rfl rfl rfl dX9_closes_76
theorem e_X9_closes_77 {v0 : Nat} {w : Int32} {x0 x2 x3 x4 : Option Value} : Wp S N d MX9_closes 77 [x0, some (.int w), x2, x3, x4] [.ref v0] I J P Q ↔ Wp S N d MX9_closes 78 [x0, some (.int w), x2, x3, x4] [.int w, .ref v0] I J P Q := wp_lod (len := 1) rfl rfl rfl rfl dX9_closes_77
theorem e_X9_closes_78 {v0 : Int32} {v1 : Nat} {w : Nat} {x1 x2 x3 x4 : Option Value} : Wp S N d MX9_closes 78 [some (.ref w), x1, x2, x3, x4] [.int v0, .ref v1] I J P Q ↔ Wp S N d MX9_closes 79 [some (.ref w), x1, x2, x3, x4] [.ref w, .int v0, .ref v1] I J P Q := wp_lod (len := 1) rfl rfl rfl rfl dX9_closes_78
theorem e_X9_closes_79 {v0 : Nat} {v1 : Int32} {v2 : Nat} {w : Int32} {x0 x2 x3 x4 : Option Value} : Wp S N d MX9_closes 79 [x0, some (.int w), x2, x3, x4] [.ref v0, .int v1, .ref v2] I J P Q ↔ Wp S N d MX9_closes 80 [x0, some (.int w), x2, x3, x4] [.int w, .ref v0, .int v1, .ref v2] I J P Q := wp_lod (len := 1) rfl rfl rfl rfl dX9_closes_79
theorem e_X9_closes_80 {v0 : Int32} {v1 : Nat} {v2 : Int32} {v3 : Nat} {x0 x1 x2 x3 x4 : Option Value} : Wp S N d MX9_closes 80 [x0, x1, x2, x3, x4] [.int v0, .ref v1, .int v2, .ref v3] I J P Q ↔ Wp S N d MX9_closes 81 [x0, x1, x2, x3, x4] [.int 0, .int v0, .ref v1, .int v2, .ref v3] I J P Q := wp_iconst (by decide) dX9_closes_80
theorem e_X9_closes_81 {v0 : Int32} {v1 : Int32} {v2 : Nat} {v3 : Int32} {v4 : Nat} {x0 x1 x2 x3 x4 : Option Value} : Wp S N (d + 1) MX9_closes 81 [x0, x1, x2, x3, x4] [.int v0, .int v1, .ref v2, .int v3, .ref v4] I J P Q ↔ S v2 = 9 ∧ CWp S N d MX9_of [.ref v2, .int v1, .int v0] I J P (fun r I1 J1 P1 => Wp S N (d + 1) MX9_closes 84 [x0, x1, x2, x3, x4] (r.toList ++ [.int v3, .ref v4]) I1 J1 P1 Q) := wp_callV (M' := MX9_of) (As := [.int v1, .int v0]) rfl rfl rfl rfl (by decide) (Nat.le_of_ble_eq_true rfl) dX9_closes_81
theorem e_X9_closes_84 {v0 : Int32} {v1 : Int32} {v2 : Nat} {w : Int32} {x0 x1 x2 x3 : Option Value} : Wp S N d MX9_closes 84 [x0, x1, x2, x3, some (.int w)] [.int v0, .int v1, .ref v2] I J P Q ↔ Wp S N d MX9_closes 86 [x0, x1, x2, x3, some (.int w)] [.int w, .int v0, .int v1, .ref v2] I J P Q := wp_lod (len := 2) rfl rfl rfl rfl dX9_closes_84
theorem e_X9_closes_86 {v0 : Int32} {v1 : Int32} {v2 : Int32} {v3 : Nat} {x0 x1 x2 x3 x4 : Option Value} : Wp S N (d + 1) MX9_closes 86 [x0, x1, x2, x3, x4] [.int v0, .int v1, .int v2, .ref v3] I J P Q ↔ S v3 = 9 ∧ CWp S N d MX9_alone [.ref v3, .int v2, .int v1, .int v0] I J P (fun r I1 J1 P1 => Wp S N (d + 1) MX9_closes 89 [x0, x1, x2, x3, x4] (r.toList ++ []) I1 J1 P1 Q) := wp_callV (M' := MX9_alone) (As := [.int v2, .int v1, .int v0]) rfl rfl rfl rfl (by decide) (Nat.le_of_ble_eq_true rfl) dX9_closes_86
theorem e_X9_closes_89 {v0 : Int64} {x0 x1 x2 x3 x4 : Option Value} : Wp S N d MX9_closes 89 [x0, x1, x2, x3, x4] [.long v0] I J P Q ↔ Wp S N d MX9_closes 90 [x0, x1, x2, x3, x4] [] I J P Q := wp_alu (len := 1) rfl rfl rfl dX9_closes_89
theorem e_X9_closes_90 {w : Nat} {x1 x2 x3 x4 : Option Value} : Wp S N d MX9_closes 90 [some (.ref w), x1, x2, x3, x4] [] I J P Q ↔ Wp S N d MX9_closes 91 [some (.ref w), x1, x2, x3, x4] [.ref w] I J P Q := wp_lod (len := 1) rfl rfl rfl rfl dX9_closes_90
theorem e_X9_closes_91 {v0 : Nat} {w : Int32} {x0 x2 x3 x4 : Option Value} : Wp S N d MX9_closes 91 [x0, some (.int w), x2, x3, x4] [.ref v0] I J P Q ↔ Wp S N d MX9_closes 92 [x0, some (.int w), x2, x3, x4] [.int w, .ref v0] I J P Q := wp_lod (len := 1) rfl rfl rfl rfl dX9_closes_91
theorem e_X9_closes_92 {v0 : Int32} {v1 : Nat} {x0 x1 x2 x3 x4 : Option Value} : Wp S N (d + 1) MX9_closes 92 [x0, x1, x2, x3, x4] [.int v0, .ref v1] I J P Q ↔ S v1 = 9 ∧ CWp S N d MX9_carries [.ref v1, .int v0] I J P (fun r I1 J1 P1 => Wp S N (d + 1) MX9_closes 95 [x0, x1, x2, x3, x4] (r.toList ++ []) I1 J1 P1 Q) := wp_callV (M' := MX9_carries) (As := [.int v0]) rfl rfl rfl rfl (by decide) (Nat.le_of_ble_eq_true rfl) dX9_closes_92
theorem e_X9_closes_95 {w : Nat} {x1 x2 x3 x4 : Option Value} : Wp S N d MX9_closes 95 [some (.ref w), x1, x2, x3, x4] [] I J P Q ↔ Wp S N d MX9_closes 96 [some (.ref w), x1, x2, x3, x4] [.ref w] I J P Q := wp_lod (len := 1) rfl rfl rfl rfl dX9_closes_95
theorem e_X9_closes_96 {v0 : Nat} {w : Int32} {x0 x1 x3 x4 : Option Value} : Wp S N d MX9_closes 96 [x0, x1, some (.int w), x3, x4] [.ref v0] I J P Q ↔ Wp S N d MX9_closes 97 [x0, x1, some (.int w), x3, x4] [.int w, .ref v0] I J P Q := wp_lod (len := 1) rfl rfl rfl rfl dX9_closes_96
theorem e_X9_closes_97 {v0 : Int32} {v1 : Nat} {w : Nat} {x1 x2 x3 x4 : Option Value} : Wp S N d MX9_closes 97 [some (.ref w), x1, x2, x3, x4] [.int v0, .ref v1] I J P Q ↔ Wp S N d MX9_closes 98 [some (.ref w), x1, x2, x3, x4] [.ref w, .int v0, .ref v1] I J P Q := wp_lod (len := 1) rfl rfl rfl rfl dX9_closes_97
theorem e_X9_closes_98 {v0 : Nat} {v1 : Int32} {v2 : Nat} {w : Int32} {x0 x1 x3 x4 : Option Value} : Wp S N d MX9_closes 98 [x0, x1, some (.int w), x3, x4] [.ref v0, .int v1, .ref v2] I J P Q ↔ Wp S N d MX9_closes 99 [x0, x1, some (.int w), x3, x4] [.int w, .ref v0, .int v1, .ref v2] I J P Q := wp_lod (len := 1) rfl rfl rfl rfl dX9_closes_98
theorem e_X9_closes_99 {v0 : Int32} {v1 : Nat} {v2 : Int32} {v3 : Nat} {x0 x1 x2 x3 x4 : Option Value} : Wp S N d MX9_closes 99 [x0, x1, x2, x3, x4] [.int v0, .ref v1, .int v2, .ref v3] I J P Q ↔ Wp S N d MX9_closes 100 [x0, x1, x2, x3, x4] [.int 0, .int v0, .ref v1, .int v2, .ref v3] I J P Q := wp_iconst (by decide) dX9_closes_99
theorem e_X9_closes_100 {v0 : Int32} {v1 : Int32} {v2 : Nat} {v3 : Int32} {v4 : Nat} {x0 x1 x2 x3 x4 : Option Value} : Wp S N (d + 1) MX9_closes 100 [x0, x1, x2, x3, x4] [.int v0, .int v1, .ref v2, .int v3, .ref v4] I J P Q ↔ S v2 = 9 ∧ CWp S N d MX9_of [.ref v2, .int v1, .int v0] I J P (fun r I1 J1 P1 => Wp S N (d + 1) MX9_closes 103 [x0, x1, x2, x3, x4] (r.toList ++ [.int v3, .ref v4]) I1 J1 P1 Q) := wp_callV (M' := MX9_of) (As := [.int v1, .int v0]) rfl rfl rfl rfl (by decide) (Nat.le_of_ble_eq_true rfl) dX9_closes_100
theorem e_X9_closes_103 {v0 : Int32} {v1 : Int32} {v2 : Nat} {w : Int32} {x0 x1 x2 x4 : Option Value} : Wp S N d MX9_closes 103 [x0, x1, x2, some (.int w), x4] [.int v0, .int v1, .ref v2] I J P Q ↔ Wp S N d MX9_closes 104 [x0, x1, x2, some (.int w), x4] [.int w, .int v0, .int v1, .ref v2] I J P Q := wp_lod (len := 1) rfl rfl rfl rfl dX9_closes_103
theorem e_X9_closes_104 {v0 : Int32} {v1 : Int32} {v2 : Int32} {v3 : Nat} {w : Int32} {x0 x1 x2 x3 : Option Value} : Wp S N d MX9_closes 104 [x0, x1, x2, x3, some (.int w)] [.int v0, .int v1, .int v2, .ref v3] I J P Q ↔ Wp S N d MX9_closes 106 [x0, x1, x2, x3, some (.int w)] [.int w, .int v0, .int v1, .int v2, .ref v3] I J P Q := wp_lod (len := 2) rfl rfl rfl rfl dX9_closes_104
theorem e_X9_closes_106 {v0 : Int32} {v1 : Int32} {v2 : Int32} {v3 : Int32} {v4 : Nat} {x0 x1 x2 x3 x4 : Option Value} : Wp S N d MX9_closes 106 [x0, x1, x2, x3, x4] [.int v0, .int v1, .int v2, .int v3, .ref v4] I J P Q ↔ Wp S N d MX9_closes 107 [x0, x1, x2, x3, x4] [.int (v1 - v0), .int v2, .int v3, .ref v4] I J P Q := wp_alu (len := 1) rfl rfl rfl dX9_closes_106
theorem e_X9_closes_107 {v0 : Int32} {v1 : Int32} {v2 : Int32} {v3 : Nat} {x0 x1 x2 x3 x4 : Option Value} : Wp S N (d + 1) MX9_closes 107 [x0, x1, x2, x3, x4] [.int v0, .int v1, .int v2, .ref v3] I J P Q ↔ S v3 = 9 ∧ CWp S N d MX9_alone [.ref v3, .int v2, .int v1, .int v0] I J P (fun r I1 J1 P1 => Wp S N (d + 1) MX9_closes 110 [x0, x1, x2, x3, x4] (r.toList ++ []) I1 J1 P1 Q) := wp_callV (M' := MX9_alone) (As := [.int v2, .int v1, .int v0]) rfl rfl rfl rfl (by decide) (Nat.le_of_ble_eq_true rfl) dX9_closes_107
theorem e_X9_closes_110 {v0 : Int64} {x0 x1 x2 x3 x4 : Option Value} : Wp S N d MX9_closes 110 [x0, x1, x2, x3, x4] [.long v0] I J P Q ↔ Wp S N d MX9_closes 111 [x0, x1, x2, x3, x4] [] I J P Q := wp_alu (len := 1) rfl rfl rfl dX9_closes_110
theorem e_X9_closes_111 {w : Nat} {x1 x2 x3 x4 : Option Value} : Wp S N d MX9_closes 111 [some (.ref w), x1, x2, x3, x4] [] I J P Q ↔ Wp S N d MX9_closes 112 [some (.ref w), x1, x2, x3, x4] [.ref w] I J P Q := wp_lod (len := 1) rfl rfl rfl rfl dX9_closes_111
theorem e_X9_closes_112 {v0 : Nat} {w : Int32} {x0 x1 x3 x4 : Option Value} : Wp S N d MX9_closes 112 [x0, x1, some (.int w), x3, x4] [.ref v0] I J P Q ↔ Wp S N d MX9_closes 113 [x0, x1, some (.int w), x3, x4] [.int w, .ref v0] I J P Q := wp_lod (len := 1) rfl rfl rfl rfl dX9_closes_112
theorem e_X9_closes_113 {v0 : Int32} {v1 : Nat} {x0 x1 x2 x3 x4 : Option Value} : Wp S N (d + 1) MX9_closes 113 [x0, x1, x2, x3, x4] [.int v0, .ref v1] I J P Q ↔ S v1 = 9 ∧ CWp S N d MX9_carries [.ref v1, .int v0] I J P (fun r I1 J1 P1 => Wp S N (d + 1) MX9_closes 116 [x0, x1, x2, x3, x4] (r.toList ++ []) I1 J1 P1 Q) := wp_callV (M' := MX9_carries) (As := [.int v0]) rfl rfl rfl rfl (by decide) (Nat.le_of_ble_eq_true rfl) dX9_closes_113
theorem e_X9_closes_116  {x0 x1 x2 x3 x4 : Option Value} : Wp S N d MX9_closes 116 [x0, x1, x2, x3, x4] [] I J P Q ↔ Q none I J P := wp_vret rfl dX9_closes_116
theorem dX9_closeYear_0 : decode cX9_closeYear 0 = .ok (.aload_n 0, 1) := by decide +kernel
theorem dX9_closeYear_1 : decode cX9_closeYear 1 = .ok (.iconst 0, 1) := by decide +kernel
theorem dX9_closeYear_2 : decode cX9_closeYear 2 = .ok (.putfield 57, 3) := by decide +kernel
theorem dX9_closeYear_5 : decode cX9_closeYear 5 = .ok (.aload_n 0, 1) := by decide +kernel
theorem dX9_closeYear_6 : decode cX9_closeYear 6 = .ok (.invokevirtual 75, 3) := by decide +kernel
theorem dX9_closeYear_9 : decode cX9_closeYear 9 = .ok (.iconst 0, 1) := by decide +kernel
theorem dX9_closeYear_10 : decode cX9_closeYear 10 = .ok (.istore_n 1, 1) := by decide +kernel
theorem dX9_closeYear_11 : decode cX9_closeYear 11 = .ok (.iload_n 1, 1) := by decide +kernel
theorem dX9_closeYear_12 : decode cX9_closeYear 12 = .ok (.bipush 36, 2) := by decide +kernel
theorem dX9_closeYear_14 : decode cX9_closeYear 14 = .ok (.if_icmp .ge 16, 3) := by decide +kernel
theorem dX9_closeYear_17 : decode cX9_closeYear 17 = .ok (.aload_n 0, 1) := by decide +kernel
theorem dX9_closeYear_18 : decode cX9_closeYear 18 = .ok (.getfield 54, 3) := by decide +kernel
theorem dX9_closeYear_21 : decode cX9_closeYear 21 = .ok (.iload_n 1, 1) := by decide +kernel
theorem dX9_closeYear_22 : decode cX9_closeYear 22 = .ok (.lconst 0, 1) := by decide +kernel
theorem dX9_closeYear_23 : decode cX9_closeYear 23 = .ok (.lastore, 1) := by decide +kernel
theorem dX9_closeYear_24 : decode cX9_closeYear 24 = .ok (.iinc 1 1, 3) := by decide +kernel
theorem dX9_closeYear_27 : decode cX9_closeYear 27 = .ok (.goto (-16), 3) := by decide +kernel
theorem dX9_closeYear_30 : decode cX9_closeYear 30 = .ok (.iconst 0, 1) := by decide +kernel
theorem dX9_closeYear_31 : decode cX9_closeYear 31 = .ok (.istore_n 1, 1) := by decide +kernel
theorem dX9_closeYear_32 : decode cX9_closeYear 32 = .ok (.iload_n 1, 1) := by decide +kernel
theorem dX9_closeYear_33 : decode cX9_closeYear 33 = .ok (.bipush 6, 2) := by decide +kernel
theorem dX9_closeYear_35 : decode cX9_closeYear 35 = .ok (.if_icmp .ge 22, 3) := by decide +kernel
theorem dX9_closeYear_38 : decode cX9_closeYear 38 = .ok (.aload_n 0, 1) := by decide +kernel
theorem dX9_closeYear_39 : decode cX9_closeYear 39 = .ok (.iload_n 1, 1) := by decide +kernel
theorem dX9_closeYear_40 : decode cX9_closeYear 40 = .ok (.invokevirtual 212, 3) := by decide +kernel
theorem dX9_closeYear_43 : decode cX9_closeYear 43 = .ok (.ifCond .eq 8, 3) := by decide +kernel
theorem dX9_closeYear_46 : decode cX9_closeYear 46 = .ok (.aload_n 0, 1) := by decide +kernel
theorem dX9_closeYear_47 : decode cX9_closeYear 47 = .ok (.iload_n 1, 1) := by decide +kernel
theorem dX9_closeYear_48 : decode cX9_closeYear 48 = .ok (.invokevirtual 218, 3) := by decide +kernel
theorem dX9_closeYear_51 : decode cX9_closeYear 51 = .ok (.iinc 1 1, 3) := by decide +kernel
theorem dX9_closeYear_54 : decode cX9_closeYear 54 = .ok (.goto (-22), 3) := by decide +kernel
theorem dX9_closeYear_57 : decode cX9_closeYear 57 = .ok (.iconst 0, 1) := by decide +kernel
theorem dX9_closeYear_58 : decode cX9_closeYear 58 = .ok (.istore_n 1, 1) := by decide +kernel
theorem dX9_closeYear_59 : decode cX9_closeYear 59 = .ok (.iload_n 1, 1) := by decide +kernel
theorem dX9_closeYear_60 : decode cX9_closeYear 60 = .ok (.bipush 36, 2) := by decide +kernel
theorem dX9_closeYear_62 : decode cX9_closeYear 62 = .ok (.if_icmp .ge 21, 3) := by decide +kernel
theorem dX9_closeYear_65 : decode cX9_closeYear 65 = .ok (.aload_n 0, 1) := by decide +kernel
theorem dX9_closeYear_66 : decode cX9_closeYear 66 = .ok (.getfield 13, 3) := by decide +kernel
theorem dX9_closeYear_69 : decode cX9_closeYear 69 = .ok (.iload_n 1, 1) := by decide +kernel
theorem dX9_closeYear_70 : decode cX9_closeYear 70 = .ok (.aload_n 0, 1) := by decide +kernel
theorem dX9_closeYear_71 : decode cX9_closeYear 71 = .ok (.getfield 54, 3) := by decide +kernel
theorem dX9_closeYear_74 : decode cX9_closeYear 74 = .ok (.iload_n 1, 1) := by decide +kernel
theorem dX9_closeYear_75 : decode cX9_closeYear 75 = .ok (.laload, 1) := by decide +kernel
theorem dX9_closeYear_76 : decode cX9_closeYear 76 = .ok (.lastore, 1) := by decide +kernel
theorem dX9_closeYear_77 : decode cX9_closeYear 77 = .ok (.iinc 1 1, 3) := by decide +kernel
theorem dX9_closeYear_80 : decode cX9_closeYear 80 = .ok (.goto (-21), 3) := by decide +kernel
theorem dX9_closeYear_83 : decode cX9_closeYear 83 = .ok (.aload_n 0, 1) := by decide +kernel
theorem dX9_closeYear_84 : decode cX9_closeYear 84 = .ok (.getfield 7, 3) := by decide +kernel
theorem dX9_closeYear_87 : decode cX9_closeYear 87 = .ok (.bipush 88, 2) := by decide +kernel
theorem dX9_closeYear_89 : decode cX9_closeYear 89 = .ok (.dup2, 1) := by decide +kernel
theorem dX9_closeYear_90 : decode cX9_closeYear 90 = .ok (.iaload, 1) := by decide +kernel
theorem dX9_closeYear_91 : decode cX9_closeYear 91 = .ok (.iconst 1, 1) := by decide +kernel
theorem dX9_closeYear_92 : decode cX9_closeYear 92 = .ok (.iadd, 1) := by decide +kernel
theorem dX9_closeYear_93 : decode cX9_closeYear 93 = .ok (.iastore, 1) := by decide +kernel
theorem dX9_closeYear_94 : decode cX9_closeYear 94 = .ok (.aload_n 0, 1) := by decide +kernel
theorem dX9_closeYear_95 : decode cX9_closeYear 95 = .ok (.getfield 7, 3) := by decide +kernel
theorem dX9_closeYear_98 : decode cX9_closeYear 98 = .ok (.bipush 88, 2) := by decide +kernel
theorem dX9_closeYear_100 : decode cX9_closeYear 100 = .ok (.iaload, 1) := by decide +kernel
theorem dX9_closeYear_101 : decode cX9_closeYear 101 = .ok (.ireturn, 1) := by decide +kernel
theorem c_X9_closeYear {a0 : Nat} : CWp S N d MX9_closeYear [.ref a0] I J P Q ↔ Wp S N d MX9_closeYear 0 [some (.ref a0), none] [] I J P Q := by
  rw [cwp_iff]
  exact ⟨fun h => h.2, fun h => ⟨Nat.le_of_ble_eq_true rfl, h⟩⟩
theorem e_X9_closeYear_0 {w : Nat} {x1 : Option Value} : Wp S N d MX9_closeYear 0 [some (.ref w), x1] [] I J P Q ↔ Wp S N d MX9_closeYear 1 [some (.ref w), x1] [.ref w] I J P Q := wp_lod (len := 1) rfl rfl rfl rfl dX9_closeYear_0
theorem e_X9_closeYear_1 {v0 : Nat} {x0 x1 : Option Value} : Wp S N d MX9_closeYear 1 [x0, x1] [.ref v0] I J P Q ↔ Wp S N d MX9_closeYear 2 [x0, x1] [.int 0, .ref v0] I J P Q := wp_iconst (by decide) dX9_closeYear_1
theorem e_X9_closeYear_2 {v0 : Int32} {v1 : Nat} {x0 x1 : Option Value} : Wp S N d MX9_closeYear 2 [x0, x1] [.int v0, .ref v1] I J P Q ↔ S v1 = 9 ∧ Wp S N d MX9_closeYear 5 [x0, x1] [] (u2 I v1 8 v0) J P Q := wp_putI rfl rfl rfl rfl dX9_closeYear_2
theorem e_X9_closeYear_5 {w : Nat} {x1 : Option Value} : Wp S N d MX9_closeYear 5 [some (.ref w), x1] [] I J P Q ↔ Wp S N d MX9_closeYear 6 [some (.ref w), x1] [.ref w] I J P Q := wp_lod (len := 1) rfl rfl rfl rfl dX9_closeYear_5
theorem e_X9_closeYear_6 {v0 : Nat} {x0 x1 : Option Value} : Wp S N (d + 1) MX9_closeYear 6 [x0, x1] [.ref v0] I J P Q ↔ S v0 = 9 ∧ CWp S N d MX9_changes [.ref v0] I J P (fun r I1 J1 P1 => Wp S N (d + 1) MX9_closeYear 9 [x0, x1] (r.toList ++ []) I1 J1 P1 Q) := wp_callV (M' := MX9_changes) (As := []) rfl rfl rfl rfl (by decide) (Nat.le_of_ble_eq_true rfl) dX9_closeYear_6
theorem e_X9_closeYear_9  {x0 x1 : Option Value} : Wp S N d MX9_closeYear 9 [x0, x1] [] I J P Q ↔ Wp S N d MX9_closeYear 10 [x0, x1] [.int 0] I J P Q := wp_iconst (by decide) dX9_closeYear_9
theorem e_X9_closeYear_10 {v0 : Int32} {x0 x1 : Option Value} : Wp S N d MX9_closeYear 10 [x0, x1] [.int v0] I J P Q ↔ Wp S N d MX9_closeYear 11 [kl x0, some (.int v0)] [] I J P Q := wp_sto (len := 1) rfl rfl rfl rfl (Nat.le_of_ble_eq_true rfl) rfl dX9_closeYear_10
theorem e_X9_closeYear_11 {w : Int32} {x0 : Option Value} : Wp S N d MX9_closeYear 11 [x0, some (.int w)] [] I J P Q ↔ Wp S N d MX9_closeYear 12 [x0, some (.int w)] [.int w] I J P Q := wp_lod (len := 1) rfl rfl rfl rfl dX9_closeYear_11
theorem e_X9_closeYear_12 {v0 : Int32} {x0 x1 : Option Value} : Wp S N d MX9_closeYear 12 [x0, x1] [.int v0] I J P Q ↔ Wp S N d MX9_closeYear 14 [x0, x1] [.int 36, .int v0] I J P Q := wp_bipush (by decide) dX9_closeYear_12
theorem e_X9_closeYear_14 {v0 : Int32} {v1 : Int32} {x0 x1 : Option Value} : Wp S N d MX9_closeYear 14 [x0, x1] [.int v0, .int v1] I J P Q ↔ (v0 ≤ v1 → Wp S N d MX9_closeYear 30 [x0, x1] [] I J P Q) ∧ (¬ v0 ≤ v1 → Wp S N d MX9_closeYear 17 [x0, x1] [] I J P Q) := wp_br rfl rfl (by decide) dX9_closeYear_14
theorem e_X9_closeYear_17 {w : Nat} {x1 : Option Value} : Wp S N d MX9_closeYear 17 [some (.ref w), x1] [] I J P Q ↔ Wp S N d MX9_closeYear 18 [some (.ref w), x1] [.ref w] I J P Q := wp_lod (len := 1) rfl rfl rfl rfl dX9_closeYear_17
theorem e_X9_closeYear_18 {v0 : Nat} {x0 x1 : Option Value} : Wp S N d MX9_closeYear 18 [x0, x1] [.ref v0] I J P Q ↔ S v0 = 9 ∧ Wp S N d MX9_closeYear 21 [x0, x1] [va_rf (P v0 22)] I J P Q := wp_getf rfl rfl rfl rfl dX9_closeYear_18
theorem e_X9_closeYear_21 {v0 : Nat} {w : Int32} {x0 : Option Value} : Wp S N d MX9_closeYear 21 [x0, some (.int w)] [.ref v0] I J P Q ↔ Wp S N d MX9_closeYear 22 [x0, some (.int w)] [.int w, .ref v0] I J P Q := wp_lod (len := 1) rfl rfl rfl rfl dX9_closeYear_21
theorem e_X9_closeYear_22 {v0 : Int32} {v1 : Nat} {x0 x1 : Option Value} : Wp S N d MX9_closeYear 22 [x0, x1] [.int v0, .ref v1] I J P Q ↔ Wp S N d MX9_closeYear 23 [x0, x1] [.long 0, .int v0, .ref v1] I J P Q := wp_lconst (by decide) dX9_closeYear_22
theorem e_X9_closeYear_23 {v0 : Int64} {v1 : Int32} {v2 : Nat} {x0 x1 : Option Value} : Wp S N d MX9_closeYear 23 [x0, x1] [.long v0, .int v1, .ref v2] I J P Q ↔ (S v2 = 11 ∧ vp_in v1 (N v2)) ∧ Wp S N d MX9_closeYear 24 [x0, x1] [] I (u2 J v2 v1.toNatClampNeg v0) P Q := wp_ast rfl rfl dX9_closeYear_23
theorem e_X9_closeYear_24 {w : Int32} {x0 : Option Value} : Wp S N d MX9_closeYear 24 [x0, some (.int w)] [] I J P Q ↔ Wp S N d MX9_closeYear 27 [kl x0, some (.int (w + 1))] [] I J P Q := wp_inc rfl rfl dX9_closeYear_24
theorem e_X9_closeYear_27  {x0 x1 : Option Value} : Wp S N d MX9_closeYear 27 [x0, x1] [] I J P Q ↔ Wp S N d MX9_closeYear 11 [x0, x1] [] I J P Q := wp_go (len := 3) rfl (fun _ _ => rfl) rfl (by decide) dX9_closeYear_27
theorem e_X9_closeYear_30  {x0 x1 : Option Value} : Wp S N d MX9_closeYear 30 [x0, x1] [] I J P Q ↔ Wp S N d MX9_closeYear 31 [x0, x1] [.int 0] I J P Q := wp_iconst (by decide) dX9_closeYear_30
theorem e_X9_closeYear_31 {v0 : Int32} {x0 x1 : Option Value} : Wp S N d MX9_closeYear 31 [x0, x1] [.int v0] I J P Q ↔ Wp S N d MX9_closeYear 32 [kl x0, some (.int v0)] [] I J P Q := wp_sto (len := 1) rfl rfl rfl rfl (Nat.le_of_ble_eq_true rfl) rfl dX9_closeYear_31
theorem e_X9_closeYear_32 {w : Int32} {x0 : Option Value} : Wp S N d MX9_closeYear 32 [x0, some (.int w)] [] I J P Q ↔ Wp S N d MX9_closeYear 33 [x0, some (.int w)] [.int w] I J P Q := wp_lod (len := 1) rfl rfl rfl rfl dX9_closeYear_32
theorem e_X9_closeYear_33 {v0 : Int32} {x0 x1 : Option Value} : Wp S N d MX9_closeYear 33 [x0, x1] [.int v0] I J P Q ↔ Wp S N d MX9_closeYear 35 [x0, x1] [.int 6, .int v0] I J P Q := wp_bipush (by decide) dX9_closeYear_33
theorem e_X9_closeYear_35 {v0 : Int32} {v1 : Int32} {x0 x1 : Option Value} : Wp S N d MX9_closeYear 35 [x0, x1] [.int v0, .int v1] I J P Q ↔ (v0 ≤ v1 → Wp S N d MX9_closeYear 57 [x0, x1] [] I J P Q) ∧ (¬ v0 ≤ v1 → Wp S N d MX9_closeYear 38 [x0, x1] [] I J P Q) := wp_br rfl rfl (by decide) dX9_closeYear_35
theorem e_X9_closeYear_38 {w : Nat} {x1 : Option Value} : Wp S N d MX9_closeYear 38 [some (.ref w), x1] [] I J P Q ↔ Wp S N d MX9_closeYear 39 [some (.ref w), x1] [.ref w] I J P Q := wp_lod (len := 1) rfl rfl rfl rfl dX9_closeYear_38
theorem e_X9_closeYear_39 {v0 : Nat} {w : Int32} {x0 : Option Value} : Wp S N d MX9_closeYear 39 [x0, some (.int w)] [.ref v0] I J P Q ↔ Wp S N d MX9_closeYear 40 [x0, some (.int w)] [.int w, .ref v0] I J P Q := wp_lod (len := 1) rfl rfl rfl rfl dX9_closeYear_39
theorem e_X9_closeYear_40 {v0 : Int32} {v1 : Nat} {x0 x1 : Option Value} : Wp S N (d + 1) MX9_closeYear 40 [x0, x1] [.int v0, .ref v1] I J P Q ↔ S v1 = 9 ∧ CWp S N d MX9_isCounted [.ref v1, .int v0] I J P (fun r I1 J1 P1 => Wp S N (d + 1) MX9_closeYear 43 [x0, x1] (r.toList ++ []) I1 J1 P1 Q) := wp_callV (M' := MX9_isCounted) (As := [.int v0]) rfl rfl rfl rfl (by decide) (Nat.le_of_ble_eq_true rfl) dX9_closeYear_40
theorem e_X9_closeYear_43 {v0 : Int32} {x0 x1 : Option Value} : Wp S N d MX9_closeYear 43 [x0, x1] [.int v0] I J P Q ↔ (v0 = 0 → Wp S N d MX9_closeYear 51 [x0, x1] [] I J P Q) ∧ (¬ v0 = 0 → Wp S N d MX9_closeYear 46 [x0, x1] [] I J P Q) := wp_br rfl rfl (by decide) dX9_closeYear_43
theorem e_X9_closeYear_46 {w : Nat} {x1 : Option Value} : Wp S N d MX9_closeYear 46 [some (.ref w), x1] [] I J P Q ↔ Wp S N d MX9_closeYear 47 [some (.ref w), x1] [.ref w] I J P Q := wp_lod (len := 1) rfl rfl rfl rfl dX9_closeYear_46
theorem e_X9_closeYear_47 {v0 : Nat} {w : Int32} {x0 : Option Value} : Wp S N d MX9_closeYear 47 [x0, some (.int w)] [.ref v0] I J P Q ↔ Wp S N d MX9_closeYear 48 [x0, some (.int w)] [.int w, .ref v0] I J P Q := wp_lod (len := 1) rfl rfl rfl rfl dX9_closeYear_47
theorem e_X9_closeYear_48 {v0 : Int32} {v1 : Nat} {x0 x1 : Option Value} : Wp S N (d + 1) MX9_closeYear 48 [x0, x1] [.int v0, .ref v1] I J P Q ↔ S v1 = 9 ∧ CWp S N d MX9_closes [.ref v1, .int v0] I J P (fun r I1 J1 P1 => Wp S N (d + 1) MX9_closeYear 51 [x0, x1] (r.toList ++ []) I1 J1 P1 Q) := wp_callV (M' := MX9_closes) (As := [.int v0]) rfl rfl rfl rfl (by decide) (Nat.le_of_ble_eq_true rfl) dX9_closeYear_48
theorem e_X9_closeYear_51 {w : Int32} {x0 : Option Value} : Wp S N d MX9_closeYear 51 [x0, some (.int w)] [] I J P Q ↔ Wp S N d MX9_closeYear 54 [kl x0, some (.int (w + 1))] [] I J P Q := wp_inc rfl rfl dX9_closeYear_51
theorem e_X9_closeYear_54  {x0 x1 : Option Value} : Wp S N d MX9_closeYear 54 [x0, x1] [] I J P Q ↔ Wp S N d MX9_closeYear 32 [x0, x1] [] I J P Q := wp_go (len := 3) rfl (fun _ _ => rfl) rfl (by decide) dX9_closeYear_54
theorem e_X9_closeYear_57  {x0 x1 : Option Value} : Wp S N d MX9_closeYear 57 [x0, x1] [] I J P Q ↔ Wp S N d MX9_closeYear 58 [x0, x1] [.int 0] I J P Q := wp_iconst (by decide) dX9_closeYear_57
theorem e_X9_closeYear_58 {v0 : Int32} {x0 x1 : Option Value} : Wp S N d MX9_closeYear 58 [x0, x1] [.int v0] I J P Q ↔ Wp S N d MX9_closeYear 59 [kl x0, some (.int v0)] [] I J P Q := wp_sto (len := 1) rfl rfl rfl rfl (Nat.le_of_ble_eq_true rfl) rfl dX9_closeYear_58
theorem e_X9_closeYear_59 {w : Int32} {x0 : Option Value} : Wp S N d MX9_closeYear 59 [x0, some (.int w)] [] I J P Q ↔ Wp S N d MX9_closeYear 60 [x0, some (.int w)] [.int w] I J P Q := wp_lod (len := 1) rfl rfl rfl rfl dX9_closeYear_59
theorem e_X9_closeYear_60 {v0 : Int32} {x0 x1 : Option Value} : Wp S N d MX9_closeYear 60 [x0, x1] [.int v0] I J P Q ↔ Wp S N d MX9_closeYear 62 [x0, x1] [.int 36, .int v0] I J P Q := wp_bipush (by decide) dX9_closeYear_60
theorem e_X9_closeYear_62 {v0 : Int32} {v1 : Int32} {x0 x1 : Option Value} : Wp S N d MX9_closeYear 62 [x0, x1] [.int v0, .int v1] I J P Q ↔ (v0 ≤ v1 → Wp S N d MX9_closeYear 83 [x0, x1] [] I J P Q) ∧ (¬ v0 ≤ v1 → Wp S N d MX9_closeYear 65 [x0, x1] [] I J P Q) := wp_br rfl rfl (by decide) dX9_closeYear_62
theorem e_X9_closeYear_65 {w : Nat} {x1 : Option Value} : Wp S N d MX9_closeYear 65 [some (.ref w), x1] [] I J P Q ↔ Wp S N d MX9_closeYear 66 [some (.ref w), x1] [.ref w] I J P Q := wp_lod (len := 1) rfl rfl rfl rfl dX9_closeYear_65
theorem e_X9_closeYear_66 {v0 : Nat} {x0 x1 : Option Value} : Wp S N d MX9_closeYear 66 [x0, x1] [.ref v0] I J P Q ↔ S v0 = 9 ∧ Wp S N d MX9_closeYear 69 [x0, x1] [va_rf (P v0 1)] I J P Q := wp_getf rfl rfl rfl rfl dX9_closeYear_66
theorem e_X9_closeYear_69 {v0 : Nat} {w : Int32} {x0 : Option Value} : Wp S N d MX9_closeYear 69 [x0, some (.int w)] [.ref v0] I J P Q ↔ Wp S N d MX9_closeYear 70 [x0, some (.int w)] [.int w, .ref v0] I J P Q := wp_lod (len := 1) rfl rfl rfl rfl dX9_closeYear_69
theorem e_X9_closeYear_70 {v0 : Int32} {v1 : Nat} {w : Nat} {x1 : Option Value} : Wp S N d MX9_closeYear 70 [some (.ref w), x1] [.int v0, .ref v1] I J P Q ↔ Wp S N d MX9_closeYear 71 [some (.ref w), x1] [.ref w, .int v0, .ref v1] I J P Q := wp_lod (len := 1) rfl rfl rfl rfl dX9_closeYear_70
theorem e_X9_closeYear_71 {v0 : Nat} {v1 : Int32} {v2 : Nat} {x0 x1 : Option Value} : Wp S N d MX9_closeYear 71 [x0, x1] [.ref v0, .int v1, .ref v2] I J P Q ↔ S v0 = 9 ∧ Wp S N d MX9_closeYear 74 [x0, x1] [va_rf (P v0 22), .int v1, .ref v2] I J P Q := wp_getf rfl rfl rfl rfl dX9_closeYear_71
theorem e_X9_closeYear_74 {v0 : Nat} {v1 : Int32} {v2 : Nat} {w : Int32} {x0 : Option Value} : Wp S N d MX9_closeYear 74 [x0, some (.int w)] [.ref v0, .int v1, .ref v2] I J P Q ↔ Wp S N d MX9_closeYear 75 [x0, some (.int w)] [.int w, .ref v0, .int v1, .ref v2] I J P Q := wp_lod (len := 1) rfl rfl rfl rfl dX9_closeYear_74
theorem e_X9_closeYear_75 {v0 : Int32} {v1 : Nat} {v2 : Int32} {v3 : Nat} {x0 x1 : Option Value} : Wp S N d MX9_closeYear 75 [x0, x1] [.int v0, .ref v1, .int v2, .ref v3] I J P Q ↔ (S v1 = 11 ∧ vp_in v0 (N v1)) ∧ Wp S N d MX9_closeYear 76 [x0, x1] [.long (J v1 v0.toNatClampNeg), .int v2, .ref v3] I J P Q := wp_ald rfl rfl dX9_closeYear_75
theorem e_X9_closeYear_76 {v0 : Int64} {v1 : Int32} {v2 : Nat} {x0 x1 : Option Value} : Wp S N d MX9_closeYear 76 [x0, x1] [.long v0, .int v1, .ref v2] I J P Q ↔ (S v2 = 11 ∧ vp_in v1 (N v2)) ∧ Wp S N d MX9_closeYear 77 [x0, x1] [] I (u2 J v2 v1.toNatClampNeg v0) P Q := wp_ast rfl rfl dX9_closeYear_76
theorem e_X9_closeYear_77 {w : Int32} {x0 : Option Value} : Wp S N d MX9_closeYear 77 [x0, some (.int w)] [] I J P Q ↔ Wp S N d MX9_closeYear 80 [kl x0, some (.int (w + 1))] [] I J P Q := wp_inc rfl rfl dX9_closeYear_77
theorem e_X9_closeYear_80  {x0 x1 : Option Value} : Wp S N d MX9_closeYear 80 [x0, x1] [] I J P Q ↔ Wp S N d MX9_closeYear 59 [x0, x1] [] I J P Q := wp_go (len := 3) rfl (fun _ _ => rfl) rfl (by decide) dX9_closeYear_80
theorem e_X9_closeYear_83 {w : Nat} {x1 : Option Value} : Wp S N d MX9_closeYear 83 [some (.ref w), x1] [] I J P Q ↔ Wp S N d MX9_closeYear 84 [some (.ref w), x1] [.ref w] I J P Q := wp_lod (len := 1) rfl rfl rfl rfl dX9_closeYear_83
theorem e_X9_closeYear_84 {v0 : Nat} {x0 x1 : Option Value} : Wp S N d MX9_closeYear 84 [x0, x1] [.ref v0] I J P Q ↔ S v0 = 9 ∧ Wp S N d MX9_closeYear 87 [x0, x1] [va_rf (P v0 0)] I J P Q := wp_getf rfl rfl rfl rfl dX9_closeYear_84
theorem e_X9_closeYear_87 {v0 : Nat} {x0 x1 : Option Value} : Wp S N d MX9_closeYear 87 [x0, x1] [.ref v0] I J P Q ↔ Wp S N d MX9_closeYear 89 [x0, x1] [.int 88, .ref v0] I J P Q := wp_bipush (by decide) dX9_closeYear_87
theorem e_X9_closeYear_89 {v0 : Int32} {v1 : Nat} {x0 x1 : Option Value} : Wp S N d MX9_closeYear 89 [x0, x1] [.int v0, .ref v1] I J P Q ↔ Wp S N d MX9_closeYear 90 [x0, x1] [.int v0, .ref v1, .int v0, .ref v1] I J P Q := wp_alu (len := 1) rfl rfl rfl dX9_closeYear_89
theorem e_X9_closeYear_90 {v0 : Int32} {v1 : Nat} {v2 : Int32} {v3 : Nat} {x0 x1 : Option Value} : Wp S N d MX9_closeYear 90 [x0, x1] [.int v0, .ref v1, .int v2, .ref v3] I J P Q ↔ (S v1 = 10 ∧ vp_in v0 (N v1)) ∧ Wp S N d MX9_closeYear 91 [x0, x1] [.int (I v1 v0.toNatClampNeg), .int v2, .ref v3] I J P Q := wp_ald rfl rfl dX9_closeYear_90
theorem e_X9_closeYear_91 {v0 : Int32} {v1 : Int32} {v2 : Nat} {x0 x1 : Option Value} : Wp S N d MX9_closeYear 91 [x0, x1] [.int v0, .int v1, .ref v2] I J P Q ↔ Wp S N d MX9_closeYear 92 [x0, x1] [.int 1, .int v0, .int v1, .ref v2] I J P Q := wp_iconst (by decide) dX9_closeYear_91
theorem e_X9_closeYear_92 {v0 : Int32} {v1 : Int32} {v2 : Int32} {v3 : Nat} {x0 x1 : Option Value} : Wp S N d MX9_closeYear 92 [x0, x1] [.int v0, .int v1, .int v2, .ref v3] I J P Q ↔ Wp S N d MX9_closeYear 93 [x0, x1] [.int (v1 + v0), .int v2, .ref v3] I J P Q := wp_alu (len := 1) rfl rfl rfl dX9_closeYear_92
theorem e_X9_closeYear_93 {v0 : Int32} {v1 : Int32} {v2 : Nat} {x0 x1 : Option Value} : Wp S N d MX9_closeYear 93 [x0, x1] [.int v0, .int v1, .ref v2] I J P Q ↔ (S v2 = 10 ∧ vp_in v1 (N v2)) ∧ Wp S N d MX9_closeYear 94 [x0, x1] [] (u2 I v2 v1.toNatClampNeg v0) J P Q := wp_ast rfl rfl dX9_closeYear_93
theorem e_X9_closeYear_94 {w : Nat} {x1 : Option Value} : Wp S N d MX9_closeYear 94 [some (.ref w), x1] [] I J P Q ↔ Wp S N d MX9_closeYear 95 [some (.ref w), x1] [.ref w] I J P Q := wp_lod (len := 1) rfl rfl rfl rfl dX9_closeYear_94
theorem e_X9_closeYear_95 {v0 : Nat} {x0 x1 : Option Value} : Wp S N d MX9_closeYear 95 [x0, x1] [.ref v0] I J P Q ↔ S v0 = 9 ∧ Wp S N d MX9_closeYear 98 [x0, x1] [va_rf (P v0 0)] I J P Q := wp_getf rfl rfl rfl rfl dX9_closeYear_95
theorem e_X9_closeYear_98 {v0 : Nat} {x0 x1 : Option Value} : Wp S N d MX9_closeYear 98 [x0, x1] [.ref v0] I J P Q ↔ Wp S N d MX9_closeYear 100 [x0, x1] [.int 88, .ref v0] I J P Q := wp_bipush (by decide) dX9_closeYear_98
theorem e_X9_closeYear_100 {v0 : Int32} {v1 : Nat} {x0 x1 : Option Value} : Wp S N d MX9_closeYear 100 [x0, x1] [.int v0, .ref v1] I J P Q ↔ (S v1 = 10 ∧ vp_in v0 (N v1)) ∧ Wp S N d MX9_closeYear 101 [x0, x1] [.int (I v1 v0.toNatClampNeg)] I J P Q := wp_ald rfl rfl dX9_closeYear_100
theorem e_X9_closeYear_101 {v0 : Int32} {x0 x1 : Option Value} : Wp S N d MX9_closeYear 101 [x0, x1] [.int v0] I J P Q ↔ Q (some (.int v0)) I J P := wp_iret rfl dX9_closeYear_101
theorem dX9_years_0 : decode cX9_years 0 = .ok (.aload_n 0, 1) := by decide +kernel
theorem dX9_years_1 : decode cX9_years 1 = .ok (.iconst 0, 1) := by decide +kernel
theorem dX9_years_2 : decode cX9_years 2 = .ok (.putfield 57, 3) := by decide +kernel
theorem dX9_years_5 : decode cX9_years 5 = .ok (.aload_n 0, 1) := by decide +kernel
theorem dX9_years_6 : decode cX9_years 6 = .ok (.getfield 7, 3) := by decide +kernel
theorem dX9_years_9 : decode cX9_years 9 = .ok (.bipush 88, 2) := by decide +kernel
theorem dX9_years_11 : decode cX9_years 11 = .ok (.iaload, 1) := by decide +kernel
theorem dX9_years_12 : decode cX9_years 12 = .ok (.ireturn, 1) := by decide +kernel
theorem c_X9_years {a0 : Nat} : CWp S N d MX9_years [.ref a0] I J P Q ↔ Wp S N d MX9_years 0 [some (.ref a0)] [] I J P Q := by
  rw [cwp_iff]
  exact ⟨fun h => h.2, fun h => ⟨Nat.le_of_ble_eq_true rfl, h⟩⟩
theorem e_X9_years_0 {w : Nat} : Wp S N d MX9_years 0 [some (.ref w)] [] I J P Q ↔ Wp S N d MX9_years 1 [some (.ref w)] [.ref w] I J P Q := wp_lod (len := 1) rfl rfl rfl rfl dX9_years_0
theorem e_X9_years_1 {v0 : Nat} {x0 : Option Value} : Wp S N d MX9_years 1 [x0] [.ref v0] I J P Q ↔ Wp S N d MX9_years 2 [x0] [.int 0, .ref v0] I J P Q := wp_iconst (by decide) dX9_years_1
theorem e_X9_years_2 {v0 : Int32} {v1 : Nat} {x0 : Option Value} : Wp S N d MX9_years 2 [x0] [.int v0, .ref v1] I J P Q ↔ S v1 = 9 ∧ Wp S N d MX9_years 5 [x0] [] (u2 I v1 8 v0) J P Q := wp_putI rfl rfl rfl rfl dX9_years_2
theorem e_X9_years_5 {w : Nat} : Wp S N d MX9_years 5 [some (.ref w)] [] I J P Q ↔ Wp S N d MX9_years 6 [some (.ref w)] [.ref w] I J P Q := wp_lod (len := 1) rfl rfl rfl rfl dX9_years_5
theorem e_X9_years_6 {v0 : Nat} {x0 : Option Value} : Wp S N d MX9_years 6 [x0] [.ref v0] I J P Q ↔ S v0 = 9 ∧ Wp S N d MX9_years 9 [x0] [va_rf (P v0 0)] I J P Q := wp_getf rfl rfl rfl rfl dX9_years_6
theorem e_X9_years_9 {v0 : Nat} {x0 : Option Value} : Wp S N d MX9_years 9 [x0] [.ref v0] I J P Q ↔ Wp S N d MX9_years 11 [x0] [.int 88, .ref v0] I J P Q := wp_bipush (by decide) dX9_years_9
theorem e_X9_years_11 {v0 : Int32} {v1 : Nat} {x0 : Option Value} : Wp S N d MX9_years 11 [x0] [.int v0, .ref v1] I J P Q ↔ (S v1 = 10 ∧ vp_in v0 (N v1)) ∧ Wp S N d MX9_years 12 [x0] [.int (I v1 v0.toNatClampNeg)] I J P Q := wp_ald rfl rfl dX9_years_11
theorem e_X9_years_12 {v0 : Int32} {x0 : Option Value} : Wp S N d MX9_years 12 [x0] [.int v0] I J P Q ↔ Q (some (.int v0)) I J P := wp_iret rfl dX9_years_12
theorem dX9_taxAt_0 : decode cX9_taxAt 0 = .ok (.aload_n 0, 1) := by decide +kernel
theorem dX9_taxAt_1 : decode cX9_taxAt 1 = .ok (.iload_n 1, 1) := by decide +kernel
theorem dX9_taxAt_2 : decode cX9_taxAt 2 = .ok (.iload_n 2, 1) := by decide +kernel
theorem dX9_taxAt_3 : decode cX9_taxAt 3 = .ok (.aload_n 0, 1) := by decide +kernel
theorem dX9_taxAt_4 : decode cX9_taxAt 4 = .ok (.iload_n 1, 1) := by decide +kernel
theorem dX9_taxAt_5 : decode cX9_taxAt 5 = .ok (.iconst 2, 1) := by decide +kernel
theorem dX9_taxAt_6 : decode cX9_taxAt 6 = .ok (.invokevirtual 143, 3) := by decide +kernel
theorem dX9_taxAt_9 : decode cX9_taxAt 9 = .ok (.invokevirtual 184, 3) := by decide +kernel
theorem dX9_taxAt_12 : decode cX9_taxAt 12 = .ok (.lreturn, 1) := by decide +kernel
theorem c_X9_taxAt {a0 : Nat} {a1 : Int32} {a2 : Int32} : CWp S N d MX9_taxAt [.ref a0, .int a1, .int a2] I J P Q ↔ Wp S N d MX9_taxAt 0 [some (.ref a0), some (.int a1), some (.int a2)] [] I J P Q := by
  rw [cwp_iff]
  exact ⟨fun h => h.2, fun h => ⟨Nat.le_of_ble_eq_true rfl, h⟩⟩
theorem e_X9_taxAt_0 {w : Nat} {x1 x2 : Option Value} : Wp S N d MX9_taxAt 0 [some (.ref w), x1, x2] [] I J P Q ↔ Wp S N d MX9_taxAt 1 [some (.ref w), x1, x2] [.ref w] I J P Q := wp_lod (len := 1) rfl rfl rfl rfl dX9_taxAt_0
theorem e_X9_taxAt_1 {v0 : Nat} {w : Int32} {x0 x2 : Option Value} : Wp S N d MX9_taxAt 1 [x0, some (.int w), x2] [.ref v0] I J P Q ↔ Wp S N d MX9_taxAt 2 [x0, some (.int w), x2] [.int w, .ref v0] I J P Q := wp_lod (len := 1) rfl rfl rfl rfl dX9_taxAt_1
theorem e_X9_taxAt_2 {v0 : Int32} {v1 : Nat} {w : Int32} {x0 x1 : Option Value} : Wp S N d MX9_taxAt 2 [x0, x1, some (.int w)] [.int v0, .ref v1] I J P Q ↔ Wp S N d MX9_taxAt 3 [x0, x1, some (.int w)] [.int w, .int v0, .ref v1] I J P Q := wp_lod (len := 1) rfl rfl rfl rfl dX9_taxAt_2
theorem e_X9_taxAt_3 {v0 : Int32} {v1 : Int32} {v2 : Nat} {w : Nat} {x1 x2 : Option Value} : Wp S N d MX9_taxAt 3 [some (.ref w), x1, x2] [.int v0, .int v1, .ref v2] I J P Q ↔ Wp S N d MX9_taxAt 4 [some (.ref w), x1, x2] [.ref w, .int v0, .int v1, .ref v2] I J P Q := wp_lod (len := 1) rfl rfl rfl rfl dX9_taxAt_3
theorem e_X9_taxAt_4 {v0 : Nat} {v1 : Int32} {v2 : Int32} {v3 : Nat} {w : Int32} {x0 x2 : Option Value} : Wp S N d MX9_taxAt 4 [x0, some (.int w), x2] [.ref v0, .int v1, .int v2, .ref v3] I J P Q ↔ Wp S N d MX9_taxAt 5 [x0, some (.int w), x2] [.int w, .ref v0, .int v1, .int v2, .ref v3] I J P Q := wp_lod (len := 1) rfl rfl rfl rfl dX9_taxAt_4
theorem e_X9_taxAt_5 {v0 : Int32} {v1 : Nat} {v2 : Int32} {v3 : Int32} {v4 : Nat} {x0 x1 x2 : Option Value} : Wp S N d MX9_taxAt 5 [x0, x1, x2] [.int v0, .ref v1, .int v2, .int v3, .ref v4] I J P Q ↔ Wp S N d MX9_taxAt 6 [x0, x1, x2] [.int 2, .int v0, .ref v1, .int v2, .int v3, .ref v4] I J P Q := wp_iconst (by decide) dX9_taxAt_5
theorem e_X9_taxAt_6 {v0 : Int32} {v1 : Int32} {v2 : Nat} {v3 : Int32} {v4 : Int32} {v5 : Nat} {x0 x1 x2 : Option Value} : Wp S N (d + 1) MX9_taxAt 6 [x0, x1, x2] [.int v0, .int v1, .ref v2, .int v3, .int v4, .ref v5] I J P Q ↔ S v2 = 9 ∧ CWp S N d MX9_of [.ref v2, .int v1, .int v0] I J P (fun r I1 J1 P1 => Wp S N (d + 1) MX9_taxAt 9 [x0, x1, x2] (r.toList ++ [.int v3, .int v4, .ref v5]) I1 J1 P1 Q) := wp_callV (M' := MX9_of) (As := [.int v1, .int v0]) rfl rfl rfl rfl (by decide) (Nat.le_of_ble_eq_true rfl) dX9_taxAt_6
theorem e_X9_taxAt_9 {v0 : Int32} {v1 : Int32} {v2 : Int32} {v3 : Nat} {x0 x1 x2 : Option Value} : Wp S N (d + 1) MX9_taxAt 9 [x0, x1, x2] [.int v0, .int v1, .int v2, .ref v3] I J P Q ↔ S v3 = 9 ∧ CWp S N d MX9_alone [.ref v3, .int v2, .int v1, .int v0] I J P (fun r I1 J1 P1 => Wp S N (d + 1) MX9_taxAt 12 [x0, x1, x2] (r.toList ++ []) I1 J1 P1 Q) := wp_callV (M' := MX9_alone) (As := [.int v2, .int v1, .int v0]) rfl rfl rfl rfl (by decide) (Nat.le_of_ble_eq_true rfl) dX9_taxAt_9
theorem e_X9_taxAt_12 {v0 : Int64} {x0 x1 x2 : Option Value} : Wp S N d MX9_taxAt 12 [x0, x1, x2] [.long v0] I J P Q ↔ Q (some (.long v0)) I J P := wp_lret rfl dX9_taxAt_12
theorem dX9_curve_0 : decode cX9_curve 0 = .ok (.aload_n 0, 1) := by decide +kernel
theorem dX9_curve_1 : decode cX9_curve 1 = .ok (.iload_n 1, 1) := by decide +kernel
theorem dX9_curve_2 : decode cX9_curve 2 = .ok (.invokestatic 140, 3) := by decide +kernel
theorem dX9_curve_5 : decode cX9_curve 5 = .ok (.ifCond .eq 22, 3) := by decide +kernel
theorem dX9_curve_8 : decode cX9_curve 8 = .ok (.iload_n 2, 1) := by decide +kernel
theorem dX9_curve_9 : decode cX9_curve 9 = .ok (.iconst 0, 1) := by decide +kernel
theorem dX9_curve_10 : decode cX9_curve 10 = .ok (.sipush 9999, 3) := by decide +kernel
theorem dX9_curve_13 : decode cX9_curve 13 = .ok (.invokestatic 60, 3) := by decide +kernel
theorem dX9_curve_16 : decode cX9_curve 16 = .ok (.ifCond .eq 7, 3) := by decide +kernel
theorem dX9_curve_19 : decode cX9_curve 19 = .ok (.iconst 0, 1) := by decide +kernel
theorem dX9_curve_20 : decode cX9_curve 20 = .ok (.goto 8, 3) := by decide +kernel
theorem dX9_curve_23 : decode cX9_curve 23 = .ok (.iconst 2, 1) := by decide +kernel
theorem dX9_curve_24 : decode cX9_curve 24 = .ok (.goto 4, 3) := by decide +kernel
theorem dX9_curve_27 : decode cX9_curve 27 = .ok (.iconst 1, 1) := by decide +kernel
theorem dX9_curve_28 : decode cX9_curve 28 = .ok (.putfield 57, 3) := by decide +kernel
theorem dX9_curve_31 : decode cX9_curve 31 = .ok (.aload_n 0, 1) := by decide +kernel
theorem dX9_curve_32 : decode cX9_curve 32 = .ok (.getfield 57, 3) := by decide +kernel
theorem dX9_curve_35 : decode cX9_curve 35 = .ok (.ifCond .le 7, 3) := by decide +kernel
theorem dX9_curve_38 : decode cX9_curve 38 = .ok (.lconst 0, 1) := by decide +kernel
theorem dX9_curve_39 : decode cX9_curve 39 = .ok (.goto 9, 3) := by decide +kernel
theorem dX9_curve_42 : decode cX9_curve 42 = .ok (.aload_n 0, 1) := by decide +kernel
theorem dX9_curve_43 : decode cX9_curve 43 = .ok (.iload_n 1, 1) := by decide +kernel
theorem dX9_curve_44 : decode cX9_curve 44 = .ok (.iload_n 2, 1) := by decide +kernel
theorem dX9_curve_45 : decode cX9_curve 45 = .ok (.invokevirtual 221, 3) := by decide +kernel
theorem dX9_curve_48 : decode cX9_curve 48 = .ok (.lreturn, 1) := by decide +kernel
theorem c_X9_curve {a0 : Nat} {a1 : Int32} {a2 : Int32} : CWp S N d MX9_curve [.ref a0, .int a1, .int a2] I J P Q ↔ Wp S N d MX9_curve 0 [some (.ref a0), some (.int a1), some (.int a2)] [] I J P Q := by
  rw [cwp_iff]
  exact ⟨fun h => h.2, fun h => ⟨Nat.le_of_ble_eq_true rfl, h⟩⟩
theorem e_X9_curve_0 {w : Nat} {x1 x2 : Option Value} : Wp S N d MX9_curve 0 [some (.ref w), x1, x2] [] I J P Q ↔ Wp S N d MX9_curve 1 [some (.ref w), x1, x2] [.ref w] I J P Q := wp_lod (len := 1) rfl rfl rfl rfl dX9_curve_0
theorem e_X9_curve_1 {v0 : Nat} {w : Int32} {x0 x2 : Option Value} : Wp S N d MX9_curve 1 [x0, some (.int w), x2] [.ref v0] I J P Q ↔ Wp S N d MX9_curve 2 [x0, some (.int w), x2] [.int w, .ref v0] I J P Q := wp_lod (len := 1) rfl rfl rfl rfl dX9_curve_1
theorem e_X9_curve_2 {v0 : Int32} {v1 : Nat} {x0 x1 x2 : Option Value} : Wp S N (d + 1) MX9_curve 2 [x0, x1, x2] [.int v0, .ref v1] I J P Q ↔ CWp S N d MX9_isPerson [.int v0] I J P (fun r I1 J1 P1 => Wp S N (d + 1) MX9_curve 5 [x0, x1, x2] (r.toList ++ [.ref v1]) I1 J1 P1 Q) := wp_callS (M' := MX9_isPerson) (As := [.int v0]) rfl rfl rfl rfl (Nat.le_of_ble_eq_true rfl) dX9_curve_2
theorem e_X9_curve_5 {v0 : Int32} {v1 : Nat} {x0 x1 x2 : Option Value} : Wp S N d MX9_curve 5 [x0, x1, x2] [.int v0, .ref v1] I J P Q ↔ (v0 = 0 → Wp S N d MX9_curve 27 [x0, x1, x2] [.ref v1] I J P Q) ∧ (¬ v0 = 0 → Wp S N d MX9_curve 8 [x0, x1, x2] [.ref v1] I J P Q) := wp_br rfl rfl (by decide) dX9_curve_5
theorem e_X9_curve_8 {v0 : Nat} {w : Int32} {x0 x1 : Option Value} : Wp S N d MX9_curve 8 [x0, x1, some (.int w)] [.ref v0] I J P Q ↔ Wp S N d MX9_curve 9 [x0, x1, some (.int w)] [.int w, .ref v0] I J P Q := wp_lod (len := 1) rfl rfl rfl rfl dX9_curve_8
theorem e_X9_curve_9 {v0 : Int32} {v1 : Nat} {x0 x1 x2 : Option Value} : Wp S N d MX9_curve 9 [x0, x1, x2] [.int v0, .ref v1] I J P Q ↔ Wp S N d MX9_curve 10 [x0, x1, x2] [.int 0, .int v0, .ref v1] I J P Q := wp_iconst (by decide) dX9_curve_9
theorem e_X9_curve_10 {v0 : Int32} {v1 : Int32} {v2 : Nat} {x0 x1 x2 : Option Value} : Wp S N d MX9_curve 10 [x0, x1, x2] [.int v0, .int v1, .ref v2] I J P Q ↔ Wp S N d MX9_curve 13 [x0, x1, x2] [.int 9999, .int v0, .int v1, .ref v2] I J P Q := wp_sipush (by decide) dX9_curve_10
theorem e_X9_curve_13 {v0 : Int32} {v1 : Int32} {v2 : Int32} {v3 : Nat} {x0 x1 x2 : Option Value} : Wp S N (d + 1) MX9_curve 13 [x0, x1, x2] [.int v0, .int v1, .int v2, .ref v3] I J P Q ↔ CWp S N d MX9_in [.int v2, .int v1, .int v0] I J P (fun r I1 J1 P1 => Wp S N (d + 1) MX9_curve 16 [x0, x1, x2] (r.toList ++ [.ref v3]) I1 J1 P1 Q) := wp_callS (M' := MX9_in) (As := [.int v2, .int v1, .int v0]) rfl rfl rfl rfl (Nat.le_of_ble_eq_true rfl) dX9_curve_13
theorem e_X9_curve_16 {v0 : Int32} {v1 : Nat} {x0 x1 x2 : Option Value} : Wp S N d MX9_curve 16 [x0, x1, x2] [.int v0, .ref v1] I J P Q ↔ (v0 = 0 → Wp S N d MX9_curve 23 [x0, x1, x2] [.ref v1] I J P Q) ∧ (¬ v0 = 0 → Wp S N d MX9_curve 19 [x0, x1, x2] [.ref v1] I J P Q) := wp_br rfl rfl (by decide) dX9_curve_16
theorem e_X9_curve_19 {v0 : Nat} {x0 x1 x2 : Option Value} : Wp S N d MX9_curve 19 [x0, x1, x2] [.ref v0] I J P Q ↔ Wp S N d MX9_curve 20 [x0, x1, x2] [.int 0, .ref v0] I J P Q := wp_iconst (by decide) dX9_curve_19
theorem e_X9_curve_20 {v0 : Int32} {v1 : Nat} {x0 x1 x2 : Option Value} : Wp S N d MX9_curve 20 [x0, x1, x2] [.int v0, .ref v1] I J P Q ↔ Wp S N d MX9_curve 28 [x0, x1, x2] [.int v0, .ref v1] I J P Q := wp_go (len := 3) rfl (fun _ _ => rfl) rfl (by decide) dX9_curve_20
theorem e_X9_curve_23 {v0 : Nat} {x0 x1 x2 : Option Value} : Wp S N d MX9_curve 23 [x0, x1, x2] [.ref v0] I J P Q ↔ Wp S N d MX9_curve 24 [x0, x1, x2] [.int 2, .ref v0] I J P Q := wp_iconst (by decide) dX9_curve_23
theorem e_X9_curve_24 {v0 : Int32} {v1 : Nat} {x0 x1 x2 : Option Value} : Wp S N d MX9_curve 24 [x0, x1, x2] [.int v0, .ref v1] I J P Q ↔ Wp S N d MX9_curve 28 [x0, x1, x2] [.int v0, .ref v1] I J P Q := wp_go (len := 3) rfl (fun _ _ => rfl) rfl (by decide) dX9_curve_24
theorem e_X9_curve_27 {v0 : Nat} {x0 x1 x2 : Option Value} : Wp S N d MX9_curve 27 [x0, x1, x2] [.ref v0] I J P Q ↔ Wp S N d MX9_curve 28 [x0, x1, x2] [.int 1, .ref v0] I J P Q := wp_iconst (by decide) dX9_curve_27
theorem e_X9_curve_28 {v0 : Int32} {v1 : Nat} {x0 x1 x2 : Option Value} : Wp S N d MX9_curve 28 [x0, x1, x2] [.int v0, .ref v1] I J P Q ↔ S v1 = 9 ∧ Wp S N d MX9_curve 31 [x0, x1, x2] [] (u2 I v1 8 v0) J P Q := wp_putI rfl rfl rfl rfl dX9_curve_28
theorem e_X9_curve_31 {w : Nat} {x1 x2 : Option Value} : Wp S N d MX9_curve 31 [some (.ref w), x1, x2] [] I J P Q ↔ Wp S N d MX9_curve 32 [some (.ref w), x1, x2] [.ref w] I J P Q := wp_lod (len := 1) rfl rfl rfl rfl dX9_curve_31
theorem e_X9_curve_32 {v0 : Nat} {x0 x1 x2 : Option Value} : Wp S N d MX9_curve 32 [x0, x1, x2] [.ref v0] I J P Q ↔ S v0 = 9 ∧ Wp S N d MX9_curve 35 [x0, x1, x2] [.int (I v0 8)] I J P Q := wp_getf rfl rfl rfl rfl dX9_curve_32
theorem e_X9_curve_35 {v0 : Int32} {x0 x1 x2 : Option Value} : Wp S N d MX9_curve 35 [x0, x1, x2] [.int v0] I J P Q ↔ (v0 ≤ 0 → Wp S N d MX9_curve 42 [x0, x1, x2] [] I J P Q) ∧ (¬ v0 ≤ 0 → Wp S N d MX9_curve 38 [x0, x1, x2] [] I J P Q) := wp_br rfl rfl (by decide) dX9_curve_35
theorem e_X9_curve_38  {x0 x1 x2 : Option Value} : Wp S N d MX9_curve 38 [x0, x1, x2] [] I J P Q ↔ Wp S N d MX9_curve 39 [x0, x1, x2] [.long 0] I J P Q := wp_lconst (by decide) dX9_curve_38
theorem e_X9_curve_39 {v0 : Int64} {x0 x1 x2 : Option Value} : Wp S N d MX9_curve 39 [x0, x1, x2] [.long v0] I J P Q ↔ Wp S N d MX9_curve 48 [x0, x1, x2] [.long v0] I J P Q := wp_go (len := 3) rfl (fun _ _ => rfl) rfl (by decide) dX9_curve_39
theorem e_X9_curve_42 {w : Nat} {x1 x2 : Option Value} : Wp S N d MX9_curve 42 [some (.ref w), x1, x2] [] I J P Q ↔ Wp S N d MX9_curve 43 [some (.ref w), x1, x2] [.ref w] I J P Q := wp_lod (len := 1) rfl rfl rfl rfl dX9_curve_42
theorem e_X9_curve_43 {v0 : Nat} {w : Int32} {x0 x2 : Option Value} : Wp S N d MX9_curve 43 [x0, some (.int w), x2] [.ref v0] I J P Q ↔ Wp S N d MX9_curve 44 [x0, some (.int w), x2] [.int w, .ref v0] I J P Q := wp_lod (len := 1) rfl rfl rfl rfl dX9_curve_43
theorem e_X9_curve_44 {v0 : Int32} {v1 : Nat} {w : Int32} {x0 x1 : Option Value} : Wp S N d MX9_curve 44 [x0, x1, some (.int w)] [.int v0, .ref v1] I J P Q ↔ Wp S N d MX9_curve 45 [x0, x1, some (.int w)] [.int w, .int v0, .ref v1] I J P Q := wp_lod (len := 1) rfl rfl rfl rfl dX9_curve_44
theorem e_X9_curve_45 {v0 : Int32} {v1 : Int32} {v2 : Nat} {x0 x1 x2 : Option Value} : Wp S N (d + 1) MX9_curve 45 [x0, x1, x2] [.int v0, .int v1, .ref v2] I J P Q ↔ S v2 = 9 ∧ CWp S N d MX9_taxAt [.ref v2, .int v1, .int v0] I J P (fun r I1 J1 P1 => Wp S N (d + 1) MX9_curve 48 [x0, x1, x2] (r.toList ++ []) I1 J1 P1 Q) := wp_callV (M' := MX9_taxAt) (As := [.int v1, .int v0]) rfl rfl rfl rfl (by decide) (Nat.le_of_ble_eq_true rfl) dX9_curve_45
theorem e_X9_curve_48 {v0 : Int64} {x0 x1 x2 : Option Value} : Wp S N d MX9_curve 48 [x0, x1, x2] [.long v0] I J P Q ↔ Q (some (.long v0)) I J P := wp_lret rfl dX9_curve_48
theorem dX9_marginal_0 : decode cX9_marginal 0 = .ok (.aload_n 0, 1) := by decide +kernel
theorem dX9_marginal_1 : decode cX9_marginal 1 = .ok (.iload_n 1, 1) := by decide +kernel
theorem dX9_marginal_2 : decode cX9_marginal 2 = .ok (.iload_n 2, 1) := by decide +kernel
theorem dX9_marginal_3 : decode cX9_marginal 3 = .ok (.iconst 1, 1) := by decide +kernel
theorem dX9_marginal_4 : decode cX9_marginal 4 = .ok (.iadd, 1) := by decide +kernel
theorem dX9_marginal_5 : decode cX9_marginal 5 = .ok (.invokevirtual 221, 3) := by decide +kernel
theorem dX9_marginal_8 : decode cX9_marginal 8 = .ok (.aload_n 0, 1) := by decide +kernel
theorem dX9_marginal_9 : decode cX9_marginal 9 = .ok (.iload_n 1, 1) := by decide +kernel
theorem dX9_marginal_10 : decode cX9_marginal 10 = .ok (.iload_n 2, 1) := by decide +kernel
theorem dX9_marginal_11 : decode cX9_marginal 11 = .ok (.invokevirtual 221, 3) := by decide +kernel
theorem dX9_marginal_14 : decode cX9_marginal 14 = .ok (.lsub, 1) := by decide +kernel
theorem dX9_marginal_15 : decode cX9_marginal 15 = .ok (.lreturn, 1) := by decide +kernel
theorem c_X9_marginal {a0 : Nat} {a1 : Int32} {a2 : Int32} : CWp S N d MX9_marginal [.ref a0, .int a1, .int a2] I J P Q ↔ Wp S N d MX9_marginal 0 [some (.ref a0), some (.int a1), some (.int a2)] [] I J P Q := by
  rw [cwp_iff]
  exact ⟨fun h => h.2, fun h => ⟨Nat.le_of_ble_eq_true rfl, h⟩⟩
theorem e_X9_marginal_0 {w : Nat} {x1 x2 : Option Value} : Wp S N d MX9_marginal 0 [some (.ref w), x1, x2] [] I J P Q ↔ Wp S N d MX9_marginal 1 [some (.ref w), x1, x2] [.ref w] I J P Q := wp_lod (len := 1) rfl rfl rfl rfl dX9_marginal_0
theorem e_X9_marginal_1 {v0 : Nat} {w : Int32} {x0 x2 : Option Value} : Wp S N d MX9_marginal 1 [x0, some (.int w), x2] [.ref v0] I J P Q ↔ Wp S N d MX9_marginal 2 [x0, some (.int w), x2] [.int w, .ref v0] I J P Q := wp_lod (len := 1) rfl rfl rfl rfl dX9_marginal_1
theorem e_X9_marginal_2 {v0 : Int32} {v1 : Nat} {w : Int32} {x0 x1 : Option Value} : Wp S N d MX9_marginal 2 [x0, x1, some (.int w)] [.int v0, .ref v1] I J P Q ↔ Wp S N d MX9_marginal 3 [x0, x1, some (.int w)] [.int w, .int v0, .ref v1] I J P Q := wp_lod (len := 1) rfl rfl rfl rfl dX9_marginal_2
theorem e_X9_marginal_3 {v0 : Int32} {v1 : Int32} {v2 : Nat} {x0 x1 x2 : Option Value} : Wp S N d MX9_marginal 3 [x0, x1, x2] [.int v0, .int v1, .ref v2] I J P Q ↔ Wp S N d MX9_marginal 4 [x0, x1, x2] [.int 1, .int v0, .int v1, .ref v2] I J P Q := wp_iconst (by decide) dX9_marginal_3
theorem e_X9_marginal_4 {v0 : Int32} {v1 : Int32} {v2 : Int32} {v3 : Nat} {x0 x1 x2 : Option Value} : Wp S N d MX9_marginal 4 [x0, x1, x2] [.int v0, .int v1, .int v2, .ref v3] I J P Q ↔ Wp S N d MX9_marginal 5 [x0, x1, x2] [.int (v1 + v0), .int v2, .ref v3] I J P Q := wp_alu (len := 1) rfl rfl rfl dX9_marginal_4
theorem e_X9_marginal_5 {v0 : Int32} {v1 : Int32} {v2 : Nat} {x0 x1 x2 : Option Value} : Wp S N (d + 1) MX9_marginal 5 [x0, x1, x2] [.int v0, .int v1, .ref v2] I J P Q ↔ S v2 = 9 ∧ CWp S N d MX9_taxAt [.ref v2, .int v1, .int v0] I J P (fun r I1 J1 P1 => Wp S N (d + 1) MX9_marginal 8 [x0, x1, x2] (r.toList ++ []) I1 J1 P1 Q) := wp_callV (M' := MX9_taxAt) (As := [.int v1, .int v0]) rfl rfl rfl rfl (by decide) (Nat.le_of_ble_eq_true rfl) dX9_marginal_5
theorem e_X9_marginal_8 {v0 : Int64} {w : Nat} {x1 x2 : Option Value} : Wp S N d MX9_marginal 8 [some (.ref w), x1, x2] [.long v0] I J P Q ↔ Wp S N d MX9_marginal 9 [some (.ref w), x1, x2] [.ref w, .long v0] I J P Q := wp_lod (len := 1) rfl rfl rfl rfl dX9_marginal_8
theorem e_X9_marginal_9 {v0 : Nat} {v1 : Int64} {w : Int32} {x0 x2 : Option Value} : Wp S N d MX9_marginal 9 [x0, some (.int w), x2] [.ref v0, .long v1] I J P Q ↔ Wp S N d MX9_marginal 10 [x0, some (.int w), x2] [.int w, .ref v0, .long v1] I J P Q := wp_lod (len := 1) rfl rfl rfl rfl dX9_marginal_9
theorem e_X9_marginal_10 {v0 : Int32} {v1 : Nat} {v2 : Int64} {w : Int32} {x0 x1 : Option Value} : Wp S N d MX9_marginal 10 [x0, x1, some (.int w)] [.int v0, .ref v1, .long v2] I J P Q ↔ Wp S N d MX9_marginal 11 [x0, x1, some (.int w)] [.int w, .int v0, .ref v1, .long v2] I J P Q := wp_lod (len := 1) rfl rfl rfl rfl dX9_marginal_10
theorem e_X9_marginal_11 {v0 : Int32} {v1 : Int32} {v2 : Nat} {v3 : Int64} {x0 x1 x2 : Option Value} : Wp S N (d + 1) MX9_marginal 11 [x0, x1, x2] [.int v0, .int v1, .ref v2, .long v3] I J P Q ↔ S v2 = 9 ∧ CWp S N d MX9_taxAt [.ref v2, .int v1, .int v0] I J P (fun r I1 J1 P1 => Wp S N (d + 1) MX9_marginal 14 [x0, x1, x2] (r.toList ++ [.long v3]) I1 J1 P1 Q) := wp_callV (M' := MX9_taxAt) (As := [.int v1, .int v0]) rfl rfl rfl rfl (by decide) (Nat.le_of_ble_eq_true rfl) dX9_marginal_11
theorem e_X9_marginal_14 {v0 : Int64} {v1 : Int64} {x0 x1 x2 : Option Value} : Wp S N d MX9_marginal 14 [x0, x1, x2] [.long v0, .long v1] I J P Q ↔ Wp S N d MX9_marginal 15 [x0, x1, x2] [.long (v1 - v0)] I J P Q := wp_alu (len := 1) rfl rfl rfl dX9_marginal_14
theorem e_X9_marginal_15 {v0 : Int64} {x0 x1 x2 : Option Value} : Wp S N d MX9_marginal 15 [x0, x1, x2] [.long v0] I J P Q ↔ Q (some (.long v0)) I J P := wp_lret rfl dX9_marginal_15
theorem dX9_marginalRate_0 : decode cX9_marginalRate 0 = .ok (.aload_n 0, 1) := by decide +kernel
theorem dX9_marginalRate_1 : decode cX9_marginalRate 1 = .ok (.iload_n 1, 1) := by decide +kernel
theorem dX9_marginalRate_2 : decode cX9_marginalRate 2 = .ok (.invokestatic 140, 3) := by decide +kernel
theorem dX9_marginalRate_5 : decode cX9_marginalRate 5 = .ok (.ifCond .eq 22, 3) := by decide +kernel
theorem dX9_marginalRate_8 : decode cX9_marginalRate 8 = .ok (.iload_n 2, 1) := by decide +kernel
theorem dX9_marginalRate_9 : decode cX9_marginalRate 9 = .ok (.iconst 0, 1) := by decide +kernel
theorem dX9_marginalRate_10 : decode cX9_marginalRate 10 = .ok (.sipush 9998, 3) := by decide +kernel
theorem dX9_marginalRate_13 : decode cX9_marginalRate 13 = .ok (.invokestatic 60, 3) := by decide +kernel
theorem dX9_marginalRate_16 : decode cX9_marginalRate 16 = .ok (.ifCond .eq 7, 3) := by decide +kernel
theorem dX9_marginalRate_19 : decode cX9_marginalRate 19 = .ok (.iconst 0, 1) := by decide +kernel
theorem dX9_marginalRate_20 : decode cX9_marginalRate 20 = .ok (.goto 8, 3) := by decide +kernel
theorem dX9_marginalRate_23 : decode cX9_marginalRate 23 = .ok (.iconst 2, 1) := by decide +kernel
theorem dX9_marginalRate_24 : decode cX9_marginalRate 24 = .ok (.goto 4, 3) := by decide +kernel
theorem dX9_marginalRate_27 : decode cX9_marginalRate 27 = .ok (.iconst 1, 1) := by decide +kernel
theorem dX9_marginalRate_28 : decode cX9_marginalRate 28 = .ok (.putfield 57, 3) := by decide +kernel
theorem dX9_marginalRate_31 : decode cX9_marginalRate 31 = .ok (.aload_n 0, 1) := by decide +kernel
theorem dX9_marginalRate_32 : decode cX9_marginalRate 32 = .ok (.getfield 57, 3) := by decide +kernel
theorem dX9_marginalRate_35 : decode cX9_marginalRate 35 = .ok (.ifCond .le 7, 3) := by decide +kernel
theorem dX9_marginalRate_38 : decode cX9_marginalRate 38 = .ok (.lconst 0, 1) := by decide +kernel
theorem dX9_marginalRate_39 : decode cX9_marginalRate 39 = .ok (.goto 9, 3) := by decide +kernel
theorem dX9_marginalRate_42 : decode cX9_marginalRate 42 = .ok (.aload_n 0, 1) := by decide +kernel
theorem dX9_marginalRate_43 : decode cX9_marginalRate 43 = .ok (.iload_n 1, 1) := by decide +kernel
theorem dX9_marginalRate_44 : decode cX9_marginalRate 44 = .ok (.iload_n 2, 1) := by decide +kernel
theorem dX9_marginalRate_45 : decode cX9_marginalRate 45 = .ok (.invokevirtual 224, 3) := by decide +kernel
theorem dX9_marginalRate_48 : decode cX9_marginalRate 48 = .ok (.lreturn, 1) := by decide +kernel
theorem c_X9_marginalRate {a0 : Nat} {a1 : Int32} {a2 : Int32} : CWp S N d MX9_marginalRate [.ref a0, .int a1, .int a2] I J P Q ↔ Wp S N d MX9_marginalRate 0 [some (.ref a0), some (.int a1), some (.int a2)] [] I J P Q := by
  rw [cwp_iff]
  exact ⟨fun h => h.2, fun h => ⟨Nat.le_of_ble_eq_true rfl, h⟩⟩
theorem e_X9_marginalRate_0 {w : Nat} {x1 x2 : Option Value} : Wp S N d MX9_marginalRate 0 [some (.ref w), x1, x2] [] I J P Q ↔ Wp S N d MX9_marginalRate 1 [some (.ref w), x1, x2] [.ref w] I J P Q := wp_lod (len := 1) rfl rfl rfl rfl dX9_marginalRate_0
theorem e_X9_marginalRate_1 {v0 : Nat} {w : Int32} {x0 x2 : Option Value} : Wp S N d MX9_marginalRate 1 [x0, some (.int w), x2] [.ref v0] I J P Q ↔ Wp S N d MX9_marginalRate 2 [x0, some (.int w), x2] [.int w, .ref v0] I J P Q := wp_lod (len := 1) rfl rfl rfl rfl dX9_marginalRate_1
theorem e_X9_marginalRate_2 {v0 : Int32} {v1 : Nat} {x0 x1 x2 : Option Value} : Wp S N (d + 1) MX9_marginalRate 2 [x0, x1, x2] [.int v0, .ref v1] I J P Q ↔ CWp S N d MX9_isPerson [.int v0] I J P (fun r I1 J1 P1 => Wp S N (d + 1) MX9_marginalRate 5 [x0, x1, x2] (r.toList ++ [.ref v1]) I1 J1 P1 Q) := wp_callS (M' := MX9_isPerson) (As := [.int v0]) rfl rfl rfl rfl (Nat.le_of_ble_eq_true rfl) dX9_marginalRate_2
theorem e_X9_marginalRate_5 {v0 : Int32} {v1 : Nat} {x0 x1 x2 : Option Value} : Wp S N d MX9_marginalRate 5 [x0, x1, x2] [.int v0, .ref v1] I J P Q ↔ (v0 = 0 → Wp S N d MX9_marginalRate 27 [x0, x1, x2] [.ref v1] I J P Q) ∧ (¬ v0 = 0 → Wp S N d MX9_marginalRate 8 [x0, x1, x2] [.ref v1] I J P Q) := wp_br rfl rfl (by decide) dX9_marginalRate_5
theorem e_X9_marginalRate_8 {v0 : Nat} {w : Int32} {x0 x1 : Option Value} : Wp S N d MX9_marginalRate 8 [x0, x1, some (.int w)] [.ref v0] I J P Q ↔ Wp S N d MX9_marginalRate 9 [x0, x1, some (.int w)] [.int w, .ref v0] I J P Q := wp_lod (len := 1) rfl rfl rfl rfl dX9_marginalRate_8
theorem e_X9_marginalRate_9 {v0 : Int32} {v1 : Nat} {x0 x1 x2 : Option Value} : Wp S N d MX9_marginalRate 9 [x0, x1, x2] [.int v0, .ref v1] I J P Q ↔ Wp S N d MX9_marginalRate 10 [x0, x1, x2] [.int 0, .int v0, .ref v1] I J P Q := wp_iconst (by decide) dX9_marginalRate_9
theorem e_X9_marginalRate_10 {v0 : Int32} {v1 : Int32} {v2 : Nat} {x0 x1 x2 : Option Value} : Wp S N d MX9_marginalRate 10 [x0, x1, x2] [.int v0, .int v1, .ref v2] I J P Q ↔ Wp S N d MX9_marginalRate 13 [x0, x1, x2] [.int 9998, .int v0, .int v1, .ref v2] I J P Q := wp_sipush (by decide) dX9_marginalRate_10
theorem e_X9_marginalRate_13 {v0 : Int32} {v1 : Int32} {v2 : Int32} {v3 : Nat} {x0 x1 x2 : Option Value} : Wp S N (d + 1) MX9_marginalRate 13 [x0, x1, x2] [.int v0, .int v1, .int v2, .ref v3] I J P Q ↔ CWp S N d MX9_in [.int v2, .int v1, .int v0] I J P (fun r I1 J1 P1 => Wp S N (d + 1) MX9_marginalRate 16 [x0, x1, x2] (r.toList ++ [.ref v3]) I1 J1 P1 Q) := wp_callS (M' := MX9_in) (As := [.int v2, .int v1, .int v0]) rfl rfl rfl rfl (Nat.le_of_ble_eq_true rfl) dX9_marginalRate_13
theorem e_X9_marginalRate_16 {v0 : Int32} {v1 : Nat} {x0 x1 x2 : Option Value} : Wp S N d MX9_marginalRate 16 [x0, x1, x2] [.int v0, .ref v1] I J P Q ↔ (v0 = 0 → Wp S N d MX9_marginalRate 23 [x0, x1, x2] [.ref v1] I J P Q) ∧ (¬ v0 = 0 → Wp S N d MX9_marginalRate 19 [x0, x1, x2] [.ref v1] I J P Q) := wp_br rfl rfl (by decide) dX9_marginalRate_16
theorem e_X9_marginalRate_19 {v0 : Nat} {x0 x1 x2 : Option Value} : Wp S N d MX9_marginalRate 19 [x0, x1, x2] [.ref v0] I J P Q ↔ Wp S N d MX9_marginalRate 20 [x0, x1, x2] [.int 0, .ref v0] I J P Q := wp_iconst (by decide) dX9_marginalRate_19
theorem e_X9_marginalRate_20 {v0 : Int32} {v1 : Nat} {x0 x1 x2 : Option Value} : Wp S N d MX9_marginalRate 20 [x0, x1, x2] [.int v0, .ref v1] I J P Q ↔ Wp S N d MX9_marginalRate 28 [x0, x1, x2] [.int v0, .ref v1] I J P Q := wp_go (len := 3) rfl (fun _ _ => rfl) rfl (by decide) dX9_marginalRate_20
theorem e_X9_marginalRate_23 {v0 : Nat} {x0 x1 x2 : Option Value} : Wp S N d MX9_marginalRate 23 [x0, x1, x2] [.ref v0] I J P Q ↔ Wp S N d MX9_marginalRate 24 [x0, x1, x2] [.int 2, .ref v0] I J P Q := wp_iconst (by decide) dX9_marginalRate_23
theorem e_X9_marginalRate_24 {v0 : Int32} {v1 : Nat} {x0 x1 x2 : Option Value} : Wp S N d MX9_marginalRate 24 [x0, x1, x2] [.int v0, .ref v1] I J P Q ↔ Wp S N d MX9_marginalRate 28 [x0, x1, x2] [.int v0, .ref v1] I J P Q := wp_go (len := 3) rfl (fun _ _ => rfl) rfl (by decide) dX9_marginalRate_24
theorem e_X9_marginalRate_27 {v0 : Nat} {x0 x1 x2 : Option Value} : Wp S N d MX9_marginalRate 27 [x0, x1, x2] [.ref v0] I J P Q ↔ Wp S N d MX9_marginalRate 28 [x0, x1, x2] [.int 1, .ref v0] I J P Q := wp_iconst (by decide) dX9_marginalRate_27
theorem e_X9_marginalRate_28 {v0 : Int32} {v1 : Nat} {x0 x1 x2 : Option Value} : Wp S N d MX9_marginalRate 28 [x0, x1, x2] [.int v0, .ref v1] I J P Q ↔ S v1 = 9 ∧ Wp S N d MX9_marginalRate 31 [x0, x1, x2] [] (u2 I v1 8 v0) J P Q := wp_putI rfl rfl rfl rfl dX9_marginalRate_28
theorem e_X9_marginalRate_31 {w : Nat} {x1 x2 : Option Value} : Wp S N d MX9_marginalRate 31 [some (.ref w), x1, x2] [] I J P Q ↔ Wp S N d MX9_marginalRate 32 [some (.ref w), x1, x2] [.ref w] I J P Q := wp_lod (len := 1) rfl rfl rfl rfl dX9_marginalRate_31
theorem e_X9_marginalRate_32 {v0 : Nat} {x0 x1 x2 : Option Value} : Wp S N d MX9_marginalRate 32 [x0, x1, x2] [.ref v0] I J P Q ↔ S v0 = 9 ∧ Wp S N d MX9_marginalRate 35 [x0, x1, x2] [.int (I v0 8)] I J P Q := wp_getf rfl rfl rfl rfl dX9_marginalRate_32
theorem e_X9_marginalRate_35 {v0 : Int32} {x0 x1 x2 : Option Value} : Wp S N d MX9_marginalRate 35 [x0, x1, x2] [.int v0] I J P Q ↔ (v0 ≤ 0 → Wp S N d MX9_marginalRate 42 [x0, x1, x2] [] I J P Q) ∧ (¬ v0 ≤ 0 → Wp S N d MX9_marginalRate 38 [x0, x1, x2] [] I J P Q) := wp_br rfl rfl (by decide) dX9_marginalRate_35
theorem e_X9_marginalRate_38  {x0 x1 x2 : Option Value} : Wp S N d MX9_marginalRate 38 [x0, x1, x2] [] I J P Q ↔ Wp S N d MX9_marginalRate 39 [x0, x1, x2] [.long 0] I J P Q := wp_lconst (by decide) dX9_marginalRate_38
theorem e_X9_marginalRate_39 {v0 : Int64} {x0 x1 x2 : Option Value} : Wp S N d MX9_marginalRate 39 [x0, x1, x2] [.long v0] I J P Q ↔ Wp S N d MX9_marginalRate 48 [x0, x1, x2] [.long v0] I J P Q := wp_go (len := 3) rfl (fun _ _ => rfl) rfl (by decide) dX9_marginalRate_39
theorem e_X9_marginalRate_42 {w : Nat} {x1 x2 : Option Value} : Wp S N d MX9_marginalRate 42 [some (.ref w), x1, x2] [] I J P Q ↔ Wp S N d MX9_marginalRate 43 [some (.ref w), x1, x2] [.ref w] I J P Q := wp_lod (len := 1) rfl rfl rfl rfl dX9_marginalRate_42
theorem e_X9_marginalRate_43 {v0 : Nat} {w : Int32} {x0 x2 : Option Value} : Wp S N d MX9_marginalRate 43 [x0, some (.int w), x2] [.ref v0] I J P Q ↔ Wp S N d MX9_marginalRate 44 [x0, some (.int w), x2] [.int w, .ref v0] I J P Q := wp_lod (len := 1) rfl rfl rfl rfl dX9_marginalRate_43
theorem e_X9_marginalRate_44 {v0 : Int32} {v1 : Nat} {w : Int32} {x0 x1 : Option Value} : Wp S N d MX9_marginalRate 44 [x0, x1, some (.int w)] [.int v0, .ref v1] I J P Q ↔ Wp S N d MX9_marginalRate 45 [x0, x1, some (.int w)] [.int w, .int v0, .ref v1] I J P Q := wp_lod (len := 1) rfl rfl rfl rfl dX9_marginalRate_44
theorem e_X9_marginalRate_45 {v0 : Int32} {v1 : Int32} {v2 : Nat} {x0 x1 x2 : Option Value} : Wp S N (d + 1) MX9_marginalRate 45 [x0, x1, x2] [.int v0, .int v1, .ref v2] I J P Q ↔ S v2 = 9 ∧ CWp S N d MX9_marginal [.ref v2, .int v1, .int v0] I J P (fun r I1 J1 P1 => Wp S N (d + 1) MX9_marginalRate 48 [x0, x1, x2] (r.toList ++ []) I1 J1 P1 Q) := wp_callV (M' := MX9_marginal) (As := [.int v1, .int v0]) rfl rfl rfl rfl (by decide) (Nat.le_of_ble_eq_true rfl) dX9_marginalRate_45
theorem e_X9_marginalRate_48 {v0 : Int64} {x0 x1 x2 : Option Value} : Wp S N d MX9_marginalRate 48 [x0, x1, x2] [.long v0] I J P Q ↔ Q (some (.long v0)) I J P := wp_lret rfl dX9_marginalRate_48
theorem dX9_isKink_0 : decode cX9_isKink 0 = .ok (.iload_n 2, 1) := by decide +kernel
theorem dX9_isKink_1 : decode cX9_isKink 1 = .ok (.iconst 1, 1) := by decide +kernel
theorem dX9_isKink_2 : decode cX9_isKink 2 = .ok (.sipush 9998, 3) := by decide +kernel
theorem dX9_isKink_5 : decode cX9_isKink 5 = .ok (.invokestatic 60, 3) := by decide +kernel
theorem dX9_isKink_8 : decode cX9_isKink 8 = .ok (.ifCond .eq 25, 3) := by decide +kernel
theorem dX9_isKink_11 : decode cX9_isKink 11 = .ok (.aload_n 0, 1) := by decide +kernel
theorem dX9_isKink_12 : decode cX9_isKink 12 = .ok (.iload_n 1, 1) := by decide +kernel
theorem dX9_isKink_13 : decode cX9_isKink 13 = .ok (.iload_n 2, 1) := by decide +kernel
theorem dX9_isKink_14 : decode cX9_isKink 14 = .ok (.iconst 1, 1) := by decide +kernel
theorem dX9_isKink_15 : decode cX9_isKink 15 = .ok (.isub, 1) := by decide +kernel
theorem dX9_isKink_16 : decode cX9_isKink 16 = .ok (.invokevirtual 224, 3) := by decide +kernel
theorem dX9_isKink_19 : decode cX9_isKink 19 = .ok (.aload_n 0, 1) := by decide +kernel
theorem dX9_isKink_20 : decode cX9_isKink 20 = .ok (.iload_n 1, 1) := by decide +kernel
theorem dX9_isKink_21 : decode cX9_isKink 21 = .ok (.iload_n 2, 1) := by decide +kernel
theorem dX9_isKink_22 : decode cX9_isKink 22 = .ok (.invokevirtual 224, 3) := by decide +kernel
theorem dX9_isKink_25 : decode cX9_isKink 25 = .ok (.lcmp, 1) := by decide +kernel
theorem dX9_isKink_26 : decode cX9_isKink 26 = .ok (.ifCond .eq 7, 3) := by decide +kernel
theorem dX9_isKink_29 : decode cX9_isKink 29 = .ok (.iconst 1, 1) := by decide +kernel
theorem dX9_isKink_30 : decode cX9_isKink 30 = .ok (.goto 4, 3) := by decide +kernel
theorem dX9_isKink_33 : decode cX9_isKink 33 = .ok (.iconst 0, 1) := by decide +kernel
theorem dX9_isKink_34 : decode cX9_isKink 34 = .ok (.ireturn, 1) := by decide +kernel
theorem c_X9_isKink {a0 : Nat} {a1 : Int32} {a2 : Int32} : CWp S N d MX9_isKink [.ref a0, .int a1, .int a2] I J P Q ↔ Wp S N d MX9_isKink 0 [some (.ref a0), some (.int a1), some (.int a2)] [] I J P Q := by
  rw [cwp_iff]
  exact ⟨fun h => h.2, fun h => ⟨Nat.le_of_ble_eq_true rfl, h⟩⟩
theorem e_X9_isKink_0 {w : Int32} {x0 x1 : Option Value} : Wp S N d MX9_isKink 0 [x0, x1, some (.int w)] [] I J P Q ↔ Wp S N d MX9_isKink 1 [x0, x1, some (.int w)] [.int w] I J P Q := wp_lod (len := 1) rfl rfl rfl rfl dX9_isKink_0
theorem e_X9_isKink_1 {v0 : Int32} {x0 x1 x2 : Option Value} : Wp S N d MX9_isKink 1 [x0, x1, x2] [.int v0] I J P Q ↔ Wp S N d MX9_isKink 2 [x0, x1, x2] [.int 1, .int v0] I J P Q := wp_iconst (by decide) dX9_isKink_1
theorem e_X9_isKink_2 {v0 : Int32} {v1 : Int32} {x0 x1 x2 : Option Value} : Wp S N d MX9_isKink 2 [x0, x1, x2] [.int v0, .int v1] I J P Q ↔ Wp S N d MX9_isKink 5 [x0, x1, x2] [.int 9998, .int v0, .int v1] I J P Q := wp_sipush (by decide) dX9_isKink_2
theorem e_X9_isKink_5 {v0 : Int32} {v1 : Int32} {v2 : Int32} {x0 x1 x2 : Option Value} : Wp S N (d + 1) MX9_isKink 5 [x0, x1, x2] [.int v0, .int v1, .int v2] I J P Q ↔ CWp S N d MX9_in [.int v2, .int v1, .int v0] I J P (fun r I1 J1 P1 => Wp S N (d + 1) MX9_isKink 8 [x0, x1, x2] (r.toList ++ []) I1 J1 P1 Q) := wp_callS (M' := MX9_in) (As := [.int v2, .int v1, .int v0]) rfl rfl rfl rfl (Nat.le_of_ble_eq_true rfl) dX9_isKink_5
theorem e_X9_isKink_8 {v0 : Int32} {x0 x1 x2 : Option Value} : Wp S N d MX9_isKink 8 [x0, x1, x2] [.int v0] I J P Q ↔ (v0 = 0 → Wp S N d MX9_isKink 33 [x0, x1, x2] [] I J P Q) ∧ (¬ v0 = 0 → Wp S N d MX9_isKink 11 [x0, x1, x2] [] I J P Q) := wp_br rfl rfl (by decide) dX9_isKink_8
theorem e_X9_isKink_11 {w : Nat} {x1 x2 : Option Value} : Wp S N d MX9_isKink 11 [some (.ref w), x1, x2] [] I J P Q ↔ Wp S N d MX9_isKink 12 [some (.ref w), x1, x2] [.ref w] I J P Q := wp_lod (len := 1) rfl rfl rfl rfl dX9_isKink_11
theorem e_X9_isKink_12 {v0 : Nat} {w : Int32} {x0 x2 : Option Value} : Wp S N d MX9_isKink 12 [x0, some (.int w), x2] [.ref v0] I J P Q ↔ Wp S N d MX9_isKink 13 [x0, some (.int w), x2] [.int w, .ref v0] I J P Q := wp_lod (len := 1) rfl rfl rfl rfl dX9_isKink_12
theorem e_X9_isKink_13 {v0 : Int32} {v1 : Nat} {w : Int32} {x0 x1 : Option Value} : Wp S N d MX9_isKink 13 [x0, x1, some (.int w)] [.int v0, .ref v1] I J P Q ↔ Wp S N d MX9_isKink 14 [x0, x1, some (.int w)] [.int w, .int v0, .ref v1] I J P Q := wp_lod (len := 1) rfl rfl rfl rfl dX9_isKink_13
theorem e_X9_isKink_14 {v0 : Int32} {v1 : Int32} {v2 : Nat} {x0 x1 x2 : Option Value} : Wp S N d MX9_isKink 14 [x0, x1, x2] [.int v0, .int v1, .ref v2] I J P Q ↔ Wp S N d MX9_isKink 15 [x0, x1, x2] [.int 1, .int v0, .int v1, .ref v2] I J P Q := wp_iconst (by decide) dX9_isKink_14
theorem e_X9_isKink_15 {v0 : Int32} {v1 : Int32} {v2 : Int32} {v3 : Nat} {x0 x1 x2 : Option Value} : Wp S N d MX9_isKink 15 [x0, x1, x2] [.int v0, .int v1, .int v2, .ref v3] I J P Q ↔ Wp S N d MX9_isKink 16 [x0, x1, x2] [.int (v1 - v0), .int v2, .ref v3] I J P Q := wp_alu (len := 1) rfl rfl rfl dX9_isKink_15
theorem e_X9_isKink_16 {v0 : Int32} {v1 : Int32} {v2 : Nat} {x0 x1 x2 : Option Value} : Wp S N (d + 1) MX9_isKink 16 [x0, x1, x2] [.int v0, .int v1, .ref v2] I J P Q ↔ S v2 = 9 ∧ CWp S N d MX9_marginal [.ref v2, .int v1, .int v0] I J P (fun r I1 J1 P1 => Wp S N (d + 1) MX9_isKink 19 [x0, x1, x2] (r.toList ++ []) I1 J1 P1 Q) := wp_callV (M' := MX9_marginal) (As := [.int v1, .int v0]) rfl rfl rfl rfl (by decide) (Nat.le_of_ble_eq_true rfl) dX9_isKink_16
theorem e_X9_isKink_19 {v0 : Int64} {w : Nat} {x1 x2 : Option Value} : Wp S N d MX9_isKink 19 [some (.ref w), x1, x2] [.long v0] I J P Q ↔ Wp S N d MX9_isKink 20 [some (.ref w), x1, x2] [.ref w, .long v0] I J P Q := wp_lod (len := 1) rfl rfl rfl rfl dX9_isKink_19
theorem e_X9_isKink_20 {v0 : Nat} {v1 : Int64} {w : Int32} {x0 x2 : Option Value} : Wp S N d MX9_isKink 20 [x0, some (.int w), x2] [.ref v0, .long v1] I J P Q ↔ Wp S N d MX9_isKink 21 [x0, some (.int w), x2] [.int w, .ref v0, .long v1] I J P Q := wp_lod (len := 1) rfl rfl rfl rfl dX9_isKink_20
theorem e_X9_isKink_21 {v0 : Int32} {v1 : Nat} {v2 : Int64} {w : Int32} {x0 x1 : Option Value} : Wp S N d MX9_isKink 21 [x0, x1, some (.int w)] [.int v0, .ref v1, .long v2] I J P Q ↔ Wp S N d MX9_isKink 22 [x0, x1, some (.int w)] [.int w, .int v0, .ref v1, .long v2] I J P Q := wp_lod (len := 1) rfl rfl rfl rfl dX9_isKink_21
theorem e_X9_isKink_22 {v0 : Int32} {v1 : Int32} {v2 : Nat} {v3 : Int64} {x0 x1 x2 : Option Value} : Wp S N (d + 1) MX9_isKink 22 [x0, x1, x2] [.int v0, .int v1, .ref v2, .long v3] I J P Q ↔ S v2 = 9 ∧ CWp S N d MX9_marginal [.ref v2, .int v1, .int v0] I J P (fun r I1 J1 P1 => Wp S N (d + 1) MX9_isKink 25 [x0, x1, x2] (r.toList ++ [.long v3]) I1 J1 P1 Q) := wp_callV (M' := MX9_marginal) (As := [.int v1, .int v0]) rfl rfl rfl rfl (by decide) (Nat.le_of_ble_eq_true rfl) dX9_isKink_22
theorem e_X9_isKink_25 {v0 : Int64} {v1 : Int64} {x0 x1 x2 : Option Value} : Wp S N d MX9_isKink 25 [x0, x1, x2] [.long v0, .long v1] I J P Q ↔ Wp S N d MX9_isKink 26 [x0, x1, x2] [.int (lg_cmp v1 v0)] I J P Q := wp_alu (len := 1) rfl rfl rfl dX9_isKink_25
theorem e_X9_isKink_26 {v0 : Int32} {x0 x1 x2 : Option Value} : Wp S N d MX9_isKink 26 [x0, x1, x2] [.int v0] I J P Q ↔ (v0 = 0 → Wp S N d MX9_isKink 33 [x0, x1, x2] [] I J P Q) ∧ (¬ v0 = 0 → Wp S N d MX9_isKink 29 [x0, x1, x2] [] I J P Q) := wp_br rfl rfl (by decide) dX9_isKink_26
theorem e_X9_isKink_29  {x0 x1 x2 : Option Value} : Wp S N d MX9_isKink 29 [x0, x1, x2] [] I J P Q ↔ Wp S N d MX9_isKink 30 [x0, x1, x2] [.int 1] I J P Q := wp_iconst (by decide) dX9_isKink_29
theorem e_X9_isKink_30 {v0 : Int32} {x0 x1 x2 : Option Value} : Wp S N d MX9_isKink 30 [x0, x1, x2] [.int v0] I J P Q ↔ Wp S N d MX9_isKink 34 [x0, x1, x2] [.int v0] I J P Q := wp_go (len := 3) rfl (fun _ _ => rfl) rfl (by decide) dX9_isKink_30
theorem e_X9_isKink_33  {x0 x1 x2 : Option Value} : Wp S N d MX9_isKink 33 [x0, x1, x2] [] I J P Q ↔ Wp S N d MX9_isKink 34 [x0, x1, x2] [.int 0] I J P Q := wp_iconst (by decide) dX9_isKink_33
theorem e_X9_isKink_34 {v0 : Int32} (hb : isB v0) {x0 x1 x2 : Option Value} : Wp S N d MX9_isKink 34 [x0, x1, x2] [.int v0] I J P Q ↔ Q (some (.int v0)) I J P := wp_zret rfl dX9_isKink_34 hb
theorem dX9_kinks_0 : decode cX9_kinks 0 = .ok (.aload_n 0, 1) := by decide +kernel
theorem dX9_kinks_1 : decode cX9_kinks 1 = .ok (.iconst 0, 1) := by decide +kernel
theorem dX9_kinks_2 : decode cX9_kinks 2 = .ok (.putfield 57, 3) := by decide +kernel
theorem dX9_kinks_5 : decode cX9_kinks 5 = .ok (.iload_n 1, 1) := by decide +kernel
theorem dX9_kinks_6 : decode cX9_kinks 6 = .ok (.invokestatic 140, 3) := by decide +kernel
theorem dX9_kinks_9 : decode cX9_kinks 9 = .ok (.ifCond .ne 9, 3) := by decide +kernel
theorem dX9_kinks_12 : decode cX9_kinks 12 = .ok (.aload_n 0, 1) := by decide +kernel
theorem dX9_kinks_13 : decode cX9_kinks 13 = .ok (.iconst 1, 1) := by decide +kernel
theorem dX9_kinks_14 : decode cX9_kinks 14 = .ok (.invokevirtual 67, 3) := by decide +kernel
theorem dX9_kinks_17 : decode cX9_kinks 17 = .ok (.ireturn, 1) := by decide +kernel
theorem dX9_kinks_18 : decode cX9_kinks 18 = .ok (.iconst 0, 1) := by decide +kernel
theorem dX9_kinks_19 : decode cX9_kinks 19 = .ok (.istore_n 2, 1) := by decide +kernel
theorem dX9_kinks_20 : decode cX9_kinks 20 = .ok (.aload_n 0, 1) := by decide +kernel
theorem dX9_kinks_21 : decode cX9_kinks 21 = .ok (.iload_n 1, 1) := by decide +kernel
theorem dX9_kinks_22 : decode cX9_kinks 22 = .ok (.iconst 0, 1) := by decide +kernel
theorem dX9_kinks_23 : decode cX9_kinks 23 = .ok (.invokevirtual 224, 3) := by decide +kernel
theorem dX9_kinks_26 : decode cX9_kinks 26 = .ok (.lstore_n 3, 1) := by decide +kernel
theorem dX9_kinks_27 : decode cX9_kinks 27 = .ok (.aload_n 0, 1) := by decide +kernel
theorem dX9_kinks_28 : decode cX9_kinks 28 = .ok (.iload_n 1, 1) := by decide +kernel
theorem dX9_kinks_29 : decode cX9_kinks 29 = .ok (.iconst 1, 1) := by decide +kernel
theorem dX9_kinks_30 : decode cX9_kinks 30 = .ok (.invokevirtual 221, 3) := by decide +kernel
theorem dX9_kinks_33 : decode cX9_kinks 33 = .ok (.lstore 5, 2) := by decide +kernel
theorem dX9_kinks_35 : decode cX9_kinks 35 = .ok (.iconst 1, 1) := by decide +kernel
theorem dX9_kinks_36 : decode cX9_kinks 36 = .ok (.istore 7, 2) := by decide +kernel
theorem dX9_kinks_38 : decode cX9_kinks 38 = .ok (.iload 7, 2) := by decide +kernel
theorem dX9_kinks_40 : decode cX9_kinks 40 = .ok (.sipush 9999, 3) := by decide +kernel
theorem dX9_kinks_43 : decode cX9_kinks 43 = .ok (.if_icmp .ge 48, 3) := by decide +kernel
theorem dX9_kinks_46 : decode cX9_kinks 46 = .ok (.aload_n 0, 1) := by decide +kernel
theorem dX9_kinks_47 : decode cX9_kinks 47 = .ok (.iload_n 1, 1) := by decide +kernel
theorem dX9_kinks_48 : decode cX9_kinks 48 = .ok (.iload 7, 2) := by decide +kernel
theorem dX9_kinks_50 : decode cX9_kinks 50 = .ok (.iconst 1, 1) := by decide +kernel
theorem dX9_kinks_51 : decode cX9_kinks 51 = .ok (.iadd, 1) := by decide +kernel
theorem dX9_kinks_52 : decode cX9_kinks 52 = .ok (.invokevirtual 221, 3) := by decide +kernel
theorem dX9_kinks_55 : decode cX9_kinks 55 = .ok (.lstore 8, 2) := by decide +kernel
theorem dX9_kinks_57 : decode cX9_kinks 57 = .ok (.iload_n 2, 1) := by decide +kernel
theorem dX9_kinks_58 : decode cX9_kinks 58 = .ok (.lload 8, 2) := by decide +kernel
theorem dX9_kinks_60 : decode cX9_kinks 60 = .ok (.lload 5, 2) := by decide +kernel
theorem dX9_kinks_62 : decode cX9_kinks 62 = .ok (.lsub, 1) := by decide +kernel
theorem dX9_kinks_63 : decode cX9_kinks 63 = .ok (.lload_n 3, 1) := by decide +kernel
theorem dX9_kinks_64 : decode cX9_kinks 64 = .ok (.lcmp, 1) := by decide +kernel
theorem dX9_kinks_65 : decode cX9_kinks 65 = .ok (.ifCond .ne 7, 3) := by decide +kernel
theorem dX9_kinks_68 : decode cX9_kinks 68 = .ok (.iconst 0, 1) := by decide +kernel
theorem dX9_kinks_69 : decode cX9_kinks 69 = .ok (.goto 4, 3) := by decide +kernel
theorem dX9_kinks_72 : decode cX9_kinks 72 = .ok (.iconst 1, 1) := by decide +kernel
theorem dX9_kinks_73 : decode cX9_kinks 73 = .ok (.iadd, 1) := by decide +kernel
theorem dX9_kinks_74 : decode cX9_kinks 74 = .ok (.istore_n 2, 1) := by decide +kernel
theorem dX9_kinks_75 : decode cX9_kinks 75 = .ok (.lload 8, 2) := by decide +kernel
theorem dX9_kinks_77 : decode cX9_kinks 77 = .ok (.lload 5, 2) := by decide +kernel
theorem dX9_kinks_79 : decode cX9_kinks 79 = .ok (.lsub, 1) := by decide +kernel
theorem dX9_kinks_80 : decode cX9_kinks 80 = .ok (.lstore_n 3, 1) := by decide +kernel
theorem dX9_kinks_81 : decode cX9_kinks 81 = .ok (.lload 8, 2) := by decide +kernel
theorem dX9_kinks_83 : decode cX9_kinks 83 = .ok (.lstore 5, 2) := by decide +kernel
theorem dX9_kinks_85 : decode cX9_kinks 85 = .ok (.iinc 7 1, 3) := by decide +kernel
theorem dX9_kinks_88 : decode cX9_kinks 88 = .ok (.goto (-50), 3) := by decide +kernel
theorem dX9_kinks_91 : decode cX9_kinks 91 = .ok (.iload_n 2, 1) := by decide +kernel
theorem dX9_kinks_92 : decode cX9_kinks 92 = .ok (.ireturn, 1) := by decide +kernel
theorem c_X9_kinks {a0 : Nat} {a1 : Int32} : CWp S N d MX9_kinks [.ref a0, .int a1] I J P Q ↔ Wp S N d MX9_kinks 0 [some (.ref a0), some (.int a1), none, none, none, none, none, none, none, none] [] I J P Q := by
  rw [cwp_iff]
  exact ⟨fun h => h.2, fun h => ⟨Nat.le_of_ble_eq_true rfl, h⟩⟩
theorem e_X9_kinks_0 {w : Nat} {x1 x2 x3 x4 x5 x6 x7 x8 x9 : Option Value} : Wp S N d MX9_kinks 0 [some (.ref w), x1, x2, x3, x4, x5, x6, x7, x8, x9] [] I J P Q ↔ Wp S N d MX9_kinks 1 [some (.ref w), x1, x2, x3, x4, x5, x6, x7, x8, x9] [.ref w] I J P Q := wp_lod (len := 1) rfl rfl rfl rfl dX9_kinks_0
theorem e_X9_kinks_1 {v0 : Nat} {x0 x1 x2 x3 x4 x5 x6 x7 x8 x9 : Option Value} : Wp S N d MX9_kinks 1 [x0, x1, x2, x3, x4, x5, x6, x7, x8, x9] [.ref v0] I J P Q ↔ Wp S N d MX9_kinks 2 [x0, x1, x2, x3, x4, x5, x6, x7, x8, x9] [.int 0, .ref v0] I J P Q := wp_iconst (by decide) dX9_kinks_1
theorem e_X9_kinks_2 {v0 : Int32} {v1 : Nat} {x0 x1 x2 x3 x4 x5 x6 x7 x8 x9 : Option Value} : Wp S N d MX9_kinks 2 [x0, x1, x2, x3, x4, x5, x6, x7, x8, x9] [.int v0, .ref v1] I J P Q ↔ S v1 = 9 ∧ Wp S N d MX9_kinks 5 [x0, x1, x2, x3, x4, x5, x6, x7, x8, x9] [] (u2 I v1 8 v0) J P Q := wp_putI rfl rfl rfl rfl dX9_kinks_2
theorem e_X9_kinks_5 {w : Int32} {x0 x2 x3 x4 x5 x6 x7 x8 x9 : Option Value} : Wp S N d MX9_kinks 5 [x0, some (.int w), x2, x3, x4, x5, x6, x7, x8, x9] [] I J P Q ↔ Wp S N d MX9_kinks 6 [x0, some (.int w), x2, x3, x4, x5, x6, x7, x8, x9] [.int w] I J P Q := wp_lod (len := 1) rfl rfl rfl rfl dX9_kinks_5
theorem e_X9_kinks_6 {v0 : Int32} {x0 x1 x2 x3 x4 x5 x6 x7 x8 x9 : Option Value} : Wp S N (d + 1) MX9_kinks 6 [x0, x1, x2, x3, x4, x5, x6, x7, x8, x9] [.int v0] I J P Q ↔ CWp S N d MX9_isPerson [.int v0] I J P (fun r I1 J1 P1 => Wp S N (d + 1) MX9_kinks 9 [x0, x1, x2, x3, x4, x5, x6, x7, x8, x9] (r.toList ++ []) I1 J1 P1 Q) := wp_callS (M' := MX9_isPerson) (As := [.int v0]) rfl rfl rfl rfl (Nat.le_of_ble_eq_true rfl) dX9_kinks_6
theorem e_X9_kinks_9 {v0 : Int32} {x0 x1 x2 x3 x4 x5 x6 x7 x8 x9 : Option Value} : Wp S N d MX9_kinks 9 [x0, x1, x2, x3, x4, x5, x6, x7, x8, x9] [.int v0] I J P Q ↔ (¬ v0 = 0 → Wp S N d MX9_kinks 18 [x0, x1, x2, x3, x4, x5, x6, x7, x8, x9] [] I J P Q) ∧ (v0 = 0 → Wp S N d MX9_kinks 12 [x0, x1, x2, x3, x4, x5, x6, x7, x8, x9] [] I J P Q) := wp_brn rfl rfl (by decide) dX9_kinks_9
theorem e_X9_kinks_12 {w : Nat} {x1 x2 x3 x4 x5 x6 x7 x8 x9 : Option Value} : Wp S N d MX9_kinks 12 [some (.ref w), x1, x2, x3, x4, x5, x6, x7, x8, x9] [] I J P Q ↔ Wp S N d MX9_kinks 13 [some (.ref w), x1, x2, x3, x4, x5, x6, x7, x8, x9] [.ref w] I J P Q := wp_lod (len := 1) rfl rfl rfl rfl dX9_kinks_12
theorem e_X9_kinks_13 {v0 : Nat} {x0 x1 x2 x3 x4 x5 x6 x7 x8 x9 : Option Value} : Wp S N d MX9_kinks 13 [x0, x1, x2, x3, x4, x5, x6, x7, x8, x9] [.ref v0] I J P Q ↔ Wp S N d MX9_kinks 14 [x0, x1, x2, x3, x4, x5, x6, x7, x8, x9] [.int 1, .ref v0] I J P Q := wp_iconst (by decide) dX9_kinks_13
theorem e_X9_kinks_14 {v0 : Int32} {v1 : Nat} {x0 x1 x2 x3 x4 x5 x6 x7 x8 x9 : Option Value} : Wp S N (d + 1) MX9_kinks 14 [x0, x1, x2, x3, x4, x5, x6, x7, x8, x9] [.int v0, .ref v1] I J P Q ↔ S v1 = 9 ∧ CWp S N d MX9_fails [.ref v1, .int v0] I J P (fun r I1 J1 P1 => Wp S N (d + 1) MX9_kinks 17 [x0, x1, x2, x3, x4, x5, x6, x7, x8, x9] (r.toList ++ []) I1 J1 P1 Q) := wp_callV (M' := MX9_fails) (As := [.int v0]) rfl rfl rfl rfl (by decide) (Nat.le_of_ble_eq_true rfl) dX9_kinks_14
theorem e_X9_kinks_17 {v0 : Int32} {x0 x1 x2 x3 x4 x5 x6 x7 x8 x9 : Option Value} : Wp S N d MX9_kinks 17 [x0, x1, x2, x3, x4, x5, x6, x7, x8, x9] [.int v0] I J P Q ↔ Q (some (.int v0)) I J P := wp_iret rfl dX9_kinks_17
theorem e_X9_kinks_18  {x0 x1 x2 x3 x4 x5 x6 x7 x8 x9 : Option Value} : Wp S N d MX9_kinks 18 [x0, x1, x2, x3, x4, x5, x6, x7, x8, x9] [] I J P Q ↔ Wp S N d MX9_kinks 19 [x0, x1, x2, x3, x4, x5, x6, x7, x8, x9] [.int 0] I J P Q := wp_iconst (by decide) dX9_kinks_18
theorem e_X9_kinks_19 {v0 : Int32} {x0 x1 x2 x3 x4 x5 x6 x7 x8 x9 : Option Value} : Wp S N d MX9_kinks 19 [x0, x1, x2, x3, x4, x5, x6, x7, x8, x9] [.int v0] I J P Q ↔ Wp S N d MX9_kinks 20 [x0, kl x1, some (.int v0), x3, x4, x5, x6, x7, x8, x9] [] I J P Q := wp_sto (len := 1) rfl rfl rfl rfl (Nat.le_of_ble_eq_true rfl) rfl dX9_kinks_19
theorem e_X9_kinks_20 {w : Nat} {x1 x2 x3 x4 x5 x6 x7 x8 x9 : Option Value} : Wp S N d MX9_kinks 20 [some (.ref w), x1, x2, x3, x4, x5, x6, x7, x8, x9] [] I J P Q ↔ Wp S N d MX9_kinks 21 [some (.ref w), x1, x2, x3, x4, x5, x6, x7, x8, x9] [.ref w] I J P Q := wp_lod (len := 1) rfl rfl rfl rfl dX9_kinks_20
theorem e_X9_kinks_21 {v0 : Nat} {w : Int32} {x0 x2 x3 x4 x5 x6 x7 x8 x9 : Option Value} : Wp S N d MX9_kinks 21 [x0, some (.int w), x2, x3, x4, x5, x6, x7, x8, x9] [.ref v0] I J P Q ↔ Wp S N d MX9_kinks 22 [x0, some (.int w), x2, x3, x4, x5, x6, x7, x8, x9] [.int w, .ref v0] I J P Q := wp_lod (len := 1) rfl rfl rfl rfl dX9_kinks_21
theorem e_X9_kinks_22 {v0 : Int32} {v1 : Nat} {x0 x1 x2 x3 x4 x5 x6 x7 x8 x9 : Option Value} : Wp S N d MX9_kinks 22 [x0, x1, x2, x3, x4, x5, x6, x7, x8, x9] [.int v0, .ref v1] I J P Q ↔ Wp S N d MX9_kinks 23 [x0, x1, x2, x3, x4, x5, x6, x7, x8, x9] [.int 0, .int v0, .ref v1] I J P Q := wp_iconst (by decide) dX9_kinks_22
theorem e_X9_kinks_23 {v0 : Int32} {v1 : Int32} {v2 : Nat} {x0 x1 x2 x3 x4 x5 x6 x7 x8 x9 : Option Value} : Wp S N (d + 1) MX9_kinks 23 [x0, x1, x2, x3, x4, x5, x6, x7, x8, x9] [.int v0, .int v1, .ref v2] I J P Q ↔ S v2 = 9 ∧ CWp S N d MX9_marginal [.ref v2, .int v1, .int v0] I J P (fun r I1 J1 P1 => Wp S N (d + 1) MX9_kinks 26 [x0, x1, x2, x3, x4, x5, x6, x7, x8, x9] (r.toList ++ []) I1 J1 P1 Q) := wp_callV (M' := MX9_marginal) (As := [.int v1, .int v0]) rfl rfl rfl rfl (by decide) (Nat.le_of_ble_eq_true rfl) dX9_kinks_23
theorem e_X9_kinks_26 {v0 : Int64} {x0 x1 x2 x3 x4 x5 x6 x7 x8 x9 : Option Value} : Wp S N d MX9_kinks 26 [x0, x1, x2, x3, x4, x5, x6, x7, x8, x9] [.long v0] I J P Q ↔ Wp S N d MX9_kinks 27 [x0, x1, kl x2, some (.long v0), none, x5, x6, x7, x8, x9] [] I J P Q := wp_sto (len := 1) rfl rfl rfl rfl (Nat.le_of_ble_eq_true rfl) rfl dX9_kinks_26
theorem e_X9_kinks_27 {w : Nat} {x1 x2 x3 x4 x5 x6 x7 x8 x9 : Option Value} : Wp S N d MX9_kinks 27 [some (.ref w), x1, x2, x3, x4, x5, x6, x7, x8, x9] [] I J P Q ↔ Wp S N d MX9_kinks 28 [some (.ref w), x1, x2, x3, x4, x5, x6, x7, x8, x9] [.ref w] I J P Q := wp_lod (len := 1) rfl rfl rfl rfl dX9_kinks_27
theorem e_X9_kinks_28 {v0 : Nat} {w : Int32} {x0 x2 x3 x4 x5 x6 x7 x8 x9 : Option Value} : Wp S N d MX9_kinks 28 [x0, some (.int w), x2, x3, x4, x5, x6, x7, x8, x9] [.ref v0] I J P Q ↔ Wp S N d MX9_kinks 29 [x0, some (.int w), x2, x3, x4, x5, x6, x7, x8, x9] [.int w, .ref v0] I J P Q := wp_lod (len := 1) rfl rfl rfl rfl dX9_kinks_28
theorem e_X9_kinks_29 {v0 : Int32} {v1 : Nat} {x0 x1 x2 x3 x4 x5 x6 x7 x8 x9 : Option Value} : Wp S N d MX9_kinks 29 [x0, x1, x2, x3, x4, x5, x6, x7, x8, x9] [.int v0, .ref v1] I J P Q ↔ Wp S N d MX9_kinks 30 [x0, x1, x2, x3, x4, x5, x6, x7, x8, x9] [.int 1, .int v0, .ref v1] I J P Q := wp_iconst (by decide) dX9_kinks_29
theorem e_X9_kinks_30 {v0 : Int32} {v1 : Int32} {v2 : Nat} {x0 x1 x2 x3 x4 x5 x6 x7 x8 x9 : Option Value} : Wp S N (d + 1) MX9_kinks 30 [x0, x1, x2, x3, x4, x5, x6, x7, x8, x9] [.int v0, .int v1, .ref v2] I J P Q ↔ S v2 = 9 ∧ CWp S N d MX9_taxAt [.ref v2, .int v1, .int v0] I J P (fun r I1 J1 P1 => Wp S N (d + 1) MX9_kinks 33 [x0, x1, x2, x3, x4, x5, x6, x7, x8, x9] (r.toList ++ []) I1 J1 P1 Q) := wp_callV (M' := MX9_taxAt) (As := [.int v1, .int v0]) rfl rfl rfl rfl (by decide) (Nat.le_of_ble_eq_true rfl) dX9_kinks_30
theorem e_X9_kinks_33 {v0 : Int64} {x0 x1 x2 x3 x4 x5 x6 x7 x8 x9 : Option Value} : Wp S N d MX9_kinks 33 [x0, x1, x2, x3, x4, x5, x6, x7, x8, x9] [.long v0] I J P Q ↔ Wp S N d MX9_kinks 35 [x0, x1, x2, x3, kl x4, some (.long v0), none, x7, x8, x9] [] I J P Q := wp_sto (len := 2) rfl rfl rfl rfl (Nat.le_of_ble_eq_true rfl) rfl dX9_kinks_33
theorem e_X9_kinks_35  {x0 x1 x2 x3 x4 x5 x6 x7 x8 x9 : Option Value} : Wp S N d MX9_kinks 35 [x0, x1, x2, x3, x4, x5, x6, x7, x8, x9] [] I J P Q ↔ Wp S N d MX9_kinks 36 [x0, x1, x2, x3, x4, x5, x6, x7, x8, x9] [.int 1] I J P Q := wp_iconst (by decide) dX9_kinks_35
theorem e_X9_kinks_36 {v0 : Int32} {x0 x1 x2 x3 x4 x5 x6 x7 x8 x9 : Option Value} : Wp S N d MX9_kinks 36 [x0, x1, x2, x3, x4, x5, x6, x7, x8, x9] [.int v0] I J P Q ↔ Wp S N d MX9_kinks 38 [x0, x1, x2, x3, x4, x5, kl x6, some (.int v0), x8, x9] [] I J P Q := wp_sto (len := 2) rfl rfl rfl rfl (Nat.le_of_ble_eq_true rfl) rfl dX9_kinks_36
theorem e_X9_kinks_38 {w : Int32} {x0 x1 x2 x3 x4 x5 x6 x8 x9 : Option Value} : Wp S N d MX9_kinks 38 [x0, x1, x2, x3, x4, x5, x6, some (.int w), x8, x9] [] I J P Q ↔ Wp S N d MX9_kinks 40 [x0, x1, x2, x3, x4, x5, x6, some (.int w), x8, x9] [.int w] I J P Q := wp_lod (len := 2) rfl rfl rfl rfl dX9_kinks_38
theorem e_X9_kinks_40 {v0 : Int32} {x0 x1 x2 x3 x4 x5 x6 x7 x8 x9 : Option Value} : Wp S N d MX9_kinks 40 [x0, x1, x2, x3, x4, x5, x6, x7, x8, x9] [.int v0] I J P Q ↔ Wp S N d MX9_kinks 43 [x0, x1, x2, x3, x4, x5, x6, x7, x8, x9] [.int 9999, .int v0] I J P Q := wp_sipush (by decide) dX9_kinks_40
theorem e_X9_kinks_43 {v0 : Int32} {v1 : Int32} {x0 x1 x2 x3 x4 x5 x6 x7 x8 x9 : Option Value} : Wp S N d MX9_kinks 43 [x0, x1, x2, x3, x4, x5, x6, x7, x8, x9] [.int v0, .int v1] I J P Q ↔ (v0 ≤ v1 → Wp S N d MX9_kinks 91 [x0, x1, x2, x3, x4, x5, x6, x7, x8, x9] [] I J P Q) ∧ (¬ v0 ≤ v1 → Wp S N d MX9_kinks 46 [x0, x1, x2, x3, x4, x5, x6, x7, x8, x9] [] I J P Q) := wp_br rfl rfl (by decide) dX9_kinks_43
theorem e_X9_kinks_46 {w : Nat} {x1 x2 x3 x4 x5 x6 x7 x8 x9 : Option Value} : Wp S N d MX9_kinks 46 [some (.ref w), x1, x2, x3, x4, x5, x6, x7, x8, x9] [] I J P Q ↔ Wp S N d MX9_kinks 47 [some (.ref w), x1, x2, x3, x4, x5, x6, x7, x8, x9] [.ref w] I J P Q := wp_lod (len := 1) rfl rfl rfl rfl dX9_kinks_46
theorem e_X9_kinks_47 {v0 : Nat} {w : Int32} {x0 x2 x3 x4 x5 x6 x7 x8 x9 : Option Value} : Wp S N d MX9_kinks 47 [x0, some (.int w), x2, x3, x4, x5, x6, x7, x8, x9] [.ref v0] I J P Q ↔ Wp S N d MX9_kinks 48 [x0, some (.int w), x2, x3, x4, x5, x6, x7, x8, x9] [.int w, .ref v0] I J P Q := wp_lod (len := 1) rfl rfl rfl rfl dX9_kinks_47
theorem e_X9_kinks_48 {v0 : Int32} {v1 : Nat} {w : Int32} {x0 x1 x2 x3 x4 x5 x6 x8 x9 : Option Value} : Wp S N d MX9_kinks 48 [x0, x1, x2, x3, x4, x5, x6, some (.int w), x8, x9] [.int v0, .ref v1] I J P Q ↔ Wp S N d MX9_kinks 50 [x0, x1, x2, x3, x4, x5, x6, some (.int w), x8, x9] [.int w, .int v0, .ref v1] I J P Q := wp_lod (len := 2) rfl rfl rfl rfl dX9_kinks_48
theorem e_X9_kinks_50 {v0 : Int32} {v1 : Int32} {v2 : Nat} {x0 x1 x2 x3 x4 x5 x6 x7 x8 x9 : Option Value} : Wp S N d MX9_kinks 50 [x0, x1, x2, x3, x4, x5, x6, x7, x8, x9] [.int v0, .int v1, .ref v2] I J P Q ↔ Wp S N d MX9_kinks 51 [x0, x1, x2, x3, x4, x5, x6, x7, x8, x9] [.int 1, .int v0, .int v1, .ref v2] I J P Q := wp_iconst (by decide) dX9_kinks_50
theorem e_X9_kinks_51 {v0 : Int32} {v1 : Int32} {v2 : Int32} {v3 : Nat} {x0 x1 x2 x3 x4 x5 x6 x7 x8 x9 : Option Value} : Wp S N d MX9_kinks 51 [x0, x1, x2, x3, x4, x5, x6, x7, x8, x9] [.int v0, .int v1, .int v2, .ref v3] I J P Q ↔ Wp S N d MX9_kinks 52 [x0, x1, x2, x3, x4, x5, x6, x7, x8, x9] [.int (v1 + v0), .int v2, .ref v3] I J P Q := wp_alu (len := 1) rfl rfl rfl dX9_kinks_51
theorem e_X9_kinks_52 {v0 : Int32} {v1 : Int32} {v2 : Nat} {x0 x1 x2 x3 x4 x5 x6 x7 x8 x9 : Option Value} : Wp S N (d + 1) MX9_kinks 52 [x0, x1, x2, x3, x4, x5, x6, x7, x8, x9] [.int v0, .int v1, .ref v2] I J P Q ↔ S v2 = 9 ∧ CWp S N d MX9_taxAt [.ref v2, .int v1, .int v0] I J P (fun r I1 J1 P1 => Wp S N (d + 1) MX9_kinks 55 [x0, x1, x2, x3, x4, x5, x6, x7, x8, x9] (r.toList ++ []) I1 J1 P1 Q) := wp_callV (M' := MX9_taxAt) (As := [.int v1, .int v0]) rfl rfl rfl rfl (by decide) (Nat.le_of_ble_eq_true rfl) dX9_kinks_52
theorem e_X9_kinks_55 {v0 : Int64} {x0 x1 x2 x3 x4 x5 x6 x7 x8 x9 : Option Value} : Wp S N d MX9_kinks 55 [x0, x1, x2, x3, x4, x5, x6, x7, x8, x9] [.long v0] I J P Q ↔ Wp S N d MX9_kinks 57 [x0, x1, x2, x3, x4, x5, x6, kl x7, some (.long v0), none] [] I J P Q := wp_sto (len := 2) rfl rfl rfl rfl (Nat.le_of_ble_eq_true rfl) rfl dX9_kinks_55
theorem e_X9_kinks_57 {w : Int32} {x0 x1 x3 x4 x5 x6 x7 x8 x9 : Option Value} : Wp S N d MX9_kinks 57 [x0, x1, some (.int w), x3, x4, x5, x6, x7, x8, x9] [] I J P Q ↔ Wp S N d MX9_kinks 58 [x0, x1, some (.int w), x3, x4, x5, x6, x7, x8, x9] [.int w] I J P Q := wp_lod (len := 1) rfl rfl rfl rfl dX9_kinks_57
theorem e_X9_kinks_58 {v0 : Int32} {w : Int64} {x0 x1 x2 x3 x4 x5 x6 x7 x9 : Option Value} : Wp S N d MX9_kinks 58 [x0, x1, x2, x3, x4, x5, x6, x7, some (.long w), x9] [.int v0] I J P Q ↔ Wp S N d MX9_kinks 60 [x0, x1, x2, x3, x4, x5, x6, x7, some (.long w), x9] [.long w, .int v0] I J P Q := wp_lod (len := 2) rfl rfl rfl rfl dX9_kinks_58
theorem e_X9_kinks_60 {v0 : Int64} {v1 : Int32} {w : Int64} {x0 x1 x2 x3 x4 x6 x7 x8 x9 : Option Value} : Wp S N d MX9_kinks 60 [x0, x1, x2, x3, x4, some (.long w), x6, x7, x8, x9] [.long v0, .int v1] I J P Q ↔ Wp S N d MX9_kinks 62 [x0, x1, x2, x3, x4, some (.long w), x6, x7, x8, x9] [.long w, .long v0, .int v1] I J P Q := wp_lod (len := 2) rfl rfl rfl rfl dX9_kinks_60
theorem e_X9_kinks_62 {v0 : Int64} {v1 : Int64} {v2 : Int32} {x0 x1 x2 x3 x4 x5 x6 x7 x8 x9 : Option Value} : Wp S N d MX9_kinks 62 [x0, x1, x2, x3, x4, x5, x6, x7, x8, x9] [.long v0, .long v1, .int v2] I J P Q ↔ Wp S N d MX9_kinks 63 [x0, x1, x2, x3, x4, x5, x6, x7, x8, x9] [.long (v1 - v0), .int v2] I J P Q := wp_alu (len := 1) rfl rfl rfl dX9_kinks_62
theorem e_X9_kinks_63 {v0 : Int64} {v1 : Int32} {w : Int64} {x0 x1 x2 x4 x5 x6 x7 x8 x9 : Option Value} : Wp S N d MX9_kinks 63 [x0, x1, x2, some (.long w), x4, x5, x6, x7, x8, x9] [.long v0, .int v1] I J P Q ↔ Wp S N d MX9_kinks 64 [x0, x1, x2, some (.long w), x4, x5, x6, x7, x8, x9] [.long w, .long v0, .int v1] I J P Q := wp_lod (len := 1) rfl rfl rfl rfl dX9_kinks_63
theorem e_X9_kinks_64 {v0 : Int64} {v1 : Int64} {v2 : Int32} {x0 x1 x2 x3 x4 x5 x6 x7 x8 x9 : Option Value} : Wp S N d MX9_kinks 64 [x0, x1, x2, x3, x4, x5, x6, x7, x8, x9] [.long v0, .long v1, .int v2] I J P Q ↔ Wp S N d MX9_kinks 65 [x0, x1, x2, x3, x4, x5, x6, x7, x8, x9] [.int (lg_cmp v1 v0), .int v2] I J P Q := wp_alu (len := 1) rfl rfl rfl dX9_kinks_64
theorem e_X9_kinks_65 {v0 : Int32} {v1 : Int32} {x0 x1 x2 x3 x4 x5 x6 x7 x8 x9 : Option Value} : Wp S N d MX9_kinks 65 [x0, x1, x2, x3, x4, x5, x6, x7, x8, x9] [.int v0, .int v1] I J P Q ↔ (¬ v0 = 0 → Wp S N d MX9_kinks 72 [x0, x1, x2, x3, x4, x5, x6, x7, x8, x9] [.int v1] I J P Q) ∧ (v0 = 0 → Wp S N d MX9_kinks 68 [x0, x1, x2, x3, x4, x5, x6, x7, x8, x9] [.int v1] I J P Q) := wp_brn rfl rfl (by decide) dX9_kinks_65
theorem e_X9_kinks_68 {v0 : Int32} {x0 x1 x2 x3 x4 x5 x6 x7 x8 x9 : Option Value} : Wp S N d MX9_kinks 68 [x0, x1, x2, x3, x4, x5, x6, x7, x8, x9] [.int v0] I J P Q ↔ Wp S N d MX9_kinks 69 [x0, x1, x2, x3, x4, x5, x6, x7, x8, x9] [.int 0, .int v0] I J P Q := wp_iconst (by decide) dX9_kinks_68
theorem e_X9_kinks_69 {v0 : Int32} {v1 : Int32} {x0 x1 x2 x3 x4 x5 x6 x7 x8 x9 : Option Value} : Wp S N d MX9_kinks 69 [x0, x1, x2, x3, x4, x5, x6, x7, x8, x9] [.int v0, .int v1] I J P Q ↔ Wp S N d MX9_kinks 73 [x0, x1, x2, x3, x4, x5, x6, x7, x8, x9] [.int v0, .int v1] I J P Q := wp_go (len := 3) rfl (fun _ _ => rfl) rfl (by decide) dX9_kinks_69
theorem e_X9_kinks_72 {v0 : Int32} {x0 x1 x2 x3 x4 x5 x6 x7 x8 x9 : Option Value} : Wp S N d MX9_kinks 72 [x0, x1, x2, x3, x4, x5, x6, x7, x8, x9] [.int v0] I J P Q ↔ Wp S N d MX9_kinks 73 [x0, x1, x2, x3, x4, x5, x6, x7, x8, x9] [.int 1, .int v0] I J P Q := wp_iconst (by decide) dX9_kinks_72
theorem e_X9_kinks_73 {v0 : Int32} {v1 : Int32} {x0 x1 x2 x3 x4 x5 x6 x7 x8 x9 : Option Value} : Wp S N d MX9_kinks 73 [x0, x1, x2, x3, x4, x5, x6, x7, x8, x9] [.int v0, .int v1] I J P Q ↔ Wp S N d MX9_kinks 74 [x0, x1, x2, x3, x4, x5, x6, x7, x8, x9] [.int (v1 + v0)] I J P Q := wp_alu (len := 1) rfl rfl rfl dX9_kinks_73
theorem e_X9_kinks_74 {v0 : Int32} {x0 x1 x2 x3 x4 x5 x6 x7 x8 x9 : Option Value} : Wp S N d MX9_kinks 74 [x0, x1, x2, x3, x4, x5, x6, x7, x8, x9] [.int v0] I J P Q ↔ Wp S N d MX9_kinks 75 [x0, kl x1, some (.int v0), x3, x4, x5, x6, x7, x8, x9] [] I J P Q := wp_sto (len := 1) rfl rfl rfl rfl (Nat.le_of_ble_eq_true rfl) rfl dX9_kinks_74
theorem e_X9_kinks_75 {w : Int64} {x0 x1 x2 x3 x4 x5 x6 x7 x9 : Option Value} : Wp S N d MX9_kinks 75 [x0, x1, x2, x3, x4, x5, x6, x7, some (.long w), x9] [] I J P Q ↔ Wp S N d MX9_kinks 77 [x0, x1, x2, x3, x4, x5, x6, x7, some (.long w), x9] [.long w] I J P Q := wp_lod (len := 2) rfl rfl rfl rfl dX9_kinks_75
theorem e_X9_kinks_77 {v0 : Int64} {w : Int64} {x0 x1 x2 x3 x4 x6 x7 x8 x9 : Option Value} : Wp S N d MX9_kinks 77 [x0, x1, x2, x3, x4, some (.long w), x6, x7, x8, x9] [.long v0] I J P Q ↔ Wp S N d MX9_kinks 79 [x0, x1, x2, x3, x4, some (.long w), x6, x7, x8, x9] [.long w, .long v0] I J P Q := wp_lod (len := 2) rfl rfl rfl rfl dX9_kinks_77
theorem e_X9_kinks_79 {v0 : Int64} {v1 : Int64} {x0 x1 x2 x3 x4 x5 x6 x7 x8 x9 : Option Value} : Wp S N d MX9_kinks 79 [x0, x1, x2, x3, x4, x5, x6, x7, x8, x9] [.long v0, .long v1] I J P Q ↔ Wp S N d MX9_kinks 80 [x0, x1, x2, x3, x4, x5, x6, x7, x8, x9] [.long (v1 - v0)] I J P Q := wp_alu (len := 1) rfl rfl rfl dX9_kinks_79
theorem e_X9_kinks_80 {v0 : Int64} {x0 x1 x2 x3 x4 x5 x6 x7 x8 x9 : Option Value} : Wp S N d MX9_kinks 80 [x0, x1, x2, x3, x4, x5, x6, x7, x8, x9] [.long v0] I J P Q ↔ Wp S N d MX9_kinks 81 [x0, x1, kl x2, some (.long v0), none, x5, x6, x7, x8, x9] [] I J P Q := wp_sto (len := 1) rfl rfl rfl rfl (Nat.le_of_ble_eq_true rfl) rfl dX9_kinks_80
theorem e_X9_kinks_81 {w : Int64} {x0 x1 x2 x3 x4 x5 x6 x7 x9 : Option Value} : Wp S N d MX9_kinks 81 [x0, x1, x2, x3, x4, x5, x6, x7, some (.long w), x9] [] I J P Q ↔ Wp S N d MX9_kinks 83 [x0, x1, x2, x3, x4, x5, x6, x7, some (.long w), x9] [.long w] I J P Q := wp_lod (len := 2) rfl rfl rfl rfl dX9_kinks_81
theorem e_X9_kinks_83 {v0 : Int64} {x0 x1 x2 x3 x4 x5 x6 x7 x8 x9 : Option Value} : Wp S N d MX9_kinks 83 [x0, x1, x2, x3, x4, x5, x6, x7, x8, x9] [.long v0] I J P Q ↔ Wp S N d MX9_kinks 85 [x0, x1, x2, x3, kl x4, some (.long v0), none, x7, x8, x9] [] I J P Q := wp_sto (len := 2) rfl rfl rfl rfl (Nat.le_of_ble_eq_true rfl) rfl dX9_kinks_83
theorem e_X9_kinks_85 {w : Int32} {x0 x1 x2 x3 x4 x5 x6 x8 x9 : Option Value} : Wp S N d MX9_kinks 85 [x0, x1, x2, x3, x4, x5, x6, some (.int w), x8, x9] [] I J P Q ↔ Wp S N d MX9_kinks 88 [x0, x1, x2, x3, x4, x5, kl x6, some (.int (w + 1)), x8, x9] [] I J P Q := wp_inc rfl rfl dX9_kinks_85
theorem e_X9_kinks_88  {x0 x1 x2 x3 x4 x5 x6 x7 x8 x9 : Option Value} : Wp S N d MX9_kinks 88 [x0, x1, x2, x3, x4, x5, x6, x7, x8, x9] [] I J P Q ↔ Wp S N d MX9_kinks 38 [x0, x1, x2, x3, x4, x5, x6, x7, x8, x9] [] I J P Q := wp_go (len := 3) rfl (fun _ _ => rfl) rfl (by decide) dX9_kinks_88
theorem e_X9_kinks_91 {w : Int32} {x0 x1 x3 x4 x5 x6 x7 x8 x9 : Option Value} : Wp S N d MX9_kinks 91 [x0, x1, some (.int w), x3, x4, x5, x6, x7, x8, x9] [] I J P Q ↔ Wp S N d MX9_kinks 92 [x0, x1, some (.int w), x3, x4, x5, x6, x7, x8, x9] [.int w] I J P Q := wp_lod (len := 1) rfl rfl rfl rfl dX9_kinks_91
theorem e_X9_kinks_92 {v0 : Int32} {x0 x1 x2 x3 x4 x5 x6 x7 x8 x9 : Option Value} : Wp S N d MX9_kinks 92 [x0, x1, x2, x3, x4, x5, x6, x7, x8, x9] [.int v0] I J P Q ↔ Q (some (.int v0)) I J P := wp_iret rfl dX9_kinks_92
theorem dX9_nextKink_0 : decode cX9_nextKink 0 = .ok (.aload_n 0, 1) := by decide +kernel
theorem dX9_nextKink_1 : decode cX9_nextKink 1 = .ok (.iconst 0, 1) := by decide +kernel
theorem dX9_nextKink_2 : decode cX9_nextKink 2 = .ok (.putfield 57, 3) := by decide +kernel
theorem dX9_nextKink_5 : decode cX9_nextKink 5 = .ok (.iload_n 1, 1) := by decide +kernel
theorem dX9_nextKink_6 : decode cX9_nextKink 6 = .ok (.invokestatic 140, 3) := by decide +kernel
theorem dX9_nextKink_9 : decode cX9_nextKink 9 = .ok (.ifCond .ne 9, 3) := by decide +kernel
theorem dX9_nextKink_12 : decode cX9_nextKink 12 = .ok (.aload_n 0, 1) := by decide +kernel
theorem dX9_nextKink_13 : decode cX9_nextKink 13 = .ok (.iconst 1, 1) := by decide +kernel
theorem dX9_nextKink_14 : decode cX9_nextKink 14 = .ok (.invokevirtual 67, 3) := by decide +kernel
theorem dX9_nextKink_17 : decode cX9_nextKink 17 = .ok (.ireturn, 1) := by decide +kernel
theorem dX9_nextKink_18 : decode cX9_nextKink 18 = .ok (.iload_n 2, 1) := by decide +kernel
theorem dX9_nextKink_19 : decode cX9_nextKink 19 = .ok (.iconst 1, 1) := by decide +kernel
theorem dX9_nextKink_20 : decode cX9_nextKink 20 = .ok (.if_icmp .ge 7, 3) := by decide +kernel
theorem dX9_nextKink_23 : decode cX9_nextKink 23 = .ok (.iconst 1, 1) := by decide +kernel
theorem dX9_nextKink_24 : decode cX9_nextKink 24 = .ok (.goto 19, 3) := by decide +kernel
theorem dX9_nextKink_27 : decode cX9_nextKink 27 = .ok (.iload_n 2, 1) := by decide +kernel
theorem dX9_nextKink_28 : decode cX9_nextKink 28 = .ok (.sipush 9998, 3) := by decide +kernel
theorem dX9_nextKink_31 : decode cX9_nextKink 31 = .ok (.if_icmp .ge 9, 3) := by decide +kernel
theorem dX9_nextKink_34 : decode cX9_nextKink 34 = .ok (.iload_n 2, 1) := by decide +kernel
theorem dX9_nextKink_35 : decode cX9_nextKink 35 = .ok (.iconst 1, 1) := by decide +kernel
theorem dX9_nextKink_36 : decode cX9_nextKink 36 = .ok (.iadd, 1) := by decide +kernel
theorem dX9_nextKink_37 : decode cX9_nextKink 37 = .ok (.goto 6, 3) := by decide +kernel
theorem dX9_nextKink_40 : decode cX9_nextKink 40 = .ok (.sipush 9999, 3) := by decide +kernel
theorem dX9_nextKink_43 : decode cX9_nextKink 43 = .ok (.istore_n 3, 1) := by decide +kernel
theorem dX9_nextKink_44 : decode cX9_nextKink 44 = .ok (.iload_n 3, 1) := by decide +kernel
theorem dX9_nextKink_45 : decode cX9_nextKink 45 = .ok (.sipush 9999, 3) := by decide +kernel
theorem dX9_nextKink_48 : decode cX9_nextKink 48 = .ok (.if_icmp .ge 20, 3) := by decide +kernel
theorem dX9_nextKink_51 : decode cX9_nextKink 51 = .ok (.aload_n 0, 1) := by decide +kernel
theorem dX9_nextKink_52 : decode cX9_nextKink 52 = .ok (.iload_n 1, 1) := by decide +kernel
theorem dX9_nextKink_53 : decode cX9_nextKink 53 = .ok (.iload_n 3, 1) := by decide +kernel
theorem dX9_nextKink_54 : decode cX9_nextKink 54 = .ok (.invokevirtual 227, 3) := by decide +kernel
theorem dX9_nextKink_57 : decode cX9_nextKink 57 = .ok (.ifCond .eq 5, 3) := by decide +kernel
theorem dX9_nextKink_60 : decode cX9_nextKink 60 = .ok (.iload_n 3, 1) := by decide +kernel
theorem dX9_nextKink_61 : decode cX9_nextKink 61 = .ok (.ireturn, 1) := by decide +kernel
theorem dX9_nextKink_62 : decode cX9_nextKink 62 = .ok (.iinc 3 1, 3) := by decide +kernel
theorem dX9_nextKink_65 : decode cX9_nextKink 65 = .ok (.goto (-21), 3) := by decide +kernel
theorem dX9_nextKink_68 : decode cX9_nextKink 68 = .ok (.aload_n 0, 1) := by decide +kernel
theorem dX9_nextKink_69 : decode cX9_nextKink 69 = .ok (.iconst 2, 1) := by decide +kernel
theorem dX9_nextKink_70 : decode cX9_nextKink 70 = .ok (.invokevirtual 67, 3) := by decide +kernel
theorem dX9_nextKink_73 : decode cX9_nextKink 73 = .ok (.ireturn, 1) := by decide +kernel
theorem c_X9_nextKink {a0 : Nat} {a1 : Int32} {a2 : Int32} : CWp S N d MX9_nextKink [.ref a0, .int a1, .int a2] I J P Q ↔ Wp S N d MX9_nextKink 0 [some (.ref a0), some (.int a1), some (.int a2), none] [] I J P Q := by
  rw [cwp_iff]
  exact ⟨fun h => h.2, fun h => ⟨Nat.le_of_ble_eq_true rfl, h⟩⟩
theorem e_X9_nextKink_0 {w : Nat} {x1 x2 x3 : Option Value} : Wp S N d MX9_nextKink 0 [some (.ref w), x1, x2, x3] [] I J P Q ↔ Wp S N d MX9_nextKink 1 [some (.ref w), x1, x2, x3] [.ref w] I J P Q := wp_lod (len := 1) rfl rfl rfl rfl dX9_nextKink_0
theorem e_X9_nextKink_1 {v0 : Nat} {x0 x1 x2 x3 : Option Value} : Wp S N d MX9_nextKink 1 [x0, x1, x2, x3] [.ref v0] I J P Q ↔ Wp S N d MX9_nextKink 2 [x0, x1, x2, x3] [.int 0, .ref v0] I J P Q := wp_iconst (by decide) dX9_nextKink_1
theorem e_X9_nextKink_2 {v0 : Int32} {v1 : Nat} {x0 x1 x2 x3 : Option Value} : Wp S N d MX9_nextKink 2 [x0, x1, x2, x3] [.int v0, .ref v1] I J P Q ↔ S v1 = 9 ∧ Wp S N d MX9_nextKink 5 [x0, x1, x2, x3] [] (u2 I v1 8 v0) J P Q := wp_putI rfl rfl rfl rfl dX9_nextKink_2
theorem e_X9_nextKink_5 {w : Int32} {x0 x2 x3 : Option Value} : Wp S N d MX9_nextKink 5 [x0, some (.int w), x2, x3] [] I J P Q ↔ Wp S N d MX9_nextKink 6 [x0, some (.int w), x2, x3] [.int w] I J P Q := wp_lod (len := 1) rfl rfl rfl rfl dX9_nextKink_5
theorem e_X9_nextKink_6 {v0 : Int32} {x0 x1 x2 x3 : Option Value} : Wp S N (d + 1) MX9_nextKink 6 [x0, x1, x2, x3] [.int v0] I J P Q ↔ CWp S N d MX9_isPerson [.int v0] I J P (fun r I1 J1 P1 => Wp S N (d + 1) MX9_nextKink 9 [x0, x1, x2, x3] (r.toList ++ []) I1 J1 P1 Q) := wp_callS (M' := MX9_isPerson) (As := [.int v0]) rfl rfl rfl rfl (Nat.le_of_ble_eq_true rfl) dX9_nextKink_6
theorem e_X9_nextKink_9 {v0 : Int32} {x0 x1 x2 x3 : Option Value} : Wp S N d MX9_nextKink 9 [x0, x1, x2, x3] [.int v0] I J P Q ↔ (¬ v0 = 0 → Wp S N d MX9_nextKink 18 [x0, x1, x2, x3] [] I J P Q) ∧ (v0 = 0 → Wp S N d MX9_nextKink 12 [x0, x1, x2, x3] [] I J P Q) := wp_brn rfl rfl (by decide) dX9_nextKink_9
theorem e_X9_nextKink_12 {w : Nat} {x1 x2 x3 : Option Value} : Wp S N d MX9_nextKink 12 [some (.ref w), x1, x2, x3] [] I J P Q ↔ Wp S N d MX9_nextKink 13 [some (.ref w), x1, x2, x3] [.ref w] I J P Q := wp_lod (len := 1) rfl rfl rfl rfl dX9_nextKink_12
theorem e_X9_nextKink_13 {v0 : Nat} {x0 x1 x2 x3 : Option Value} : Wp S N d MX9_nextKink 13 [x0, x1, x2, x3] [.ref v0] I J P Q ↔ Wp S N d MX9_nextKink 14 [x0, x1, x2, x3] [.int 1, .ref v0] I J P Q := wp_iconst (by decide) dX9_nextKink_13
theorem e_X9_nextKink_14 {v0 : Int32} {v1 : Nat} {x0 x1 x2 x3 : Option Value} : Wp S N (d + 1) MX9_nextKink 14 [x0, x1, x2, x3] [.int v0, .ref v1] I J P Q ↔ S v1 = 9 ∧ CWp S N d MX9_fails [.ref v1, .int v0] I J P (fun r I1 J1 P1 => Wp S N (d + 1) MX9_nextKink 17 [x0, x1, x2, x3] (r.toList ++ []) I1 J1 P1 Q) := wp_callV (M' := MX9_fails) (As := [.int v0]) rfl rfl rfl rfl (by decide) (Nat.le_of_ble_eq_true rfl) dX9_nextKink_14
theorem e_X9_nextKink_17 {v0 : Int32} {x0 x1 x2 x3 : Option Value} : Wp S N d MX9_nextKink 17 [x0, x1, x2, x3] [.int v0] I J P Q ↔ Q (some (.int v0)) I J P := wp_iret rfl dX9_nextKink_17
theorem e_X9_nextKink_18 {w : Int32} {x0 x1 x3 : Option Value} : Wp S N d MX9_nextKink 18 [x0, x1, some (.int w), x3] [] I J P Q ↔ Wp S N d MX9_nextKink 19 [x0, x1, some (.int w), x3] [.int w] I J P Q := wp_lod (len := 1) rfl rfl rfl rfl dX9_nextKink_18
theorem e_X9_nextKink_19 {v0 : Int32} {x0 x1 x2 x3 : Option Value} : Wp S N d MX9_nextKink 19 [x0, x1, x2, x3] [.int v0] I J P Q ↔ Wp S N d MX9_nextKink 20 [x0, x1, x2, x3] [.int 1, .int v0] I J P Q := wp_iconst (by decide) dX9_nextKink_19
theorem e_X9_nextKink_20 {v0 : Int32} {v1 : Int32} {x0 x1 x2 x3 : Option Value} : Wp S N d MX9_nextKink 20 [x0, x1, x2, x3] [.int v0, .int v1] I J P Q ↔ (v0 ≤ v1 → Wp S N d MX9_nextKink 27 [x0, x1, x2, x3] [] I J P Q) ∧ (¬ v0 ≤ v1 → Wp S N d MX9_nextKink 23 [x0, x1, x2, x3] [] I J P Q) := wp_br rfl rfl (by decide) dX9_nextKink_20
theorem e_X9_nextKink_23  {x0 x1 x2 x3 : Option Value} : Wp S N d MX9_nextKink 23 [x0, x1, x2, x3] [] I J P Q ↔ Wp S N d MX9_nextKink 24 [x0, x1, x2, x3] [.int 1] I J P Q := wp_iconst (by decide) dX9_nextKink_23
theorem e_X9_nextKink_24 {v0 : Int32} {x0 x1 x2 x3 : Option Value} : Wp S N d MX9_nextKink 24 [x0, x1, x2, x3] [.int v0] I J P Q ↔ Wp S N d MX9_nextKink 43 [x0, x1, x2, x3] [.int v0] I J P Q := wp_go (len := 3) rfl (fun _ _ => rfl) rfl (by decide) dX9_nextKink_24
theorem e_X9_nextKink_27 {w : Int32} {x0 x1 x3 : Option Value} : Wp S N d MX9_nextKink 27 [x0, x1, some (.int w), x3] [] I J P Q ↔ Wp S N d MX9_nextKink 28 [x0, x1, some (.int w), x3] [.int w] I J P Q := wp_lod (len := 1) rfl rfl rfl rfl dX9_nextKink_27
theorem e_X9_nextKink_28 {v0 : Int32} {x0 x1 x2 x3 : Option Value} : Wp S N d MX9_nextKink 28 [x0, x1, x2, x3] [.int v0] I J P Q ↔ Wp S N d MX9_nextKink 31 [x0, x1, x2, x3] [.int 9998, .int v0] I J P Q := wp_sipush (by decide) dX9_nextKink_28
theorem e_X9_nextKink_31 {v0 : Int32} {v1 : Int32} {x0 x1 x2 x3 : Option Value} : Wp S N d MX9_nextKink 31 [x0, x1, x2, x3] [.int v0, .int v1] I J P Q ↔ (v0 ≤ v1 → Wp S N d MX9_nextKink 40 [x0, x1, x2, x3] [] I J P Q) ∧ (¬ v0 ≤ v1 → Wp S N d MX9_nextKink 34 [x0, x1, x2, x3] [] I J P Q) := wp_br rfl rfl (by decide) dX9_nextKink_31
theorem e_X9_nextKink_34 {w : Int32} {x0 x1 x3 : Option Value} : Wp S N d MX9_nextKink 34 [x0, x1, some (.int w), x3] [] I J P Q ↔ Wp S N d MX9_nextKink 35 [x0, x1, some (.int w), x3] [.int w] I J P Q := wp_lod (len := 1) rfl rfl rfl rfl dX9_nextKink_34
theorem e_X9_nextKink_35 {v0 : Int32} {x0 x1 x2 x3 : Option Value} : Wp S N d MX9_nextKink 35 [x0, x1, x2, x3] [.int v0] I J P Q ↔ Wp S N d MX9_nextKink 36 [x0, x1, x2, x3] [.int 1, .int v0] I J P Q := wp_iconst (by decide) dX9_nextKink_35
theorem e_X9_nextKink_36 {v0 : Int32} {v1 : Int32} {x0 x1 x2 x3 : Option Value} : Wp S N d MX9_nextKink 36 [x0, x1, x2, x3] [.int v0, .int v1] I J P Q ↔ Wp S N d MX9_nextKink 37 [x0, x1, x2, x3] [.int (v1 + v0)] I J P Q := wp_alu (len := 1) rfl rfl rfl dX9_nextKink_36
theorem e_X9_nextKink_37 {v0 : Int32} {x0 x1 x2 x3 : Option Value} : Wp S N d MX9_nextKink 37 [x0, x1, x2, x3] [.int v0] I J P Q ↔ Wp S N d MX9_nextKink 43 [x0, x1, x2, x3] [.int v0] I J P Q := wp_go (len := 3) rfl (fun _ _ => rfl) rfl (by decide) dX9_nextKink_37
theorem e_X9_nextKink_40  {x0 x1 x2 x3 : Option Value} : Wp S N d MX9_nextKink 40 [x0, x1, x2, x3] [] I J P Q ↔ Wp S N d MX9_nextKink 43 [x0, x1, x2, x3] [.int 9999] I J P Q := wp_sipush (by decide) dX9_nextKink_40
theorem e_X9_nextKink_43 {v0 : Int32} {x0 x1 x2 x3 : Option Value} : Wp S N d MX9_nextKink 43 [x0, x1, x2, x3] [.int v0] I J P Q ↔ Wp S N d MX9_nextKink 44 [x0, x1, kl x2, some (.int v0)] [] I J P Q := wp_sto (len := 1) rfl rfl rfl rfl (Nat.le_of_ble_eq_true rfl) rfl dX9_nextKink_43
theorem e_X9_nextKink_44 {w : Int32} {x0 x1 x2 : Option Value} : Wp S N d MX9_nextKink 44 [x0, x1, x2, some (.int w)] [] I J P Q ↔ Wp S N d MX9_nextKink 45 [x0, x1, x2, some (.int w)] [.int w] I J P Q := wp_lod (len := 1) rfl rfl rfl rfl dX9_nextKink_44
theorem e_X9_nextKink_45 {v0 : Int32} {x0 x1 x2 x3 : Option Value} : Wp S N d MX9_nextKink 45 [x0, x1, x2, x3] [.int v0] I J P Q ↔ Wp S N d MX9_nextKink 48 [x0, x1, x2, x3] [.int 9999, .int v0] I J P Q := wp_sipush (by decide) dX9_nextKink_45
theorem e_X9_nextKink_48 {v0 : Int32} {v1 : Int32} {x0 x1 x2 x3 : Option Value} : Wp S N d MX9_nextKink 48 [x0, x1, x2, x3] [.int v0, .int v1] I J P Q ↔ (v0 ≤ v1 → Wp S N d MX9_nextKink 68 [x0, x1, x2, x3] [] I J P Q) ∧ (¬ v0 ≤ v1 → Wp S N d MX9_nextKink 51 [x0, x1, x2, x3] [] I J P Q) := wp_br rfl rfl (by decide) dX9_nextKink_48
theorem e_X9_nextKink_51 {w : Nat} {x1 x2 x3 : Option Value} : Wp S N d MX9_nextKink 51 [some (.ref w), x1, x2, x3] [] I J P Q ↔ Wp S N d MX9_nextKink 52 [some (.ref w), x1, x2, x3] [.ref w] I J P Q := wp_lod (len := 1) rfl rfl rfl rfl dX9_nextKink_51
theorem e_X9_nextKink_52 {v0 : Nat} {w : Int32} {x0 x2 x3 : Option Value} : Wp S N d MX9_nextKink 52 [x0, some (.int w), x2, x3] [.ref v0] I J P Q ↔ Wp S N d MX9_nextKink 53 [x0, some (.int w), x2, x3] [.int w, .ref v0] I J P Q := wp_lod (len := 1) rfl rfl rfl rfl dX9_nextKink_52
theorem e_X9_nextKink_53 {v0 : Int32} {v1 : Nat} {w : Int32} {x0 x1 x2 : Option Value} : Wp S N d MX9_nextKink 53 [x0, x1, x2, some (.int w)] [.int v0, .ref v1] I J P Q ↔ Wp S N d MX9_nextKink 54 [x0, x1, x2, some (.int w)] [.int w, .int v0, .ref v1] I J P Q := wp_lod (len := 1) rfl rfl rfl rfl dX9_nextKink_53
theorem e_X9_nextKink_54 {v0 : Int32} {v1 : Int32} {v2 : Nat} {x0 x1 x2 x3 : Option Value} : Wp S N (d + 1) MX9_nextKink 54 [x0, x1, x2, x3] [.int v0, .int v1, .ref v2] I J P Q ↔ S v2 = 9 ∧ CWp S N d MX9_isKink [.ref v2, .int v1, .int v0] I J P (fun r I1 J1 P1 => Wp S N (d + 1) MX9_nextKink 57 [x0, x1, x2, x3] (r.toList ++ []) I1 J1 P1 Q) := wp_callV (M' := MX9_isKink) (As := [.int v1, .int v0]) rfl rfl rfl rfl (by decide) (Nat.le_of_ble_eq_true rfl) dX9_nextKink_54
theorem e_X9_nextKink_57 {v0 : Int32} {x0 x1 x2 x3 : Option Value} : Wp S N d MX9_nextKink 57 [x0, x1, x2, x3] [.int v0] I J P Q ↔ (v0 = 0 → Wp S N d MX9_nextKink 62 [x0, x1, x2, x3] [] I J P Q) ∧ (¬ v0 = 0 → Wp S N d MX9_nextKink 60 [x0, x1, x2, x3] [] I J P Q) := wp_br rfl rfl (by decide) dX9_nextKink_57
theorem e_X9_nextKink_60 {w : Int32} {x0 x1 x2 : Option Value} : Wp S N d MX9_nextKink 60 [x0, x1, x2, some (.int w)] [] I J P Q ↔ Wp S N d MX9_nextKink 61 [x0, x1, x2, some (.int w)] [.int w] I J P Q := wp_lod (len := 1) rfl rfl rfl rfl dX9_nextKink_60
theorem e_X9_nextKink_61 {v0 : Int32} {x0 x1 x2 x3 : Option Value} : Wp S N d MX9_nextKink 61 [x0, x1, x2, x3] [.int v0] I J P Q ↔ Q (some (.int v0)) I J P := wp_iret rfl dX9_nextKink_61
theorem e_X9_nextKink_62 {w : Int32} {x0 x1 x2 : Option Value} : Wp S N d MX9_nextKink 62 [x0, x1, x2, some (.int w)] [] I J P Q ↔ Wp S N d MX9_nextKink 65 [x0, x1, kl x2, some (.int (w + 1))] [] I J P Q := wp_inc rfl rfl dX9_nextKink_62
theorem e_X9_nextKink_65  {x0 x1 x2 x3 : Option Value} : Wp S N d MX9_nextKink 65 [x0, x1, x2, x3] [] I J P Q ↔ Wp S N d MX9_nextKink 44 [x0, x1, x2, x3] [] I J P Q := wp_go (len := 3) rfl (fun _ _ => rfl) rfl (by decide) dX9_nextKink_65
theorem e_X9_nextKink_68 {w : Nat} {x1 x2 x3 : Option Value} : Wp S N d MX9_nextKink 68 [some (.ref w), x1, x2, x3] [] I J P Q ↔ Wp S N d MX9_nextKink 69 [some (.ref w), x1, x2, x3] [.ref w] I J P Q := wp_lod (len := 1) rfl rfl rfl rfl dX9_nextKink_68
theorem e_X9_nextKink_69 {v0 : Nat} {x0 x1 x2 x3 : Option Value} : Wp S N d MX9_nextKink 69 [x0, x1, x2, x3] [.ref v0] I J P Q ↔ Wp S N d MX9_nextKink 70 [x0, x1, x2, x3] [.int 2, .ref v0] I J P Q := wp_iconst (by decide) dX9_nextKink_69
theorem e_X9_nextKink_70 {v0 : Int32} {v1 : Nat} {x0 x1 x2 x3 : Option Value} : Wp S N (d + 1) MX9_nextKink 70 [x0, x1, x2, x3] [.int v0, .ref v1] I J P Q ↔ S v1 = 9 ∧ CWp S N d MX9_fails [.ref v1, .int v0] I J P (fun r I1 J1 P1 => Wp S N (d + 1) MX9_nextKink 73 [x0, x1, x2, x3] (r.toList ++ []) I1 J1 P1 Q) := wp_callV (M' := MX9_fails) (As := [.int v0]) rfl rfl rfl rfl (by decide) (Nat.le_of_ble_eq_true rfl) dX9_nextKink_70
theorem e_X9_nextKink_73 {v0 : Int32} {x0 x1 x2 x3 : Option Value} : Wp S N d MX9_nextKink 73 [x0, x1, x2, x3] [.int v0] I J P Q ↔ Q (some (.int v0)) I J P := wp_iret rfl dX9_nextKink_73
theorem dX9_partAt_0 : decode cX9_partAt 0 = .ok (.aload_n 0, 1) := by decide +kernel
theorem dX9_partAt_1 : decode cX9_partAt 1 = .ok (.iload_n 1, 1) := by decide +kernel
theorem dX9_partAt_2 : decode cX9_partAt 2 = .ok (.iload_n 2, 1) := by decide +kernel
theorem dX9_partAt_3 : decode cX9_partAt 3 = .ok (.invokevirtual 221, 3) := by decide +kernel
theorem dX9_partAt_6 : decode cX9_partAt 6 = .ok (.pop2, 1) := by decide +kernel
theorem dX9_partAt_7 : decode cX9_partAt 7 = .ok (.iload_n 3, 1) := by decide +kernel
theorem dX9_partAt_8 : decode cX9_partAt 8 = .ok (.iconst 4, 1) := by decide +kernel
theorem dX9_partAt_9 : decode cX9_partAt 9 = .ok (.if_icmp .ge 14, 3) := by decide +kernel
theorem dX9_partAt_12 : decode cX9_partAt 12 = .ok (.aload_n 0, 1) := by decide +kernel
theorem dX9_partAt_13 : decode cX9_partAt 13 = .ok (.getfield 39, 3) := by decide +kernel
theorem dX9_partAt_16 : decode cX9_partAt 16 = .ok (.iload_n 3, 1) := by decide +kernel
theorem dX9_partAt_17 : decode cX9_partAt 17 = .ok (.iconst 2, 1) := by decide +kernel
theorem dX9_partAt_18 : decode cX9_partAt 18 = .ok (.iadd, 1) := by decide +kernel
theorem dX9_partAt_19 : decode cX9_partAt 19 = .ok (.laload, 1) := by decide +kernel
theorem dX9_partAt_20 : decode cX9_partAt 20 = .ok (.goto 11, 3) := by decide +kernel
theorem dX9_partAt_23 : decode cX9_partAt 23 = .ok (.aload_n 0, 1) := by decide +kernel
theorem dX9_partAt_24 : decode cX9_partAt 24 = .ok (.getfield 51, 3) := by decide +kernel
theorem dX9_partAt_27 : decode cX9_partAt 27 = .ok (.iload_n 3, 1) := by decide +kernel
theorem dX9_partAt_28 : decode cX9_partAt 28 = .ok (.iconst 4, 1) := by decide +kernel
theorem dX9_partAt_29 : decode cX9_partAt 29 = .ok (.isub, 1) := by decide +kernel
theorem dX9_partAt_30 : decode cX9_partAt 30 = .ok (.laload, 1) := by decide +kernel
theorem dX9_partAt_31 : decode cX9_partAt 31 = .ok (.lreturn, 1) := by decide +kernel
theorem c_X9_partAt {a0 : Nat} {a1 : Int32} {a2 : Int32} {a3 : Int32} : CWp S N d MX9_partAt [.ref a0, .int a1, .int a2, .int a3] I J P Q ↔ Wp S N d MX9_partAt 0 [some (.ref a0), some (.int a1), some (.int a2), some (.int a3)] [] I J P Q := by
  rw [cwp_iff]
  exact ⟨fun h => h.2, fun h => ⟨Nat.le_of_ble_eq_true rfl, h⟩⟩
theorem e_X9_partAt_0 {w : Nat} {x1 x2 x3 : Option Value} : Wp S N d MX9_partAt 0 [some (.ref w), x1, x2, x3] [] I J P Q ↔ Wp S N d MX9_partAt 1 [some (.ref w), x1, x2, x3] [.ref w] I J P Q := wp_lod (len := 1) rfl rfl rfl rfl dX9_partAt_0
theorem e_X9_partAt_1 {v0 : Nat} {w : Int32} {x0 x2 x3 : Option Value} : Wp S N d MX9_partAt 1 [x0, some (.int w), x2, x3] [.ref v0] I J P Q ↔ Wp S N d MX9_partAt 2 [x0, some (.int w), x2, x3] [.int w, .ref v0] I J P Q := wp_lod (len := 1) rfl rfl rfl rfl dX9_partAt_1
theorem e_X9_partAt_2 {v0 : Int32} {v1 : Nat} {w : Int32} {x0 x1 x3 : Option Value} : Wp S N d MX9_partAt 2 [x0, x1, some (.int w), x3] [.int v0, .ref v1] I J P Q ↔ Wp S N d MX9_partAt 3 [x0, x1, some (.int w), x3] [.int w, .int v0, .ref v1] I J P Q := wp_lod (len := 1) rfl rfl rfl rfl dX9_partAt_2
theorem e_X9_partAt_3 {v0 : Int32} {v1 : Int32} {v2 : Nat} {x0 x1 x2 x3 : Option Value} : Wp S N (d + 1) MX9_partAt 3 [x0, x1, x2, x3] [.int v0, .int v1, .ref v2] I J P Q ↔ S v2 = 9 ∧ CWp S N d MX9_taxAt [.ref v2, .int v1, .int v0] I J P (fun r I1 J1 P1 => Wp S N (d + 1) MX9_partAt 6 [x0, x1, x2, x3] (r.toList ++ []) I1 J1 P1 Q) := wp_callV (M' := MX9_taxAt) (As := [.int v1, .int v0]) rfl rfl rfl rfl (by decide) (Nat.le_of_ble_eq_true rfl) dX9_partAt_3
theorem e_X9_partAt_6 {v0 : Int64} {x0 x1 x2 x3 : Option Value} : Wp S N d MX9_partAt 6 [x0, x1, x2, x3] [.long v0] I J P Q ↔ Wp S N d MX9_partAt 7 [x0, x1, x2, x3] [] I J P Q := wp_alu (len := 1) rfl rfl rfl dX9_partAt_6
theorem e_X9_partAt_7 {w : Int32} {x0 x1 x2 : Option Value} : Wp S N d MX9_partAt 7 [x0, x1, x2, some (.int w)] [] I J P Q ↔ Wp S N d MX9_partAt 8 [x0, x1, x2, some (.int w)] [.int w] I J P Q := wp_lod (len := 1) rfl rfl rfl rfl dX9_partAt_7
theorem e_X9_partAt_8 {v0 : Int32} {x0 x1 x2 x3 : Option Value} : Wp S N d MX9_partAt 8 [x0, x1, x2, x3] [.int v0] I J P Q ↔ Wp S N d MX9_partAt 9 [x0, x1, x2, x3] [.int 4, .int v0] I J P Q := wp_iconst (by decide) dX9_partAt_8
theorem e_X9_partAt_9 {v0 : Int32} {v1 : Int32} {x0 x1 x2 x3 : Option Value} : Wp S N d MX9_partAt 9 [x0, x1, x2, x3] [.int v0, .int v1] I J P Q ↔ (v0 ≤ v1 → Wp S N d MX9_partAt 23 [x0, x1, x2, x3] [] I J P Q) ∧ (¬ v0 ≤ v1 → Wp S N d MX9_partAt 12 [x0, x1, x2, x3] [] I J P Q) := wp_br rfl rfl (by decide) dX9_partAt_9
theorem e_X9_partAt_12 {w : Nat} {x1 x2 x3 : Option Value} : Wp S N d MX9_partAt 12 [some (.ref w), x1, x2, x3] [] I J P Q ↔ Wp S N d MX9_partAt 13 [some (.ref w), x1, x2, x3] [.ref w] I J P Q := wp_lod (len := 1) rfl rfl rfl rfl dX9_partAt_12
theorem e_X9_partAt_13 {v0 : Nat} {x0 x1 x2 x3 : Option Value} : Wp S N d MX9_partAt 13 [x0, x1, x2, x3] [.ref v0] I J P Q ↔ S v0 = 9 ∧ Wp S N d MX9_partAt 16 [x0, x1, x2, x3] [va_rf (P v0 16)] I J P Q := wp_getf rfl rfl rfl rfl dX9_partAt_13
theorem e_X9_partAt_16 {v0 : Nat} {w : Int32} {x0 x1 x2 : Option Value} : Wp S N d MX9_partAt 16 [x0, x1, x2, some (.int w)] [.ref v0] I J P Q ↔ Wp S N d MX9_partAt 17 [x0, x1, x2, some (.int w)] [.int w, .ref v0] I J P Q := wp_lod (len := 1) rfl rfl rfl rfl dX9_partAt_16
theorem e_X9_partAt_17 {v0 : Int32} {v1 : Nat} {x0 x1 x2 x3 : Option Value} : Wp S N d MX9_partAt 17 [x0, x1, x2, x3] [.int v0, .ref v1] I J P Q ↔ Wp S N d MX9_partAt 18 [x0, x1, x2, x3] [.int 2, .int v0, .ref v1] I J P Q := wp_iconst (by decide) dX9_partAt_17
theorem e_X9_partAt_18 {v0 : Int32} {v1 : Int32} {v2 : Nat} {x0 x1 x2 x3 : Option Value} : Wp S N d MX9_partAt 18 [x0, x1, x2, x3] [.int v0, .int v1, .ref v2] I J P Q ↔ Wp S N d MX9_partAt 19 [x0, x1, x2, x3] [.int (v1 + v0), .ref v2] I J P Q := wp_alu (len := 1) rfl rfl rfl dX9_partAt_18
theorem e_X9_partAt_19 {v0 : Int32} {v1 : Nat} {x0 x1 x2 x3 : Option Value} : Wp S N d MX9_partAt 19 [x0, x1, x2, x3] [.int v0, .ref v1] I J P Q ↔ (S v1 = 11 ∧ vp_in v0 (N v1)) ∧ Wp S N d MX9_partAt 20 [x0, x1, x2, x3] [.long (J v1 v0.toNatClampNeg)] I J P Q := wp_ald rfl rfl dX9_partAt_19
theorem e_X9_partAt_20 {v0 : Int64} {x0 x1 x2 x3 : Option Value} : Wp S N d MX9_partAt 20 [x0, x1, x2, x3] [.long v0] I J P Q ↔ Wp S N d MX9_partAt 31 [x0, x1, x2, x3] [.long v0] I J P Q := wp_go (len := 3) rfl (fun _ _ => rfl) rfl (by decide) dX9_partAt_20
theorem e_X9_partAt_23 {w : Nat} {x1 x2 x3 : Option Value} : Wp S N d MX9_partAt 23 [some (.ref w), x1, x2, x3] [] I J P Q ↔ Wp S N d MX9_partAt 24 [some (.ref w), x1, x2, x3] [.ref w] I J P Q := wp_lod (len := 1) rfl rfl rfl rfl dX9_partAt_23
theorem e_X9_partAt_24 {v0 : Nat} {x0 x1 x2 x3 : Option Value} : Wp S N d MX9_partAt 24 [x0, x1, x2, x3] [.ref v0] I J P Q ↔ S v0 = 9 ∧ Wp S N d MX9_partAt 27 [x0, x1, x2, x3] [va_rf (P v0 20)] I J P Q := wp_getf rfl rfl rfl rfl dX9_partAt_24
theorem e_X9_partAt_27 {v0 : Nat} {w : Int32} {x0 x1 x2 : Option Value} : Wp S N d MX9_partAt 27 [x0, x1, x2, some (.int w)] [.ref v0] I J P Q ↔ Wp S N d MX9_partAt 28 [x0, x1, x2, some (.int w)] [.int w, .ref v0] I J P Q := wp_lod (len := 1) rfl rfl rfl rfl dX9_partAt_27
theorem e_X9_partAt_28 {v0 : Int32} {v1 : Nat} {x0 x1 x2 x3 : Option Value} : Wp S N d MX9_partAt 28 [x0, x1, x2, x3] [.int v0, .ref v1] I J P Q ↔ Wp S N d MX9_partAt 29 [x0, x1, x2, x3] [.int 4, .int v0, .ref v1] I J P Q := wp_iconst (by decide) dX9_partAt_28
theorem e_X9_partAt_29 {v0 : Int32} {v1 : Int32} {v2 : Nat} {x0 x1 x2 x3 : Option Value} : Wp S N d MX9_partAt 29 [x0, x1, x2, x3] [.int v0, .int v1, .ref v2] I J P Q ↔ Wp S N d MX9_partAt 30 [x0, x1, x2, x3] [.int (v1 - v0), .ref v2] I J P Q := wp_alu (len := 1) rfl rfl rfl dX9_partAt_29
theorem e_X9_partAt_30 {v0 : Int32} {v1 : Nat} {x0 x1 x2 x3 : Option Value} : Wp S N d MX9_partAt 30 [x0, x1, x2, x3] [.int v0, .ref v1] I J P Q ↔ (S v1 = 11 ∧ vp_in v0 (N v1)) ∧ Wp S N d MX9_partAt 31 [x0, x1, x2, x3] [.long (J v1 v0.toNatClampNeg)] I J P Q := wp_ald rfl rfl dX9_partAt_30
theorem e_X9_partAt_31 {v0 : Int64} {x0 x1 x2 x3 : Option Value} : Wp S N d MX9_partAt 31 [x0, x1, x2, x3] [.long v0] I J P Q ↔ Q (some (.long v0)) I J P := wp_lret rfl dX9_partAt_31
theorem dX9_kinkCause_0 : decode cX9_kinkCause 0 = .ok (.aload_n 0, 1) := by decide +kernel
theorem dX9_kinkCause_1 : decode cX9_kinkCause 1 = .ok (.iload_n 1, 1) := by decide +kernel
theorem dX9_kinkCause_2 : decode cX9_kinkCause 2 = .ok (.invokestatic 140, 3) := by decide +kernel
theorem dX9_kinkCause_5 : decode cX9_kinkCause 5 = .ok (.ifCond .ne 7, 3) := by decide +kernel
theorem dX9_kinkCause_8 : decode cX9_kinkCause 8 = .ok (.iconst 1, 1) := by decide +kernel
theorem dX9_kinkCause_9 : decode cX9_kinkCause 9 = .ok (.goto 17, 3) := by decide +kernel
theorem dX9_kinkCause_12 : decode cX9_kinkCause 12 = .ok (.aload_n 0, 1) := by decide +kernel
theorem dX9_kinkCause_13 : decode cX9_kinkCause 13 = .ok (.iload_n 1, 1) := by decide +kernel
theorem dX9_kinkCause_14 : decode cX9_kinkCause 14 = .ok (.iload_n 2, 1) := by decide +kernel
theorem dX9_kinkCause_15 : decode cX9_kinkCause 15 = .ok (.invokevirtual 227, 3) := by decide +kernel
theorem dX9_kinkCause_18 : decode cX9_kinkCause 18 = .ok (.ifCond .eq 7, 3) := by decide +kernel
theorem dX9_kinkCause_21 : decode cX9_kinkCause 21 = .ok (.iconst 0, 1) := by decide +kernel
theorem dX9_kinkCause_22 : decode cX9_kinkCause 22 = .ok (.goto 4, 3) := by decide +kernel
theorem dX9_kinkCause_25 : decode cX9_kinkCause 25 = .ok (.iconst 2, 1) := by decide +kernel
theorem dX9_kinkCause_26 : decode cX9_kinkCause 26 = .ok (.putfield 57, 3) := by decide +kernel
theorem dX9_kinkCause_29 : decode cX9_kinkCause 29 = .ok (.aload_n 0, 1) := by decide +kernel
theorem dX9_kinkCause_30 : decode cX9_kinkCause 30 = .ok (.getfield 57, 3) := by decide +kernel
theorem dX9_kinkCause_33 : decode cX9_kinkCause 33 = .ok (.ifCond .le 5, 3) := by decide +kernel
theorem dX9_kinkCause_36 : decode cX9_kinkCause 36 = .ok (.iconst 0, 1) := by decide +kernel
theorem dX9_kinkCause_37 : decode cX9_kinkCause 37 = .ok (.ireturn, 1) := by decide +kernel
theorem dX9_kinkCause_38 : decode cX9_kinkCause 38 = .ok (.iconst 0, 1) := by decide +kernel
theorem dX9_kinkCause_39 : decode cX9_kinkCause 39 = .ok (.istore_n 3, 1) := by decide +kernel
theorem dX9_kinkCause_40 : decode cX9_kinkCause 40 = .ok (.aload_n 0, 1) := by decide +kernel
theorem dX9_kinkCause_41 : decode cX9_kinkCause 41 = .ok (.iload_n 1, 1) := by decide +kernel
theorem dX9_kinkCause_42 : decode cX9_kinkCause 42 = .ok (.iload_n 2, 1) := by decide +kernel
theorem dX9_kinkCause_43 : decode cX9_kinkCause 43 = .ok (.iload_n 3, 1) := by decide +kernel
theorem dX9_kinkCause_44 : decode cX9_kinkCause 44 = .ok (.invokevirtual 231, 3) := by decide +kernel
theorem dX9_kinkCause_47 : decode cX9_kinkCause 47 = .ok (.aload_n 0, 1) := by decide +kernel
theorem dX9_kinkCause_48 : decode cX9_kinkCause 48 = .ok (.iload_n 1, 1) := by decide +kernel
theorem dX9_kinkCause_49 : decode cX9_kinkCause 49 = .ok (.iload_n 2, 1) := by decide +kernel
theorem dX9_kinkCause_50 : decode cX9_kinkCause 50 = .ok (.iconst 1, 1) := by decide +kernel
theorem dX9_kinkCause_51 : decode cX9_kinkCause 51 = .ok (.isub, 1) := by decide +kernel
theorem dX9_kinkCause_52 : decode cX9_kinkCause 52 = .ok (.iload_n 3, 1) := by decide +kernel
theorem dX9_kinkCause_53 : decode cX9_kinkCause 53 = .ok (.invokevirtual 231, 3) := by decide +kernel
theorem dX9_kinkCause_56 : decode cX9_kinkCause 56 = .ok (.lsub, 1) := by decide +kernel
theorem dX9_kinkCause_57 : decode cX9_kinkCause 57 = .ok (.aload_n 0, 1) := by decide +kernel
theorem dX9_kinkCause_58 : decode cX9_kinkCause 58 = .ok (.iload_n 1, 1) := by decide +kernel
theorem dX9_kinkCause_59 : decode cX9_kinkCause 59 = .ok (.iload_n 2, 1) := by decide +kernel
theorem dX9_kinkCause_60 : decode cX9_kinkCause 60 = .ok (.iconst 1, 1) := by decide +kernel
theorem dX9_kinkCause_61 : decode cX9_kinkCause 61 = .ok (.iadd, 1) := by decide +kernel
theorem dX9_kinkCause_62 : decode cX9_kinkCause 62 = .ok (.iload_n 3, 1) := by decide +kernel
theorem dX9_kinkCause_63 : decode cX9_kinkCause 63 = .ok (.invokevirtual 231, 3) := by decide +kernel
theorem dX9_kinkCause_66 : decode cX9_kinkCause 66 = .ok (.aload_n 0, 1) := by decide +kernel
theorem dX9_kinkCause_67 : decode cX9_kinkCause 67 = .ok (.iload_n 1, 1) := by decide +kernel
theorem dX9_kinkCause_68 : decode cX9_kinkCause 68 = .ok (.iload_n 2, 1) := by decide +kernel
theorem dX9_kinkCause_69 : decode cX9_kinkCause 69 = .ok (.iload_n 3, 1) := by decide +kernel
theorem dX9_kinkCause_70 : decode cX9_kinkCause 70 = .ok (.invokevirtual 231, 3) := by decide +kernel
theorem dX9_kinkCause_73 : decode cX9_kinkCause 73 = .ok (.lsub, 1) := by decide +kernel
theorem dX9_kinkCause_74 : decode cX9_kinkCause 74 = .ok (.lcmp, 1) := by decide +kernel
theorem dX9_kinkCause_75 : decode cX9_kinkCause 75 = .ok (.ifCond .ne 9, 3) := by decide +kernel
theorem dX9_kinkCause_78 : decode cX9_kinkCause 78 = .ok (.iinc 3 1, 3) := by decide +kernel
theorem dX9_kinkCause_81 : decode cX9_kinkCause 81 = .ok (.goto (-41), 3) := by decide +kernel
theorem dX9_kinkCause_84 : decode cX9_kinkCause 84 = .ok (.iload_n 3, 1) := by decide +kernel
theorem dX9_kinkCause_85 : decode cX9_kinkCause 85 = .ok (.ireturn, 1) := by decide +kernel
theorem c_X9_kinkCause {a0 : Nat} {a1 : Int32} {a2 : Int32} : CWp S N d MX9_kinkCause [.ref a0, .int a1, .int a2] I J P Q ↔ Wp S N d MX9_kinkCause 0 [some (.ref a0), some (.int a1), some (.int a2), none] [] I J P Q := by
  rw [cwp_iff]
  exact ⟨fun h => h.2, fun h => ⟨Nat.le_of_ble_eq_true rfl, h⟩⟩
theorem e_X9_kinkCause_0 {w : Nat} {x1 x2 x3 : Option Value} : Wp S N d MX9_kinkCause 0 [some (.ref w), x1, x2, x3] [] I J P Q ↔ Wp S N d MX9_kinkCause 1 [some (.ref w), x1, x2, x3] [.ref w] I J P Q := wp_lod (len := 1) rfl rfl rfl rfl dX9_kinkCause_0
theorem e_X9_kinkCause_1 {v0 : Nat} {w : Int32} {x0 x2 x3 : Option Value} : Wp S N d MX9_kinkCause 1 [x0, some (.int w), x2, x3] [.ref v0] I J P Q ↔ Wp S N d MX9_kinkCause 2 [x0, some (.int w), x2, x3] [.int w, .ref v0] I J P Q := wp_lod (len := 1) rfl rfl rfl rfl dX9_kinkCause_1
theorem e_X9_kinkCause_2 {v0 : Int32} {v1 : Nat} {x0 x1 x2 x3 : Option Value} : Wp S N (d + 1) MX9_kinkCause 2 [x0, x1, x2, x3] [.int v0, .ref v1] I J P Q ↔ CWp S N d MX9_isPerson [.int v0] I J P (fun r I1 J1 P1 => Wp S N (d + 1) MX9_kinkCause 5 [x0, x1, x2, x3] (r.toList ++ [.ref v1]) I1 J1 P1 Q) := wp_callS (M' := MX9_isPerson) (As := [.int v0]) rfl rfl rfl rfl (Nat.le_of_ble_eq_true rfl) dX9_kinkCause_2
theorem e_X9_kinkCause_5 {v0 : Int32} {v1 : Nat} {x0 x1 x2 x3 : Option Value} : Wp S N d MX9_kinkCause 5 [x0, x1, x2, x3] [.int v0, .ref v1] I J P Q ↔ (¬ v0 = 0 → Wp S N d MX9_kinkCause 12 [x0, x1, x2, x3] [.ref v1] I J P Q) ∧ (v0 = 0 → Wp S N d MX9_kinkCause 8 [x0, x1, x2, x3] [.ref v1] I J P Q) := wp_brn rfl rfl (by decide) dX9_kinkCause_5
theorem e_X9_kinkCause_8 {v0 : Nat} {x0 x1 x2 x3 : Option Value} : Wp S N d MX9_kinkCause 8 [x0, x1, x2, x3] [.ref v0] I J P Q ↔ Wp S N d MX9_kinkCause 9 [x0, x1, x2, x3] [.int 1, .ref v0] I J P Q := wp_iconst (by decide) dX9_kinkCause_8
theorem e_X9_kinkCause_9 {v0 : Int32} {v1 : Nat} {x0 x1 x2 x3 : Option Value} : Wp S N d MX9_kinkCause 9 [x0, x1, x2, x3] [.int v0, .ref v1] I J P Q ↔ Wp S N d MX9_kinkCause 26 [x0, x1, x2, x3] [.int v0, .ref v1] I J P Q := wp_go (len := 3) rfl (fun _ _ => rfl) rfl (by decide) dX9_kinkCause_9
theorem e_X9_kinkCause_12 {v0 : Nat} {w : Nat} {x1 x2 x3 : Option Value} : Wp S N d MX9_kinkCause 12 [some (.ref w), x1, x2, x3] [.ref v0] I J P Q ↔ Wp S N d MX9_kinkCause 13 [some (.ref w), x1, x2, x3] [.ref w, .ref v0] I J P Q := wp_lod (len := 1) rfl rfl rfl rfl dX9_kinkCause_12
theorem e_X9_kinkCause_13 {v0 : Nat} {v1 : Nat} {w : Int32} {x0 x2 x3 : Option Value} : Wp S N d MX9_kinkCause 13 [x0, some (.int w), x2, x3] [.ref v0, .ref v1] I J P Q ↔ Wp S N d MX9_kinkCause 14 [x0, some (.int w), x2, x3] [.int w, .ref v0, .ref v1] I J P Q := wp_lod (len := 1) rfl rfl rfl rfl dX9_kinkCause_13
theorem e_X9_kinkCause_14 {v0 : Int32} {v1 : Nat} {v2 : Nat} {w : Int32} {x0 x1 x3 : Option Value} : Wp S N d MX9_kinkCause 14 [x0, x1, some (.int w), x3] [.int v0, .ref v1, .ref v2] I J P Q ↔ Wp S N d MX9_kinkCause 15 [x0, x1, some (.int w), x3] [.int w, .int v0, .ref v1, .ref v2] I J P Q := wp_lod (len := 1) rfl rfl rfl rfl dX9_kinkCause_14
theorem e_X9_kinkCause_15 {v0 : Int32} {v1 : Int32} {v2 : Nat} {v3 : Nat} {x0 x1 x2 x3 : Option Value} : Wp S N (d + 1) MX9_kinkCause 15 [x0, x1, x2, x3] [.int v0, .int v1, .ref v2, .ref v3] I J P Q ↔ S v2 = 9 ∧ CWp S N d MX9_isKink [.ref v2, .int v1, .int v0] I J P (fun r I1 J1 P1 => Wp S N (d + 1) MX9_kinkCause 18 [x0, x1, x2, x3] (r.toList ++ [.ref v3]) I1 J1 P1 Q) := wp_callV (M' := MX9_isKink) (As := [.int v1, .int v0]) rfl rfl rfl rfl (by decide) (Nat.le_of_ble_eq_true rfl) dX9_kinkCause_15
theorem e_X9_kinkCause_18 {v0 : Int32} {v1 : Nat} {x0 x1 x2 x3 : Option Value} : Wp S N d MX9_kinkCause 18 [x0, x1, x2, x3] [.int v0, .ref v1] I J P Q ↔ (v0 = 0 → Wp S N d MX9_kinkCause 25 [x0, x1, x2, x3] [.ref v1] I J P Q) ∧ (¬ v0 = 0 → Wp S N d MX9_kinkCause 21 [x0, x1, x2, x3] [.ref v1] I J P Q) := wp_br rfl rfl (by decide) dX9_kinkCause_18
theorem e_X9_kinkCause_21 {v0 : Nat} {x0 x1 x2 x3 : Option Value} : Wp S N d MX9_kinkCause 21 [x0, x1, x2, x3] [.ref v0] I J P Q ↔ Wp S N d MX9_kinkCause 22 [x0, x1, x2, x3] [.int 0, .ref v0] I J P Q := wp_iconst (by decide) dX9_kinkCause_21
theorem e_X9_kinkCause_22 {v0 : Int32} {v1 : Nat} {x0 x1 x2 x3 : Option Value} : Wp S N d MX9_kinkCause 22 [x0, x1, x2, x3] [.int v0, .ref v1] I J P Q ↔ Wp S N d MX9_kinkCause 26 [x0, x1, x2, x3] [.int v0, .ref v1] I J P Q := wp_go (len := 3) rfl (fun _ _ => rfl) rfl (by decide) dX9_kinkCause_22
theorem e_X9_kinkCause_25 {v0 : Nat} {x0 x1 x2 x3 : Option Value} : Wp S N d MX9_kinkCause 25 [x0, x1, x2, x3] [.ref v0] I J P Q ↔ Wp S N d MX9_kinkCause 26 [x0, x1, x2, x3] [.int 2, .ref v0] I J P Q := wp_iconst (by decide) dX9_kinkCause_25
theorem e_X9_kinkCause_26 {v0 : Int32} {v1 : Nat} {x0 x1 x2 x3 : Option Value} : Wp S N d MX9_kinkCause 26 [x0, x1, x2, x3] [.int v0, .ref v1] I J P Q ↔ S v1 = 9 ∧ Wp S N d MX9_kinkCause 29 [x0, x1, x2, x3] [] (u2 I v1 8 v0) J P Q := wp_putI rfl rfl rfl rfl dX9_kinkCause_26
theorem e_X9_kinkCause_29 {w : Nat} {x1 x2 x3 : Option Value} : Wp S N d MX9_kinkCause 29 [some (.ref w), x1, x2, x3] [] I J P Q ↔ Wp S N d MX9_kinkCause 30 [some (.ref w), x1, x2, x3] [.ref w] I J P Q := wp_lod (len := 1) rfl rfl rfl rfl dX9_kinkCause_29
theorem e_X9_kinkCause_30 {v0 : Nat} {x0 x1 x2 x3 : Option Value} : Wp S N d MX9_kinkCause 30 [x0, x1, x2, x3] [.ref v0] I J P Q ↔ S v0 = 9 ∧ Wp S N d MX9_kinkCause 33 [x0, x1, x2, x3] [.int (I v0 8)] I J P Q := wp_getf rfl rfl rfl rfl dX9_kinkCause_30
theorem e_X9_kinkCause_33 {v0 : Int32} {x0 x1 x2 x3 : Option Value} : Wp S N d MX9_kinkCause 33 [x0, x1, x2, x3] [.int v0] I J P Q ↔ (v0 ≤ 0 → Wp S N d MX9_kinkCause 38 [x0, x1, x2, x3] [] I J P Q) ∧ (¬ v0 ≤ 0 → Wp S N d MX9_kinkCause 36 [x0, x1, x2, x3] [] I J P Q) := wp_br rfl rfl (by decide) dX9_kinkCause_33
theorem e_X9_kinkCause_36  {x0 x1 x2 x3 : Option Value} : Wp S N d MX9_kinkCause 36 [x0, x1, x2, x3] [] I J P Q ↔ Wp S N d MX9_kinkCause 37 [x0, x1, x2, x3] [.int 0] I J P Q := wp_iconst (by decide) dX9_kinkCause_36
theorem e_X9_kinkCause_37 {v0 : Int32} {x0 x1 x2 x3 : Option Value} : Wp S N d MX9_kinkCause 37 [x0, x1, x2, x3] [.int v0] I J P Q ↔ Q (some (.int v0)) I J P := wp_iret rfl dX9_kinkCause_37
theorem e_X9_kinkCause_38  {x0 x1 x2 x3 : Option Value} : Wp S N d MX9_kinkCause 38 [x0, x1, x2, x3] [] I J P Q ↔ Wp S N d MX9_kinkCause 39 [x0, x1, x2, x3] [.int 0] I J P Q := wp_iconst (by decide) dX9_kinkCause_38
theorem e_X9_kinkCause_39 {v0 : Int32} {x0 x1 x2 x3 : Option Value} : Wp S N d MX9_kinkCause 39 [x0, x1, x2, x3] [.int v0] I J P Q ↔ Wp S N d MX9_kinkCause 40 [x0, x1, kl x2, some (.int v0)] [] I J P Q := wp_sto (len := 1) rfl rfl rfl rfl (Nat.le_of_ble_eq_true rfl) rfl dX9_kinkCause_39
theorem e_X9_kinkCause_40 {w : Nat} {x1 x2 x3 : Option Value} : Wp S N d MX9_kinkCause 40 [some (.ref w), x1, x2, x3] [] I J P Q ↔ Wp S N d MX9_kinkCause 41 [some (.ref w), x1, x2, x3] [.ref w] I J P Q := wp_lod (len := 1) rfl rfl rfl rfl dX9_kinkCause_40
theorem e_X9_kinkCause_41 {v0 : Nat} {w : Int32} {x0 x2 x3 : Option Value} : Wp S N d MX9_kinkCause 41 [x0, some (.int w), x2, x3] [.ref v0] I J P Q ↔ Wp S N d MX9_kinkCause 42 [x0, some (.int w), x2, x3] [.int w, .ref v0] I J P Q := wp_lod (len := 1) rfl rfl rfl rfl dX9_kinkCause_41
theorem e_X9_kinkCause_42 {v0 : Int32} {v1 : Nat} {w : Int32} {x0 x1 x3 : Option Value} : Wp S N d MX9_kinkCause 42 [x0, x1, some (.int w), x3] [.int v0, .ref v1] I J P Q ↔ Wp S N d MX9_kinkCause 43 [x0, x1, some (.int w), x3] [.int w, .int v0, .ref v1] I J P Q := wp_lod (len := 1) rfl rfl rfl rfl dX9_kinkCause_42
theorem e_X9_kinkCause_43 {v0 : Int32} {v1 : Int32} {v2 : Nat} {w : Int32} {x0 x1 x2 : Option Value} : Wp S N d MX9_kinkCause 43 [x0, x1, x2, some (.int w)] [.int v0, .int v1, .ref v2] I J P Q ↔ Wp S N d MX9_kinkCause 44 [x0, x1, x2, some (.int w)] [.int w, .int v0, .int v1, .ref v2] I J P Q := wp_lod (len := 1) rfl rfl rfl rfl dX9_kinkCause_43
theorem e_X9_kinkCause_44 {v0 : Int32} {v1 : Int32} {v2 : Int32} {v3 : Nat} {x0 x1 x2 x3 : Option Value} : Wp S N (d + 1) MX9_kinkCause 44 [x0, x1, x2, x3] [.int v0, .int v1, .int v2, .ref v3] I J P Q ↔ S v3 = 9 ∧ CWp S N d MX9_partAt [.ref v3, .int v2, .int v1, .int v0] I J P (fun r I1 J1 P1 => Wp S N (d + 1) MX9_kinkCause 47 [x0, x1, x2, x3] (r.toList ++ []) I1 J1 P1 Q) := wp_callV (M' := MX9_partAt) (As := [.int v2, .int v1, .int v0]) rfl rfl rfl rfl (by decide) (Nat.le_of_ble_eq_true rfl) dX9_kinkCause_44
theorem e_X9_kinkCause_47 {v0 : Int64} {w : Nat} {x1 x2 x3 : Option Value} : Wp S N d MX9_kinkCause 47 [some (.ref w), x1, x2, x3] [.long v0] I J P Q ↔ Wp S N d MX9_kinkCause 48 [some (.ref w), x1, x2, x3] [.ref w, .long v0] I J P Q := wp_lod (len := 1) rfl rfl rfl rfl dX9_kinkCause_47
theorem e_X9_kinkCause_48 {v0 : Nat} {v1 : Int64} {w : Int32} {x0 x2 x3 : Option Value} : Wp S N d MX9_kinkCause 48 [x0, some (.int w), x2, x3] [.ref v0, .long v1] I J P Q ↔ Wp S N d MX9_kinkCause 49 [x0, some (.int w), x2, x3] [.int w, .ref v0, .long v1] I J P Q := wp_lod (len := 1) rfl rfl rfl rfl dX9_kinkCause_48
theorem e_X9_kinkCause_49 {v0 : Int32} {v1 : Nat} {v2 : Int64} {w : Int32} {x0 x1 x3 : Option Value} : Wp S N d MX9_kinkCause 49 [x0, x1, some (.int w), x3] [.int v0, .ref v1, .long v2] I J P Q ↔ Wp S N d MX9_kinkCause 50 [x0, x1, some (.int w), x3] [.int w, .int v0, .ref v1, .long v2] I J P Q := wp_lod (len := 1) rfl rfl rfl rfl dX9_kinkCause_49
theorem e_X9_kinkCause_50 {v0 : Int32} {v1 : Int32} {v2 : Nat} {v3 : Int64} {x0 x1 x2 x3 : Option Value} : Wp S N d MX9_kinkCause 50 [x0, x1, x2, x3] [.int v0, .int v1, .ref v2, .long v3] I J P Q ↔ Wp S N d MX9_kinkCause 51 [x0, x1, x2, x3] [.int 1, .int v0, .int v1, .ref v2, .long v3] I J P Q := wp_iconst (by decide) dX9_kinkCause_50
theorem e_X9_kinkCause_51 {v0 : Int32} {v1 : Int32} {v2 : Int32} {v3 : Nat} {v4 : Int64} {x0 x1 x2 x3 : Option Value} : Wp S N d MX9_kinkCause 51 [x0, x1, x2, x3] [.int v0, .int v1, .int v2, .ref v3, .long v4] I J P Q ↔ Wp S N d MX9_kinkCause 52 [x0, x1, x2, x3] [.int (v1 - v0), .int v2, .ref v3, .long v4] I J P Q := wp_alu (len := 1) rfl rfl rfl dX9_kinkCause_51
theorem e_X9_kinkCause_52 {v0 : Int32} {v1 : Int32} {v2 : Nat} {v3 : Int64} {w : Int32} {x0 x1 x2 : Option Value} : Wp S N d MX9_kinkCause 52 [x0, x1, x2, some (.int w)] [.int v0, .int v1, .ref v2, .long v3] I J P Q ↔ Wp S N d MX9_kinkCause 53 [x0, x1, x2, some (.int w)] [.int w, .int v0, .int v1, .ref v2, .long v3] I J P Q := wp_lod (len := 1) rfl rfl rfl rfl dX9_kinkCause_52
theorem e_X9_kinkCause_53 {v0 : Int32} {v1 : Int32} {v2 : Int32} {v3 : Nat} {v4 : Int64} {x0 x1 x2 x3 : Option Value} : Wp S N (d + 1) MX9_kinkCause 53 [x0, x1, x2, x3] [.int v0, .int v1, .int v2, .ref v3, .long v4] I J P Q ↔ S v3 = 9 ∧ CWp S N d MX9_partAt [.ref v3, .int v2, .int v1, .int v0] I J P (fun r I1 J1 P1 => Wp S N (d + 1) MX9_kinkCause 56 [x0, x1, x2, x3] (r.toList ++ [.long v4]) I1 J1 P1 Q) := wp_callV (M' := MX9_partAt) (As := [.int v2, .int v1, .int v0]) rfl rfl rfl rfl (by decide) (Nat.le_of_ble_eq_true rfl) dX9_kinkCause_53
theorem e_X9_kinkCause_56 {v0 : Int64} {v1 : Int64} {x0 x1 x2 x3 : Option Value} : Wp S N d MX9_kinkCause 56 [x0, x1, x2, x3] [.long v0, .long v1] I J P Q ↔ Wp S N d MX9_kinkCause 57 [x0, x1, x2, x3] [.long (v1 - v0)] I J P Q := wp_alu (len := 1) rfl rfl rfl dX9_kinkCause_56
theorem e_X9_kinkCause_57 {v0 : Int64} {w : Nat} {x1 x2 x3 : Option Value} : Wp S N d MX9_kinkCause 57 [some (.ref w), x1, x2, x3] [.long v0] I J P Q ↔ Wp S N d MX9_kinkCause 58 [some (.ref w), x1, x2, x3] [.ref w, .long v0] I J P Q := wp_lod (len := 1) rfl rfl rfl rfl dX9_kinkCause_57
theorem e_X9_kinkCause_58 {v0 : Nat} {v1 : Int64} {w : Int32} {x0 x2 x3 : Option Value} : Wp S N d MX9_kinkCause 58 [x0, some (.int w), x2, x3] [.ref v0, .long v1] I J P Q ↔ Wp S N d MX9_kinkCause 59 [x0, some (.int w), x2, x3] [.int w, .ref v0, .long v1] I J P Q := wp_lod (len := 1) rfl rfl rfl rfl dX9_kinkCause_58
theorem e_X9_kinkCause_59 {v0 : Int32} {v1 : Nat} {v2 : Int64} {w : Int32} {x0 x1 x3 : Option Value} : Wp S N d MX9_kinkCause 59 [x0, x1, some (.int w), x3] [.int v0, .ref v1, .long v2] I J P Q ↔ Wp S N d MX9_kinkCause 60 [x0, x1, some (.int w), x3] [.int w, .int v0, .ref v1, .long v2] I J P Q := wp_lod (len := 1) rfl rfl rfl rfl dX9_kinkCause_59
theorem e_X9_kinkCause_60 {v0 : Int32} {v1 : Int32} {v2 : Nat} {v3 : Int64} {x0 x1 x2 x3 : Option Value} : Wp S N d MX9_kinkCause 60 [x0, x1, x2, x3] [.int v0, .int v1, .ref v2, .long v3] I J P Q ↔ Wp S N d MX9_kinkCause 61 [x0, x1, x2, x3] [.int 1, .int v0, .int v1, .ref v2, .long v3] I J P Q := wp_iconst (by decide) dX9_kinkCause_60
theorem e_X9_kinkCause_61 {v0 : Int32} {v1 : Int32} {v2 : Int32} {v3 : Nat} {v4 : Int64} {x0 x1 x2 x3 : Option Value} : Wp S N d MX9_kinkCause 61 [x0, x1, x2, x3] [.int v0, .int v1, .int v2, .ref v3, .long v4] I J P Q ↔ Wp S N d MX9_kinkCause 62 [x0, x1, x2, x3] [.int (v1 + v0), .int v2, .ref v3, .long v4] I J P Q := wp_alu (len := 1) rfl rfl rfl dX9_kinkCause_61
theorem e_X9_kinkCause_62 {v0 : Int32} {v1 : Int32} {v2 : Nat} {v3 : Int64} {w : Int32} {x0 x1 x2 : Option Value} : Wp S N d MX9_kinkCause 62 [x0, x1, x2, some (.int w)] [.int v0, .int v1, .ref v2, .long v3] I J P Q ↔ Wp S N d MX9_kinkCause 63 [x0, x1, x2, some (.int w)] [.int w, .int v0, .int v1, .ref v2, .long v3] I J P Q := wp_lod (len := 1) rfl rfl rfl rfl dX9_kinkCause_62
theorem e_X9_kinkCause_63 {v0 : Int32} {v1 : Int32} {v2 : Int32} {v3 : Nat} {v4 : Int64} {x0 x1 x2 x3 : Option Value} : Wp S N (d + 1) MX9_kinkCause 63 [x0, x1, x2, x3] [.int v0, .int v1, .int v2, .ref v3, .long v4] I J P Q ↔ S v3 = 9 ∧ CWp S N d MX9_partAt [.ref v3, .int v2, .int v1, .int v0] I J P (fun r I1 J1 P1 => Wp S N (d + 1) MX9_kinkCause 66 [x0, x1, x2, x3] (r.toList ++ [.long v4]) I1 J1 P1 Q) := wp_callV (M' := MX9_partAt) (As := [.int v2, .int v1, .int v0]) rfl rfl rfl rfl (by decide) (Nat.le_of_ble_eq_true rfl) dX9_kinkCause_63
theorem e_X9_kinkCause_66 {v0 : Int64} {v1 : Int64} {w : Nat} {x1 x2 x3 : Option Value} : Wp S N d MX9_kinkCause 66 [some (.ref w), x1, x2, x3] [.long v0, .long v1] I J P Q ↔ Wp S N d MX9_kinkCause 67 [some (.ref w), x1, x2, x3] [.ref w, .long v0, .long v1] I J P Q := wp_lod (len := 1) rfl rfl rfl rfl dX9_kinkCause_66
theorem e_X9_kinkCause_67 {v0 : Nat} {v1 : Int64} {v2 : Int64} {w : Int32} {x0 x2 x3 : Option Value} : Wp S N d MX9_kinkCause 67 [x0, some (.int w), x2, x3] [.ref v0, .long v1, .long v2] I J P Q ↔ Wp S N d MX9_kinkCause 68 [x0, some (.int w), x2, x3] [.int w, .ref v0, .long v1, .long v2] I J P Q := wp_lod (len := 1) rfl rfl rfl rfl dX9_kinkCause_67
theorem e_X9_kinkCause_68 {v0 : Int32} {v1 : Nat} {v2 : Int64} {v3 : Int64} {w : Int32} {x0 x1 x3 : Option Value} : Wp S N d MX9_kinkCause 68 [x0, x1, some (.int w), x3] [.int v0, .ref v1, .long v2, .long v3] I J P Q ↔ Wp S N d MX9_kinkCause 69 [x0, x1, some (.int w), x3] [.int w, .int v0, .ref v1, .long v2, .long v3] I J P Q := wp_lod (len := 1) rfl rfl rfl rfl dX9_kinkCause_68
theorem e_X9_kinkCause_69 {v0 : Int32} {v1 : Int32} {v2 : Nat} {v3 : Int64} {v4 : Int64} {w : Int32} {x0 x1 x2 : Option Value} : Wp S N d MX9_kinkCause 69 [x0, x1, x2, some (.int w)] [.int v0, .int v1, .ref v2, .long v3, .long v4] I J P Q ↔ Wp S N d MX9_kinkCause 70 [x0, x1, x2, some (.int w)] [.int w, .int v0, .int v1, .ref v2, .long v3, .long v4] I J P Q := wp_lod (len := 1) rfl rfl rfl rfl dX9_kinkCause_69
theorem e_X9_kinkCause_70 {v0 : Int32} {v1 : Int32} {v2 : Int32} {v3 : Nat} {v4 : Int64} {v5 : Int64} {x0 x1 x2 x3 : Option Value} : Wp S N (d + 1) MX9_kinkCause 70 [x0, x1, x2, x3] [.int v0, .int v1, .int v2, .ref v3, .long v4, .long v5] I J P Q ↔ S v3 = 9 ∧ CWp S N d MX9_partAt [.ref v3, .int v2, .int v1, .int v0] I J P (fun r I1 J1 P1 => Wp S N (d + 1) MX9_kinkCause 73 [x0, x1, x2, x3] (r.toList ++ [.long v4, .long v5]) I1 J1 P1 Q) := wp_callV (M' := MX9_partAt) (As := [.int v2, .int v1, .int v0]) rfl rfl rfl rfl (by decide) (Nat.le_of_ble_eq_true rfl) dX9_kinkCause_70
theorem e_X9_kinkCause_73 {v0 : Int64} {v1 : Int64} {v2 : Int64} {x0 x1 x2 x3 : Option Value} : Wp S N d MX9_kinkCause 73 [x0, x1, x2, x3] [.long v0, .long v1, .long v2] I J P Q ↔ Wp S N d MX9_kinkCause 74 [x0, x1, x2, x3] [.long (v1 - v0), .long v2] I J P Q := wp_alu (len := 1) rfl rfl rfl dX9_kinkCause_73
theorem e_X9_kinkCause_74 {v0 : Int64} {v1 : Int64} {x0 x1 x2 x3 : Option Value} : Wp S N d MX9_kinkCause 74 [x0, x1, x2, x3] [.long v0, .long v1] I J P Q ↔ Wp S N d MX9_kinkCause 75 [x0, x1, x2, x3] [.int (lg_cmp v1 v0)] I J P Q := wp_alu (len := 1) rfl rfl rfl dX9_kinkCause_74
theorem e_X9_kinkCause_75 {v0 : Int32} {x0 x1 x2 x3 : Option Value} : Wp S N d MX9_kinkCause 75 [x0, x1, x2, x3] [.int v0] I J P Q ↔ (¬ v0 = 0 → Wp S N d MX9_kinkCause 84 [x0, x1, x2, x3] [] I J P Q) ∧ (v0 = 0 → Wp S N d MX9_kinkCause 78 [x0, x1, x2, x3] [] I J P Q) := wp_brn rfl rfl (by decide) dX9_kinkCause_75
theorem e_X9_kinkCause_78 {w : Int32} {x0 x1 x2 : Option Value} : Wp S N d MX9_kinkCause 78 [x0, x1, x2, some (.int w)] [] I J P Q ↔ Wp S N d MX9_kinkCause 81 [x0, x1, kl x2, some (.int (w + 1))] [] I J P Q := wp_inc rfl rfl dX9_kinkCause_78
theorem e_X9_kinkCause_81  {x0 x1 x2 x3 : Option Value} : Wp S N d MX9_kinkCause 81 [x0, x1, x2, x3] [] I J P Q ↔ Wp S N d MX9_kinkCause 40 [x0, x1, x2, x3] [] I J P Q := wp_go (len := 3) rfl (fun _ _ => rfl) rfl (by decide) dX9_kinkCause_81
theorem e_X9_kinkCause_84 {w : Int32} {x0 x1 x2 : Option Value} : Wp S N d MX9_kinkCause 84 [x0, x1, x2, some (.int w)] [] I J P Q ↔ Wp S N d MX9_kinkCause 85 [x0, x1, x2, some (.int w)] [.int w] I J P Q := wp_lod (len := 1) rfl rfl rfl rfl dX9_kinkCause_84
theorem e_X9_kinkCause_85 {v0 : Int32} {x0 x1 x2 x3 : Option Value} : Wp S N d MX9_kinkCause 85 [x0, x1, x2, x3] [.int v0] I J P Q ↔ Q (some (.int v0)) I J P := wp_iret rfl dX9_kinkCause_85
theorem dX9_steepest_0 : decode cX9_steepest 0 = .ok (.aload_n 0, 1) := by decide +kernel
theorem dX9_steepest_1 : decode cX9_steepest 1 = .ok (.iconst 0, 1) := by decide +kernel
theorem dX9_steepest_2 : decode cX9_steepest 2 = .ok (.putfield 57, 3) := by decide +kernel
theorem dX9_steepest_5 : decode cX9_steepest 5 = .ok (.iload_n 1, 1) := by decide +kernel
theorem dX9_steepest_6 : decode cX9_steepest 6 = .ok (.invokestatic 140, 3) := by decide +kernel
theorem dX9_steepest_9 : decode cX9_steepest 9 = .ok (.ifCond .ne 9, 3) := by decide +kernel
theorem dX9_steepest_12 : decode cX9_steepest 12 = .ok (.aload_n 0, 1) := by decide +kernel
theorem dX9_steepest_13 : decode cX9_steepest 13 = .ok (.iconst 1, 1) := by decide +kernel
theorem dX9_steepest_14 : decode cX9_steepest 14 = .ok (.invokevirtual 67, 3) := by decide +kernel
theorem dX9_steepest_17 : decode cX9_steepest 17 = .ok (.ireturn, 1) := by decide +kernel
theorem dX9_steepest_18 : decode cX9_steepest 18 = .ok (.iconst 0, 1) := by decide +kernel
theorem dX9_steepest_19 : decode cX9_steepest 19 = .ok (.istore_n 2, 1) := by decide +kernel
theorem dX9_steepest_20 : decode cX9_steepest 20 = .ok (.aload_n 0, 1) := by decide +kernel
theorem dX9_steepest_21 : decode cX9_steepest 21 = .ok (.iload_n 1, 1) := by decide +kernel
theorem dX9_steepest_22 : decode cX9_steepest 22 = .ok (.iconst 0, 1) := by decide +kernel
theorem dX9_steepest_23 : decode cX9_steepest 23 = .ok (.invokevirtual 224, 3) := by decide +kernel
theorem dX9_steepest_26 : decode cX9_steepest 26 = .ok (.lstore_n 3, 1) := by decide +kernel
theorem dX9_steepest_27 : decode cX9_steepest 27 = .ok (.aload_n 0, 1) := by decide +kernel
theorem dX9_steepest_28 : decode cX9_steepest 28 = .ok (.iload_n 1, 1) := by decide +kernel
theorem dX9_steepest_29 : decode cX9_steepest 29 = .ok (.iconst 1, 1) := by decide +kernel
theorem dX9_steepest_30 : decode cX9_steepest 30 = .ok (.invokevirtual 221, 3) := by decide +kernel
theorem dX9_steepest_33 : decode cX9_steepest 33 = .ok (.lstore 5, 2) := by decide +kernel
theorem dX9_steepest_35 : decode cX9_steepest 35 = .ok (.iconst 1, 1) := by decide +kernel
theorem dX9_steepest_36 : decode cX9_steepest 36 = .ok (.istore 7, 2) := by decide +kernel
theorem dX9_steepest_38 : decode cX9_steepest 38 = .ok (.iload 7, 2) := by decide +kernel
theorem dX9_steepest_40 : decode cX9_steepest 40 = .ok (.sipush 9999, 3) := by decide +kernel
theorem dX9_steepest_43 : decode cX9_steepest 43 = .ok (.if_icmp .ge 43, 3) := by decide +kernel
theorem dX9_steepest_46 : decode cX9_steepest 46 = .ok (.aload_n 0, 1) := by decide +kernel
theorem dX9_steepest_47 : decode cX9_steepest 47 = .ok (.iload_n 1, 1) := by decide +kernel
theorem dX9_steepest_48 : decode cX9_steepest 48 = .ok (.iload 7, 2) := by decide +kernel
theorem dX9_steepest_50 : decode cX9_steepest 50 = .ok (.iconst 1, 1) := by decide +kernel
theorem dX9_steepest_51 : decode cX9_steepest 51 = .ok (.iadd, 1) := by decide +kernel
theorem dX9_steepest_52 : decode cX9_steepest 52 = .ok (.invokevirtual 221, 3) := by decide +kernel
theorem dX9_steepest_55 : decode cX9_steepest 55 = .ok (.lstore 8, 2) := by decide +kernel
theorem dX9_steepest_57 : decode cX9_steepest 57 = .ok (.lload 8, 2) := by decide +kernel
theorem dX9_steepest_59 : decode cX9_steepest 59 = .ok (.lload 5, 2) := by decide +kernel
theorem dX9_steepest_61 : decode cX9_steepest 61 = .ok (.lsub, 1) := by decide +kernel
theorem dX9_steepest_62 : decode cX9_steepest 62 = .ok (.lload_n 3, 1) := by decide +kernel
theorem dX9_steepest_63 : decode cX9_steepest 63 = .ok (.lcmp, 1) := by decide +kernel
theorem dX9_steepest_64 : decode cX9_steepest 64 = .ok (.ifCond .le 12, 3) := by decide +kernel
theorem dX9_steepest_67 : decode cX9_steepest 67 = .ok (.lload 8, 2) := by decide +kernel
theorem dX9_steepest_69 : decode cX9_steepest 69 = .ok (.lload 5, 2) := by decide +kernel
theorem dX9_steepest_71 : decode cX9_steepest 71 = .ok (.lsub, 1) := by decide +kernel
theorem dX9_steepest_72 : decode cX9_steepest 72 = .ok (.lstore_n 3, 1) := by decide +kernel
theorem dX9_steepest_73 : decode cX9_steepest 73 = .ok (.iload 7, 2) := by decide +kernel
theorem dX9_steepest_75 : decode cX9_steepest 75 = .ok (.istore_n 2, 1) := by decide +kernel
theorem dX9_steepest_76 : decode cX9_steepest 76 = .ok (.lload 8, 2) := by decide +kernel
theorem dX9_steepest_78 : decode cX9_steepest 78 = .ok (.lstore 5, 2) := by decide +kernel
theorem dX9_steepest_80 : decode cX9_steepest 80 = .ok (.iinc 7 1, 3) := by decide +kernel
theorem dX9_steepest_83 : decode cX9_steepest 83 = .ok (.goto (-45), 3) := by decide +kernel
theorem dX9_steepest_86 : decode cX9_steepest 86 = .ok (.iload_n 2, 1) := by decide +kernel
theorem dX9_steepest_87 : decode cX9_steepest 87 = .ok (.ireturn, 1) := by decide +kernel
theorem c_X9_steepest {a0 : Nat} {a1 : Int32} : CWp S N d MX9_steepest [.ref a0, .int a1] I J P Q ↔ Wp S N d MX9_steepest 0 [some (.ref a0), some (.int a1), none, none, none, none, none, none, none, none] [] I J P Q := by
  rw [cwp_iff]
  exact ⟨fun h => h.2, fun h => ⟨Nat.le_of_ble_eq_true rfl, h⟩⟩
theorem e_X9_steepest_0 {w : Nat} {x1 x2 x3 x4 x5 x6 x7 x8 x9 : Option Value} : Wp S N d MX9_steepest 0 [some (.ref w), x1, x2, x3, x4, x5, x6, x7, x8, x9] [] I J P Q ↔ Wp S N d MX9_steepest 1 [some (.ref w), x1, x2, x3, x4, x5, x6, x7, x8, x9] [.ref w] I J P Q := wp_lod (len := 1) rfl rfl rfl rfl dX9_steepest_0
theorem e_X9_steepest_1 {v0 : Nat} {x0 x1 x2 x3 x4 x5 x6 x7 x8 x9 : Option Value} : Wp S N d MX9_steepest 1 [x0, x1, x2, x3, x4, x5, x6, x7, x8, x9] [.ref v0] I J P Q ↔ Wp S N d MX9_steepest 2 [x0, x1, x2, x3, x4, x5, x6, x7, x8, x9] [.int 0, .ref v0] I J P Q := wp_iconst (by decide) dX9_steepest_1
theorem e_X9_steepest_2 {v0 : Int32} {v1 : Nat} {x0 x1 x2 x3 x4 x5 x6 x7 x8 x9 : Option Value} : Wp S N d MX9_steepest 2 [x0, x1, x2, x3, x4, x5, x6, x7, x8, x9] [.int v0, .ref v1] I J P Q ↔ S v1 = 9 ∧ Wp S N d MX9_steepest 5 [x0, x1, x2, x3, x4, x5, x6, x7, x8, x9] [] (u2 I v1 8 v0) J P Q := wp_putI rfl rfl rfl rfl dX9_steepest_2
theorem e_X9_steepest_5 {w : Int32} {x0 x2 x3 x4 x5 x6 x7 x8 x9 : Option Value} : Wp S N d MX9_steepest 5 [x0, some (.int w), x2, x3, x4, x5, x6, x7, x8, x9] [] I J P Q ↔ Wp S N d MX9_steepest 6 [x0, some (.int w), x2, x3, x4, x5, x6, x7, x8, x9] [.int w] I J P Q := wp_lod (len := 1) rfl rfl rfl rfl dX9_steepest_5
theorem e_X9_steepest_6 {v0 : Int32} {x0 x1 x2 x3 x4 x5 x6 x7 x8 x9 : Option Value} : Wp S N (d + 1) MX9_steepest 6 [x0, x1, x2, x3, x4, x5, x6, x7, x8, x9] [.int v0] I J P Q ↔ CWp S N d MX9_isPerson [.int v0] I J P (fun r I1 J1 P1 => Wp S N (d + 1) MX9_steepest 9 [x0, x1, x2, x3, x4, x5, x6, x7, x8, x9] (r.toList ++ []) I1 J1 P1 Q) := wp_callS (M' := MX9_isPerson) (As := [.int v0]) rfl rfl rfl rfl (Nat.le_of_ble_eq_true rfl) dX9_steepest_6
theorem e_X9_steepest_9 {v0 : Int32} {x0 x1 x2 x3 x4 x5 x6 x7 x8 x9 : Option Value} : Wp S N d MX9_steepest 9 [x0, x1, x2, x3, x4, x5, x6, x7, x8, x9] [.int v0] I J P Q ↔ (¬ v0 = 0 → Wp S N d MX9_steepest 18 [x0, x1, x2, x3, x4, x5, x6, x7, x8, x9] [] I J P Q) ∧ (v0 = 0 → Wp S N d MX9_steepest 12 [x0, x1, x2, x3, x4, x5, x6, x7, x8, x9] [] I J P Q) := wp_brn rfl rfl (by decide) dX9_steepest_9
theorem e_X9_steepest_12 {w : Nat} {x1 x2 x3 x4 x5 x6 x7 x8 x9 : Option Value} : Wp S N d MX9_steepest 12 [some (.ref w), x1, x2, x3, x4, x5, x6, x7, x8, x9] [] I J P Q ↔ Wp S N d MX9_steepest 13 [some (.ref w), x1, x2, x3, x4, x5, x6, x7, x8, x9] [.ref w] I J P Q := wp_lod (len := 1) rfl rfl rfl rfl dX9_steepest_12
theorem e_X9_steepest_13 {v0 : Nat} {x0 x1 x2 x3 x4 x5 x6 x7 x8 x9 : Option Value} : Wp S N d MX9_steepest 13 [x0, x1, x2, x3, x4, x5, x6, x7, x8, x9] [.ref v0] I J P Q ↔ Wp S N d MX9_steepest 14 [x0, x1, x2, x3, x4, x5, x6, x7, x8, x9] [.int 1, .ref v0] I J P Q := wp_iconst (by decide) dX9_steepest_13
theorem e_X9_steepest_14 {v0 : Int32} {v1 : Nat} {x0 x1 x2 x3 x4 x5 x6 x7 x8 x9 : Option Value} : Wp S N (d + 1) MX9_steepest 14 [x0, x1, x2, x3, x4, x5, x6, x7, x8, x9] [.int v0, .ref v1] I J P Q ↔ S v1 = 9 ∧ CWp S N d MX9_fails [.ref v1, .int v0] I J P (fun r I1 J1 P1 => Wp S N (d + 1) MX9_steepest 17 [x0, x1, x2, x3, x4, x5, x6, x7, x8, x9] (r.toList ++ []) I1 J1 P1 Q) := wp_callV (M' := MX9_fails) (As := [.int v0]) rfl rfl rfl rfl (by decide) (Nat.le_of_ble_eq_true rfl) dX9_steepest_14
theorem e_X9_steepest_17 {v0 : Int32} {x0 x1 x2 x3 x4 x5 x6 x7 x8 x9 : Option Value} : Wp S N d MX9_steepest 17 [x0, x1, x2, x3, x4, x5, x6, x7, x8, x9] [.int v0] I J P Q ↔ Q (some (.int v0)) I J P := wp_iret rfl dX9_steepest_17
theorem e_X9_steepest_18  {x0 x1 x2 x3 x4 x5 x6 x7 x8 x9 : Option Value} : Wp S N d MX9_steepest 18 [x0, x1, x2, x3, x4, x5, x6, x7, x8, x9] [] I J P Q ↔ Wp S N d MX9_steepest 19 [x0, x1, x2, x3, x4, x5, x6, x7, x8, x9] [.int 0] I J P Q := wp_iconst (by decide) dX9_steepest_18
theorem e_X9_steepest_19 {v0 : Int32} {x0 x1 x2 x3 x4 x5 x6 x7 x8 x9 : Option Value} : Wp S N d MX9_steepest 19 [x0, x1, x2, x3, x4, x5, x6, x7, x8, x9] [.int v0] I J P Q ↔ Wp S N d MX9_steepest 20 [x0, kl x1, some (.int v0), x3, x4, x5, x6, x7, x8, x9] [] I J P Q := wp_sto (len := 1) rfl rfl rfl rfl (Nat.le_of_ble_eq_true rfl) rfl dX9_steepest_19
theorem e_X9_steepest_20 {w : Nat} {x1 x2 x3 x4 x5 x6 x7 x8 x9 : Option Value} : Wp S N d MX9_steepest 20 [some (.ref w), x1, x2, x3, x4, x5, x6, x7, x8, x9] [] I J P Q ↔ Wp S N d MX9_steepest 21 [some (.ref w), x1, x2, x3, x4, x5, x6, x7, x8, x9] [.ref w] I J P Q := wp_lod (len := 1) rfl rfl rfl rfl dX9_steepest_20
theorem e_X9_steepest_21 {v0 : Nat} {w : Int32} {x0 x2 x3 x4 x5 x6 x7 x8 x9 : Option Value} : Wp S N d MX9_steepest 21 [x0, some (.int w), x2, x3, x4, x5, x6, x7, x8, x9] [.ref v0] I J P Q ↔ Wp S N d MX9_steepest 22 [x0, some (.int w), x2, x3, x4, x5, x6, x7, x8, x9] [.int w, .ref v0] I J P Q := wp_lod (len := 1) rfl rfl rfl rfl dX9_steepest_21
theorem e_X9_steepest_22 {v0 : Int32} {v1 : Nat} {x0 x1 x2 x3 x4 x5 x6 x7 x8 x9 : Option Value} : Wp S N d MX9_steepest 22 [x0, x1, x2, x3, x4, x5, x6, x7, x8, x9] [.int v0, .ref v1] I J P Q ↔ Wp S N d MX9_steepest 23 [x0, x1, x2, x3, x4, x5, x6, x7, x8, x9] [.int 0, .int v0, .ref v1] I J P Q := wp_iconst (by decide) dX9_steepest_22
theorem e_X9_steepest_23 {v0 : Int32} {v1 : Int32} {v2 : Nat} {x0 x1 x2 x3 x4 x5 x6 x7 x8 x9 : Option Value} : Wp S N (d + 1) MX9_steepest 23 [x0, x1, x2, x3, x4, x5, x6, x7, x8, x9] [.int v0, .int v1, .ref v2] I J P Q ↔ S v2 = 9 ∧ CWp S N d MX9_marginal [.ref v2, .int v1, .int v0] I J P (fun r I1 J1 P1 => Wp S N (d + 1) MX9_steepest 26 [x0, x1, x2, x3, x4, x5, x6, x7, x8, x9] (r.toList ++ []) I1 J1 P1 Q) := wp_callV (M' := MX9_marginal) (As := [.int v1, .int v0]) rfl rfl rfl rfl (by decide) (Nat.le_of_ble_eq_true rfl) dX9_steepest_23
theorem e_X9_steepest_26 {v0 : Int64} {x0 x1 x2 x3 x4 x5 x6 x7 x8 x9 : Option Value} : Wp S N d MX9_steepest 26 [x0, x1, x2, x3, x4, x5, x6, x7, x8, x9] [.long v0] I J P Q ↔ Wp S N d MX9_steepest 27 [x0, x1, kl x2, some (.long v0), none, x5, x6, x7, x8, x9] [] I J P Q := wp_sto (len := 1) rfl rfl rfl rfl (Nat.le_of_ble_eq_true rfl) rfl dX9_steepest_26
theorem e_X9_steepest_27 {w : Nat} {x1 x2 x3 x4 x5 x6 x7 x8 x9 : Option Value} : Wp S N d MX9_steepest 27 [some (.ref w), x1, x2, x3, x4, x5, x6, x7, x8, x9] [] I J P Q ↔ Wp S N d MX9_steepest 28 [some (.ref w), x1, x2, x3, x4, x5, x6, x7, x8, x9] [.ref w] I J P Q := wp_lod (len := 1) rfl rfl rfl rfl dX9_steepest_27
theorem e_X9_steepest_28 {v0 : Nat} {w : Int32} {x0 x2 x3 x4 x5 x6 x7 x8 x9 : Option Value} : Wp S N d MX9_steepest 28 [x0, some (.int w), x2, x3, x4, x5, x6, x7, x8, x9] [.ref v0] I J P Q ↔ Wp S N d MX9_steepest 29 [x0, some (.int w), x2, x3, x4, x5, x6, x7, x8, x9] [.int w, .ref v0] I J P Q := wp_lod (len := 1) rfl rfl rfl rfl dX9_steepest_28
theorem e_X9_steepest_29 {v0 : Int32} {v1 : Nat} {x0 x1 x2 x3 x4 x5 x6 x7 x8 x9 : Option Value} : Wp S N d MX9_steepest 29 [x0, x1, x2, x3, x4, x5, x6, x7, x8, x9] [.int v0, .ref v1] I J P Q ↔ Wp S N d MX9_steepest 30 [x0, x1, x2, x3, x4, x5, x6, x7, x8, x9] [.int 1, .int v0, .ref v1] I J P Q := wp_iconst (by decide) dX9_steepest_29
theorem e_X9_steepest_30 {v0 : Int32} {v1 : Int32} {v2 : Nat} {x0 x1 x2 x3 x4 x5 x6 x7 x8 x9 : Option Value} : Wp S N (d + 1) MX9_steepest 30 [x0, x1, x2, x3, x4, x5, x6, x7, x8, x9] [.int v0, .int v1, .ref v2] I J P Q ↔ S v2 = 9 ∧ CWp S N d MX9_taxAt [.ref v2, .int v1, .int v0] I J P (fun r I1 J1 P1 => Wp S N (d + 1) MX9_steepest 33 [x0, x1, x2, x3, x4, x5, x6, x7, x8, x9] (r.toList ++ []) I1 J1 P1 Q) := wp_callV (M' := MX9_taxAt) (As := [.int v1, .int v0]) rfl rfl rfl rfl (by decide) (Nat.le_of_ble_eq_true rfl) dX9_steepest_30
theorem e_X9_steepest_33 {v0 : Int64} {x0 x1 x2 x3 x4 x5 x6 x7 x8 x9 : Option Value} : Wp S N d MX9_steepest 33 [x0, x1, x2, x3, x4, x5, x6, x7, x8, x9] [.long v0] I J P Q ↔ Wp S N d MX9_steepest 35 [x0, x1, x2, x3, kl x4, some (.long v0), none, x7, x8, x9] [] I J P Q := wp_sto (len := 2) rfl rfl rfl rfl (Nat.le_of_ble_eq_true rfl) rfl dX9_steepest_33
theorem e_X9_steepest_35  {x0 x1 x2 x3 x4 x5 x6 x7 x8 x9 : Option Value} : Wp S N d MX9_steepest 35 [x0, x1, x2, x3, x4, x5, x6, x7, x8, x9] [] I J P Q ↔ Wp S N d MX9_steepest 36 [x0, x1, x2, x3, x4, x5, x6, x7, x8, x9] [.int 1] I J P Q := wp_iconst (by decide) dX9_steepest_35
theorem e_X9_steepest_36 {v0 : Int32} {x0 x1 x2 x3 x4 x5 x6 x7 x8 x9 : Option Value} : Wp S N d MX9_steepest 36 [x0, x1, x2, x3, x4, x5, x6, x7, x8, x9] [.int v0] I J P Q ↔ Wp S N d MX9_steepest 38 [x0, x1, x2, x3, x4, x5, kl x6, some (.int v0), x8, x9] [] I J P Q := wp_sto (len := 2) rfl rfl rfl rfl (Nat.le_of_ble_eq_true rfl) rfl dX9_steepest_36
theorem e_X9_steepest_38 {w : Int32} {x0 x1 x2 x3 x4 x5 x6 x8 x9 : Option Value} : Wp S N d MX9_steepest 38 [x0, x1, x2, x3, x4, x5, x6, some (.int w), x8, x9] [] I J P Q ↔ Wp S N d MX9_steepest 40 [x0, x1, x2, x3, x4, x5, x6, some (.int w), x8, x9] [.int w] I J P Q := wp_lod (len := 2) rfl rfl rfl rfl dX9_steepest_38
theorem e_X9_steepest_40 {v0 : Int32} {x0 x1 x2 x3 x4 x5 x6 x7 x8 x9 : Option Value} : Wp S N d MX9_steepest 40 [x0, x1, x2, x3, x4, x5, x6, x7, x8, x9] [.int v0] I J P Q ↔ Wp S N d MX9_steepest 43 [x0, x1, x2, x3, x4, x5, x6, x7, x8, x9] [.int 9999, .int v0] I J P Q := wp_sipush (by decide) dX9_steepest_40
theorem e_X9_steepest_43 {v0 : Int32} {v1 : Int32} {x0 x1 x2 x3 x4 x5 x6 x7 x8 x9 : Option Value} : Wp S N d MX9_steepest 43 [x0, x1, x2, x3, x4, x5, x6, x7, x8, x9] [.int v0, .int v1] I J P Q ↔ (v0 ≤ v1 → Wp S N d MX9_steepest 86 [x0, x1, x2, x3, x4, x5, x6, x7, x8, x9] [] I J P Q) ∧ (¬ v0 ≤ v1 → Wp S N d MX9_steepest 46 [x0, x1, x2, x3, x4, x5, x6, x7, x8, x9] [] I J P Q) := wp_br rfl rfl (by decide) dX9_steepest_43
theorem e_X9_steepest_46 {w : Nat} {x1 x2 x3 x4 x5 x6 x7 x8 x9 : Option Value} : Wp S N d MX9_steepest 46 [some (.ref w), x1, x2, x3, x4, x5, x6, x7, x8, x9] [] I J P Q ↔ Wp S N d MX9_steepest 47 [some (.ref w), x1, x2, x3, x4, x5, x6, x7, x8, x9] [.ref w] I J P Q := wp_lod (len := 1) rfl rfl rfl rfl dX9_steepest_46
theorem e_X9_steepest_47 {v0 : Nat} {w : Int32} {x0 x2 x3 x4 x5 x6 x7 x8 x9 : Option Value} : Wp S N d MX9_steepest 47 [x0, some (.int w), x2, x3, x4, x5, x6, x7, x8, x9] [.ref v0] I J P Q ↔ Wp S N d MX9_steepest 48 [x0, some (.int w), x2, x3, x4, x5, x6, x7, x8, x9] [.int w, .ref v0] I J P Q := wp_lod (len := 1) rfl rfl rfl rfl dX9_steepest_47
theorem e_X9_steepest_48 {v0 : Int32} {v1 : Nat} {w : Int32} {x0 x1 x2 x3 x4 x5 x6 x8 x9 : Option Value} : Wp S N d MX9_steepest 48 [x0, x1, x2, x3, x4, x5, x6, some (.int w), x8, x9] [.int v0, .ref v1] I J P Q ↔ Wp S N d MX9_steepest 50 [x0, x1, x2, x3, x4, x5, x6, some (.int w), x8, x9] [.int w, .int v0, .ref v1] I J P Q := wp_lod (len := 2) rfl rfl rfl rfl dX9_steepest_48
theorem e_X9_steepest_50 {v0 : Int32} {v1 : Int32} {v2 : Nat} {x0 x1 x2 x3 x4 x5 x6 x7 x8 x9 : Option Value} : Wp S N d MX9_steepest 50 [x0, x1, x2, x3, x4, x5, x6, x7, x8, x9] [.int v0, .int v1, .ref v2] I J P Q ↔ Wp S N d MX9_steepest 51 [x0, x1, x2, x3, x4, x5, x6, x7, x8, x9] [.int 1, .int v0, .int v1, .ref v2] I J P Q := wp_iconst (by decide) dX9_steepest_50
theorem e_X9_steepest_51 {v0 : Int32} {v1 : Int32} {v2 : Int32} {v3 : Nat} {x0 x1 x2 x3 x4 x5 x6 x7 x8 x9 : Option Value} : Wp S N d MX9_steepest 51 [x0, x1, x2, x3, x4, x5, x6, x7, x8, x9] [.int v0, .int v1, .int v2, .ref v3] I J P Q ↔ Wp S N d MX9_steepest 52 [x0, x1, x2, x3, x4, x5, x6, x7, x8, x9] [.int (v1 + v0), .int v2, .ref v3] I J P Q := wp_alu (len := 1) rfl rfl rfl dX9_steepest_51
theorem e_X9_steepest_52 {v0 : Int32} {v1 : Int32} {v2 : Nat} {x0 x1 x2 x3 x4 x5 x6 x7 x8 x9 : Option Value} : Wp S N (d + 1) MX9_steepest 52 [x0, x1, x2, x3, x4, x5, x6, x7, x8, x9] [.int v0, .int v1, .ref v2] I J P Q ↔ S v2 = 9 ∧ CWp S N d MX9_taxAt [.ref v2, .int v1, .int v0] I J P (fun r I1 J1 P1 => Wp S N (d + 1) MX9_steepest 55 [x0, x1, x2, x3, x4, x5, x6, x7, x8, x9] (r.toList ++ []) I1 J1 P1 Q) := wp_callV (M' := MX9_taxAt) (As := [.int v1, .int v0]) rfl rfl rfl rfl (by decide) (Nat.le_of_ble_eq_true rfl) dX9_steepest_52
theorem e_X9_steepest_55 {v0 : Int64} {x0 x1 x2 x3 x4 x5 x6 x7 x8 x9 : Option Value} : Wp S N d MX9_steepest 55 [x0, x1, x2, x3, x4, x5, x6, x7, x8, x9] [.long v0] I J P Q ↔ Wp S N d MX9_steepest 57 [x0, x1, x2, x3, x4, x5, x6, kl x7, some (.long v0), none] [] I J P Q := wp_sto (len := 2) rfl rfl rfl rfl (Nat.le_of_ble_eq_true rfl) rfl dX9_steepest_55
theorem e_X9_steepest_57 {w : Int64} {x0 x1 x2 x3 x4 x5 x6 x7 x9 : Option Value} : Wp S N d MX9_steepest 57 [x0, x1, x2, x3, x4, x5, x6, x7, some (.long w), x9] [] I J P Q ↔ Wp S N d MX9_steepest 59 [x0, x1, x2, x3, x4, x5, x6, x7, some (.long w), x9] [.long w] I J P Q := wp_lod (len := 2) rfl rfl rfl rfl dX9_steepest_57
theorem e_X9_steepest_59 {v0 : Int64} {w : Int64} {x0 x1 x2 x3 x4 x6 x7 x8 x9 : Option Value} : Wp S N d MX9_steepest 59 [x0, x1, x2, x3, x4, some (.long w), x6, x7, x8, x9] [.long v0] I J P Q ↔ Wp S N d MX9_steepest 61 [x0, x1, x2, x3, x4, some (.long w), x6, x7, x8, x9] [.long w, .long v0] I J P Q := wp_lod (len := 2) rfl rfl rfl rfl dX9_steepest_59
theorem e_X9_steepest_61 {v0 : Int64} {v1 : Int64} {x0 x1 x2 x3 x4 x5 x6 x7 x8 x9 : Option Value} : Wp S N d MX9_steepest 61 [x0, x1, x2, x3, x4, x5, x6, x7, x8, x9] [.long v0, .long v1] I J P Q ↔ Wp S N d MX9_steepest 62 [x0, x1, x2, x3, x4, x5, x6, x7, x8, x9] [.long (v1 - v0)] I J P Q := wp_alu (len := 1) rfl rfl rfl dX9_steepest_61
theorem e_X9_steepest_62 {v0 : Int64} {w : Int64} {x0 x1 x2 x4 x5 x6 x7 x8 x9 : Option Value} : Wp S N d MX9_steepest 62 [x0, x1, x2, some (.long w), x4, x5, x6, x7, x8, x9] [.long v0] I J P Q ↔ Wp S N d MX9_steepest 63 [x0, x1, x2, some (.long w), x4, x5, x6, x7, x8, x9] [.long w, .long v0] I J P Q := wp_lod (len := 1) rfl rfl rfl rfl dX9_steepest_62
theorem e_X9_steepest_63 {v0 : Int64} {v1 : Int64} {x0 x1 x2 x3 x4 x5 x6 x7 x8 x9 : Option Value} : Wp S N d MX9_steepest 63 [x0, x1, x2, x3, x4, x5, x6, x7, x8, x9] [.long v0, .long v1] I J P Q ↔ Wp S N d MX9_steepest 64 [x0, x1, x2, x3, x4, x5, x6, x7, x8, x9] [.int (lg_cmp v1 v0)] I J P Q := wp_alu (len := 1) rfl rfl rfl dX9_steepest_63
theorem e_X9_steepest_64 {v0 : Int32} {x0 x1 x2 x3 x4 x5 x6 x7 x8 x9 : Option Value} : Wp S N d MX9_steepest 64 [x0, x1, x2, x3, x4, x5, x6, x7, x8, x9] [.int v0] I J P Q ↔ (v0 ≤ 0 → Wp S N d MX9_steepest 76 [x0, x1, x2, x3, x4, x5, x6, x7, x8, x9] [] I J P Q) ∧ (¬ v0 ≤ 0 → Wp S N d MX9_steepest 67 [x0, x1, x2, x3, x4, x5, x6, x7, x8, x9] [] I J P Q) := wp_br rfl rfl (by decide) dX9_steepest_64
theorem e_X9_steepest_67 {w : Int64} {x0 x1 x2 x3 x4 x5 x6 x7 x9 : Option Value} : Wp S N d MX9_steepest 67 [x0, x1, x2, x3, x4, x5, x6, x7, some (.long w), x9] [] I J P Q ↔ Wp S N d MX9_steepest 69 [x0, x1, x2, x3, x4, x5, x6, x7, some (.long w), x9] [.long w] I J P Q := wp_lod (len := 2) rfl rfl rfl rfl dX9_steepest_67
theorem e_X9_steepest_69 {v0 : Int64} {w : Int64} {x0 x1 x2 x3 x4 x6 x7 x8 x9 : Option Value} : Wp S N d MX9_steepest 69 [x0, x1, x2, x3, x4, some (.long w), x6, x7, x8, x9] [.long v0] I J P Q ↔ Wp S N d MX9_steepest 71 [x0, x1, x2, x3, x4, some (.long w), x6, x7, x8, x9] [.long w, .long v0] I J P Q := wp_lod (len := 2) rfl rfl rfl rfl dX9_steepest_69
theorem e_X9_steepest_71 {v0 : Int64} {v1 : Int64} {x0 x1 x2 x3 x4 x5 x6 x7 x8 x9 : Option Value} : Wp S N d MX9_steepest 71 [x0, x1, x2, x3, x4, x5, x6, x7, x8, x9] [.long v0, .long v1] I J P Q ↔ Wp S N d MX9_steepest 72 [x0, x1, x2, x3, x4, x5, x6, x7, x8, x9] [.long (v1 - v0)] I J P Q := wp_alu (len := 1) rfl rfl rfl dX9_steepest_71
theorem e_X9_steepest_72 {v0 : Int64} {x0 x1 x2 x3 x4 x5 x6 x7 x8 x9 : Option Value} : Wp S N d MX9_steepest 72 [x0, x1, x2, x3, x4, x5, x6, x7, x8, x9] [.long v0] I J P Q ↔ Wp S N d MX9_steepest 73 [x0, x1, kl x2, some (.long v0), none, x5, x6, x7, x8, x9] [] I J P Q := wp_sto (len := 1) rfl rfl rfl rfl (Nat.le_of_ble_eq_true rfl) rfl dX9_steepest_72
theorem e_X9_steepest_73 {w : Int32} {x0 x1 x2 x3 x4 x5 x6 x8 x9 : Option Value} : Wp S N d MX9_steepest 73 [x0, x1, x2, x3, x4, x5, x6, some (.int w), x8, x9] [] I J P Q ↔ Wp S N d MX9_steepest 75 [x0, x1, x2, x3, x4, x5, x6, some (.int w), x8, x9] [.int w] I J P Q := wp_lod (len := 2) rfl rfl rfl rfl dX9_steepest_73
theorem e_X9_steepest_75 {v0 : Int32} {x0 x1 x2 x3 x4 x5 x6 x7 x8 x9 : Option Value} : Wp S N d MX9_steepest 75 [x0, x1, x2, x3, x4, x5, x6, x7, x8, x9] [.int v0] I J P Q ↔ Wp S N d MX9_steepest 76 [x0, kl x1, some (.int v0), x3, x4, x5, x6, x7, x8, x9] [] I J P Q := wp_sto (len := 1) rfl rfl rfl rfl (Nat.le_of_ble_eq_true rfl) rfl dX9_steepest_75
theorem e_X9_steepest_76 {w : Int64} {x0 x1 x2 x3 x4 x5 x6 x7 x9 : Option Value} : Wp S N d MX9_steepest 76 [x0, x1, x2, x3, x4, x5, x6, x7, some (.long w), x9] [] I J P Q ↔ Wp S N d MX9_steepest 78 [x0, x1, x2, x3, x4, x5, x6, x7, some (.long w), x9] [.long w] I J P Q := wp_lod (len := 2) rfl rfl rfl rfl dX9_steepest_76
theorem e_X9_steepest_78 {v0 : Int64} {x0 x1 x2 x3 x4 x5 x6 x7 x8 x9 : Option Value} : Wp S N d MX9_steepest 78 [x0, x1, x2, x3, x4, x5, x6, x7, x8, x9] [.long v0] I J P Q ↔ Wp S N d MX9_steepest 80 [x0, x1, x2, x3, kl x4, some (.long v0), none, x7, x8, x9] [] I J P Q := wp_sto (len := 2) rfl rfl rfl rfl (Nat.le_of_ble_eq_true rfl) rfl dX9_steepest_78
theorem e_X9_steepest_80 {w : Int32} {x0 x1 x2 x3 x4 x5 x6 x8 x9 : Option Value} : Wp S N d MX9_steepest 80 [x0, x1, x2, x3, x4, x5, x6, some (.int w), x8, x9] [] I J P Q ↔ Wp S N d MX9_steepest 83 [x0, x1, x2, x3, x4, x5, kl x6, some (.int (w + 1)), x8, x9] [] I J P Q := wp_inc rfl rfl dX9_steepest_80
theorem e_X9_steepest_83  {x0 x1 x2 x3 x4 x5 x6 x7 x8 x9 : Option Value} : Wp S N d MX9_steepest 83 [x0, x1, x2, x3, x4, x5, x6, x7, x8, x9] [] I J P Q ↔ Wp S N d MX9_steepest 38 [x0, x1, x2, x3, x4, x5, x6, x7, x8, x9] [] I J P Q := wp_go (len := 3) rfl (fun _ _ => rfl) rfl (by decide) dX9_steepest_83
theorem e_X9_steepest_86 {w : Int32} {x0 x1 x3 x4 x5 x6 x7 x8 x9 : Option Value} : Wp S N d MX9_steepest 86 [x0, x1, some (.int w), x3, x4, x5, x6, x7, x8, x9] [] I J P Q ↔ Wp S N d MX9_steepest 87 [x0, x1, some (.int w), x3, x4, x5, x6, x7, x8, x9] [.int w] I J P Q := wp_lod (len := 1) rfl rfl rfl rfl dX9_steepest_86
theorem e_X9_steepest_87 {v0 : Int32} {x0 x1 x2 x3 x4 x5 x6 x7 x8 x9 : Option Value} : Wp S N d MX9_steepest 87 [x0, x1, x2, x3, x4, x5, x6, x7, x8, x9] [.int v0] I J P Q ↔ Q (some (.int v0)) I J P := wp_iret rfl dX9_steepest_87
end ER

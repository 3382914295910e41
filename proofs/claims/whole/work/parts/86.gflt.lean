/-! the segments' rules: X[89]_average -/
section ER
variable {S N : Nat → Nat} {hp : Bool} {T : TG} {I : IM} {J : JM} {P : PM}
theorem dX8_averageRate_0 : decode cX8_averageRate 0 = .ok (.aload_n 0, 1) := by decide +kernel
theorem dX8_averageRate_1 : decode cX8_averageRate 1 = .ok (.iload_n 1, 1) := by decide +kernel
theorem dX8_averageRate_2 : decode cX8_averageRate 2 = .ok (.bipush 6, 2) := by decide +kernel
theorem dX8_averageRate_4 : decode cX8_averageRate 4 = .ok (.invokevirtual 123, 3) := by decide +kernel
theorem dX8_averageRate_7 : decode cX8_averageRate 7 = .ok (.ldc2_w 261, 3) := by decide +kernel
theorem dX8_averageRate_10 : decode cX8_averageRate 10 = .ok (.aload_n 0, 1) := by decide +kernel
theorem dX8_averageRate_11 : decode cX8_averageRate 11 = .ok (.getfield 26, 3) := by decide +kernel
theorem dX8_averageRate_14 : decode cX8_averageRate 14 = .ok (.getfield 158, 3) := by decide +kernel
theorem dX8_averageRate_17 : decode cX8_averageRate 17 = .ok (.iload_n 1, 1) := by decide +kernel
theorem dX8_averageRate_18 : decode cX8_averageRate 18 = .ok (.iaload, 1) := by decide +kernel
theorem dX8_averageRate_19 : decode cX8_averageRate 19 = .ok (.aload_n 0, 1) := by decide +kernel
theorem dX8_averageRate_20 : decode cX8_averageRate 20 = .ok (.getfield 26, 3) := by decide +kernel
theorem dX8_averageRate_23 : decode cX8_averageRate 23 = .ok (.getfield 161, 3) := by decide +kernel
theorem dX8_averageRate_26 : decode cX8_averageRate 26 = .ok (.iload_n 1, 1) := by decide +kernel
theorem dX8_averageRate_27 : decode cX8_averageRate 27 = .ok (.iaload, 1) := by decide +kernel
theorem dX8_averageRate_28 : decode cX8_averageRate 28 = .ok (.iadd, 1) := by decide +kernel
theorem dX8_averageRate_29 : decode cX8_averageRate 29 = .ok (.i2l, 1) := by decide +kernel
theorem dX8_averageRate_30 : decode cX8_averageRate 30 = .ok (.lmul, 1) := by decide +kernel
theorem dX8_averageRate_31 : decode cX8_averageRate 31 = .ok (.lstore_n 2, 1) := by decide +kernel
theorem dX8_averageRate_32 : decode cX8_averageRate 32 = .ok (.lload_n 2, 1) := by decide +kernel
theorem dX8_averageRate_33 : decode cX8_averageRate 33 = .ok (.lconst 0, 1) := by decide +kernel
theorem dX8_averageRate_34 : decode cX8_averageRate 34 = .ok (.lcmp, 1) := by decide +kernel
theorem dX8_averageRate_35 : decode cX8_averageRate 35 = .ok (.ifCond .ne 14, 3) := by decide +kernel
theorem dX8_averageRate_38 : decode cX8_averageRate 38 = .ok (.new 263, 3) := by decide +kernel
theorem dX8_averageRate_41 : decode cX8_averageRate 41 = .ok (.dup, 1) := by decide +kernel
theorem dX8_averageRate_42 : decode cX8_averageRate 42 = .ok (.ldc_w 265, 3) := by decide +kernel
theorem dX8_averageRate_45 : decode cX8_averageRate 45 = .ok (.invokespecial 267, 3) := by decide +kernel
theorem dX8_averageRate_48 : decode cX8_averageRate 48 = .ok (.athrow, 1) := by decide +kernel
theorem dX8_averageRate_49 : decode cX8_averageRate 49 = .ok (.aload_n 0, 1) := by decide +kernel
theorem dX8_averageRate_50 : decode cX8_averageRate 50 = .ok (.iload_n 1, 1) := by decide +kernel
theorem dX8_averageRate_51 : decode cX8_averageRate 51 = .ok (.invokevirtual 178, 3) := by decide +kernel
theorem dX8_averageRate_54 : decode cX8_averageRate 54 = .ok (.getfield 182, 3) := by decide +kernel
theorem dX8_averageRate_57 : decode cX8_averageRate 57 = .ok (.l2d, 1) := by decide +kernel
theorem dX8_averageRate_58 : decode cX8_averageRate 58 = .ok (.lload_n 2, 1) := by decide +kernel
theorem dX8_averageRate_59 : decode cX8_averageRate 59 = .ok (.l2d, 1) := by decide +kernel
theorem dX8_averageRate_60 : decode cX8_averageRate 60 = .ok (.ddiv, 1) := by decide +kernel
theorem dX8_averageRate_61 : decode cX8_averageRate 61 = .ok (.dreturn, 1) := by decide +kernel
theorem g_X8_averageRate_0 {w : Nat} {x1 x2 x3 : Option Value} : Gp S N hp MX8_averageRate T 0 [some (.ref w), x1, x2, x3] [] I J P ↔ Gp S N hp MX8_averageRate T 1 [some (.ref w), x1, x2, x3] [.ref w] I J P := gp_lod (len := 1) rfl rfl rfl rfl dX8_averageRate_0
theorem g_X8_averageRate_1 {v0 : Nat} {w : Int32} {x0 x2 x3 : Option Value} : Gp S N hp MX8_averageRate T 1 [x0, some (.int w), x2, x3] [.ref v0] I J P ↔ Gp S N hp MX8_averageRate T 2 [x0, some (.int w), x2, x3] [.int w, .ref v0] I J P := gp_lod (len := 1) rfl rfl rfl rfl dX8_averageRate_1
theorem g_X8_averageRate_2 {v0 : Int32} {v1 : Nat} {x0 x1 x2 x3 : Option Value} : Gp S N hp MX8_averageRate T 2 [x0, x1, x2, x3] [.int v0, .ref v1] I J P ↔ Gp S N hp MX8_averageRate T 4 [x0, x1, x2, x3] [.int 6, .int v0, .ref v1] I J P := gp_bipush (by decide) dX8_averageRate_2
theorem gs_X8_averageRate_4 {v0 : Int32} {v1 : Int32} {v2 : Nat} {x0 x1 x2 x3 : Option Value} (h : T 4 [x0, x1, x2, x3] [.int v0, .int v1, .ref v2] I J P) : Gp S N hp MX8_averageRate T 4 [x0, x1, x2, x3] [.int v0, .int v1, .ref v2] I J P := gp_stop dX8_averageRate_4 (Or.inr (Or.inl rfl)) h
theorem g_X8_averageRate_7  {x0 x1 x2 x3 : Option Value} : Gp S N hp MX8_averageRate T 7 [x0, x1, x2, x3] [] I J P ↔ Gp S N hp MX8_averageRate T 10 [x0, x1, x2, x3] [.long 1000000] I J P := gp_ldc2 rfl dX8_averageRate_7
theorem g_X8_averageRate_10 {v0 : Int64} {w : Nat} {x1 x2 x3 : Option Value} : Gp S N hp MX8_averageRate T 10 [some (.ref w), x1, x2, x3] [.long v0] I J P ↔ Gp S N hp MX8_averageRate T 11 [some (.ref w), x1, x2, x3] [.ref w, .long v0] I J P := gp_lod (len := 1) rfl rfl rfl rfl dX8_averageRate_10
theorem g_X8_averageRate_11 {v0 : Nat} {v1 : Int64} {x0 x1 x2 x3 : Option Value} : Gp S N hp MX8_averageRate T 11 [x0, x1, x2, x3] [.ref v0, .long v1] I J P ↔ S v0 = 8 ∧ Gp S N hp MX8_averageRate T 14 [x0, x1, x2, x3] [va_rf (P v0 2), .long v1] I J P := gp_getf rfl rfl rfl rfl dX8_averageRate_11
theorem g_X8_averageRate_14 {v0 : Nat} {v1 : Int64} {x0 x1 x2 x3 : Option Value} : Gp S N hp MX8_averageRate T 14 [x0, x1, x2, x3] [.ref v0, .long v1] I J P ↔ S v0 = 5 ∧ Gp S N hp MX8_averageRate T 17 [x0, x1, x2, x3] [va_rf (P v0 1), .long v1] I J P := gp_getf rfl rfl rfl rfl dX8_averageRate_14
theorem g_X8_averageRate_17 {v0 : Nat} {v1 : Int64} {w : Int32} {x0 x2 x3 : Option Value} : Gp S N hp MX8_averageRate T 17 [x0, some (.int w), x2, x3] [.ref v0, .long v1] I J P ↔ Gp S N hp MX8_averageRate T 18 [x0, some (.int w), x2, x3] [.int w, .ref v0, .long v1] I J P := gp_lod (len := 1) rfl rfl rfl rfl dX8_averageRate_17
theorem g_X8_averageRate_18 {v0 : Int32} {v1 : Nat} {v2 : Int64} {x0 x1 x2 x3 : Option Value} : Gp S N hp MX8_averageRate T 18 [x0, x1, x2, x3] [.int v0, .ref v1, .long v2] I J P ↔ (S v1 = 10 ∧ vp_in v0 (N v1)) ∧ Gp S N hp MX8_averageRate T 19 [x0, x1, x2, x3] [.int (I v1 v0.toNatClampNeg), .long v2] I J P := gp_ald rfl rfl dX8_averageRate_18
theorem g_X8_averageRate_19 {v0 : Int32} {v1 : Int64} {w : Nat} {x1 x2 x3 : Option Value} : Gp S N hp MX8_averageRate T 19 [some (.ref w), x1, x2, x3] [.int v0, .long v1] I J P ↔ Gp S N hp MX8_averageRate T 20 [some (.ref w), x1, x2, x3] [.ref w, .int v0, .long v1] I J P := gp_lod (len := 1) rfl rfl rfl rfl dX8_averageRate_19
theorem g_X8_averageRate_20 {v0 : Nat} {v1 : Int32} {v2 : Int64} {x0 x1 x2 x3 : Option Value} : Gp S N hp MX8_averageRate T 20 [x0, x1, x2, x3] [.ref v0, .int v1, .long v2] I J P ↔ S v0 = 8 ∧ Gp S N hp MX8_averageRate T 23 [x0, x1, x2, x3] [va_rf (P v0 2), .int v1, .long v2] I J P := gp_getf rfl rfl rfl rfl dX8_averageRate_20
theorem g_X8_averageRate_23 {v0 : Nat} {v1 : Int32} {v2 : Int64} {x0 x1 x2 x3 : Option Value} : Gp S N hp MX8_averageRate T 23 [x0, x1, x2, x3] [.ref v0, .int v1, .long v2] I J P ↔ S v0 = 5 ∧ Gp S N hp MX8_averageRate T 26 [x0, x1, x2, x3] [va_rf (P v0 2), .int v1, .long v2] I J P := gp_getf rfl rfl rfl rfl dX8_averageRate_23
theorem g_X8_averageRate_26 {v0 : Nat} {v1 : Int32} {v2 : Int64} {w : Int32} {x0 x2 x3 : Option Value} : Gp S N hp MX8_averageRate T 26 [x0, some (.int w), x2, x3] [.ref v0, .int v1, .long v2] I J P ↔ Gp S N hp MX8_averageRate T 27 [x0, some (.int w), x2, x3] [.int w, .ref v0, .int v1, .long v2] I J P := gp_lod (len := 1) rfl rfl rfl rfl dX8_averageRate_26
theorem g_X8_averageRate_27 {v0 : Int32} {v1 : Nat} {v2 : Int32} {v3 : Int64} {x0 x1 x2 x3 : Option Value} : Gp S N hp MX8_averageRate T 27 [x0, x1, x2, x3] [.int v0, .ref v1, .int v2, .long v3] I J P ↔ (S v1 = 10 ∧ vp_in v0 (N v1)) ∧ Gp S N hp MX8_averageRate T 28 [x0, x1, x2, x3] [.int (I v1 v0.toNatClampNeg), .int v2, .long v3] I J P := gp_ald rfl rfl dX8_averageRate_27
theorem g_X8_averageRate_28 {v0 : Int32} {v1 : Int32} {v2 : Int64} {x0 x1 x2 x3 : Option Value} : Gp S N hp MX8_averageRate T 28 [x0, x1, x2, x3] [.int v0, .int v1, .long v2] I J P ↔ Gp S N hp MX8_averageRate T 29 [x0, x1, x2, x3] [.int (v1 + v0), .long v2] I J P := gp_alu (len := 1) rfl rfl rfl dX8_averageRate_28
theorem g_X8_averageRate_29 {v0 : Int32} {v1 : Int64} {x0 x1 x2 x3 : Option Value} : Gp S N hp MX8_averageRate T 29 [x0, x1, x2, x3] [.int v0, .long v1] I J P ↔ Gp S N hp MX8_averageRate T 30 [x0, x1, x2, x3] [.long v0.toInt64, .long v1] I J P := gp_alu (len := 1) rfl rfl rfl dX8_averageRate_29
theorem g_X8_averageRate_30 {v0 : Int64} {v1 : Int64} {x0 x1 x2 x3 : Option Value} : Gp S N hp MX8_averageRate T 30 [x0, x1, x2, x3] [.long v0, .long v1] I J P ↔ Gp S N hp MX8_averageRate T 31 [x0, x1, x2, x3] [.long (v1 * v0)] I J P := gp_alu (len := 1) rfl rfl rfl dX8_averageRate_30
theorem g_X8_averageRate_31 {v0 : Int64} {x0 x1 x2 x3 : Option Value} : Gp S N hp MX8_averageRate T 31 [x0, x1, x2, x3] [.long v0] I J P ↔ Gp S N hp MX8_averageRate T 32 [x0, kl x1, some (.long v0), none] [] I J P := gp_sto (len := 1) rfl rfl rfl rfl (Nat.le_of_ble_eq_true rfl) rfl dX8_averageRate_31
theorem g_X8_averageRate_32 {w : Int64} {x0 x1 x3 : Option Value} : Gp S N hp MX8_averageRate T 32 [x0, x1, some (.long w), x3] [] I J P ↔ Gp S N hp MX8_averageRate T 33 [x0, x1, some (.long w), x3] [.long w] I J P := gp_lod (len := 1) rfl rfl rfl rfl dX8_averageRate_32
theorem g_X8_averageRate_33 {v0 : Int64} {x0 x1 x2 x3 : Option Value} : Gp S N hp MX8_averageRate T 33 [x0, x1, x2, x3] [.long v0] I J P ↔ Gp S N hp MX8_averageRate T 34 [x0, x1, x2, x3] [.long 0, .long v0] I J P := gp_lconst (by decide) dX8_averageRate_33
theorem g_X8_averageRate_34 {v0 : Int64} {v1 : Int64} {x0 x1 x2 x3 : Option Value} : Gp S N hp MX8_averageRate T 34 [x0, x1, x2, x3] [.long v0, .long v1] I J P ↔ Gp S N hp MX8_averageRate T 35 [x0, x1, x2, x3] [.int (lg_cmp v1 v0)] I J P := gp_alu (len := 1) rfl rfl rfl dX8_averageRate_34
theorem g_X8_averageRate_35 {v0 : Int32} {x0 x1 x2 x3 : Option Value} : Gp S N hp MX8_averageRate T 35 [x0, x1, x2, x3] [.int v0] I J P ↔ (¬ v0 = 0 → Gp S N hp MX8_averageRate T 49 [x0, x1, x2, x3] [] I J P) ∧ (v0 = 0 → Gp S N hp MX8_averageRate T 38 [x0, x1, x2, x3] [] I J P) := gp_brn rfl rfl (by decide) dX8_averageRate_35
theorem gs_X8_averageRate_38  {x0 x1 x2 x3 : Option Value} (h : T 38 [x0, x1, x2, x3] [] I J P) : Gp S N hp MX8_averageRate T 38 [x0, x1, x2, x3] [] I J P := gp_stop dX8_averageRate_38 (Or.inr (Or.inr (Or.inr ⟨rfl, fun _ _ => rfl⟩))) h
theorem g_X8_averageRate_49 {w : Nat} {x1 x2 x3 : Option Value} : Gp S N hp MX8_averageRate T 49 [some (.ref w), x1, x2, x3] [] I J P ↔ Gp S N hp MX8_averageRate T 50 [some (.ref w), x1, x2, x3] [.ref w] I J P := gp_lod (len := 1) rfl rfl rfl rfl dX8_averageRate_49
theorem g_X8_averageRate_50 {v0 : Nat} {w : Int32} {x0 x2 x3 : Option Value} : Gp S N hp MX8_averageRate T 50 [x0, some (.int w), x2, x3] [.ref v0] I J P ↔ Gp S N hp MX8_averageRate T 51 [x0, some (.int w), x2, x3] [.int w, .ref v0] I J P := gp_lod (len := 1) rfl rfl rfl rfl dX8_averageRate_50
theorem gs_X8_averageRate_51 {v0 : Int32} {v1 : Nat} {x0 x1 x2 x3 : Option Value} (h : T 51 [x0, x1, x2, x3] [.int v0, .ref v1] I J P) : Gp S N hp MX8_averageRate T 51 [x0, x1, x2, x3] [.int v0, .ref v1] I J P := gp_stop dX8_averageRate_51 (Or.inr (Or.inl rfl)) h
theorem g_X8_averageRate_54 {v0 : Nat} {x0 x1 x2 x3 : Option Value} : Gp S N hp MX8_averageRate T 54 [x0, x1, x2, x3] [.ref v0] I J P ↔ S v0 = 0 ∧ Gp S N hp MX8_averageRate T 57 [x0, x1, x2, x3] [.long (J v0 7)] I J P := gp_getf rfl rfl rfl rfl dX8_averageRate_54
theorem gs_X8_averageRate_57 {v0 : Int64} {x0 x1 x2 x3 : Option Value} (h : T 57 [x0, x1, x2, x3] [.long v0] I J P) : Gp S N hp MX8_averageRate T 57 [x0, x1, x2, x3] [.long v0] I J P := gp_stop dX8_averageRate_57 (Or.inr (Or.inr (Or.inr ⟨rfl, fun _ _ => rfl⟩))) h
theorem g_X8_averageRate_58 {v0 : UInt64} {w : Int64} {x0 x1 x3 : Option Value} : Gp S N hp MX8_averageRate T 58 [x0, x1, some (.long w), x3] [.double v0] I J P ↔ Gp S N hp MX8_averageRate T 59 [x0, x1, some (.long w), x3] [.long w, .double v0] I J P := gp_lod (len := 1) rfl rfl rfl rfl dX8_averageRate_58
theorem gs_X8_averageRate_59 {v0 : Int64} {v1 : UInt64} {x0 x1 x2 x3 : Option Value} (h : T 59 [x0, x1, x2, x3] [.long v0, .double v1] I J P) : Gp S N hp MX8_averageRate T 59 [x0, x1, x2, x3] [.long v0, .double v1] I J P := gp_stop dX8_averageRate_59 (Or.inr (Or.inr (Or.inr ⟨rfl, fun _ _ => rfl⟩))) h
theorem gs_X8_averageRate_60 {v0 : UInt64} {v1 : UInt64} {x0 x1 x2 x3 : Option Value} (h : T 60 [x0, x1, x2, x3] [.double v0, .double v1] I J P) : Gp S N hp MX8_averageRate T 60 [x0, x1, x2, x3] [.double v0, .double v1] I J P := gp_stop dX8_averageRate_60 (Or.inr (Or.inr (Or.inr ⟨rfl, fun _ _ => rfl⟩))) h
theorem gs_X8_averageRate_61 {v0 : UInt64} {x0 x1 x2 x3 : Option Value} (h : T 61 [x0, x1, x2, x3] [.double v0] I J P) : Gp S N hp MX8_averageRate T 61 [x0, x1, x2, x3] [.double v0] I J P := gp_stop dX8_averageRate_61 (Or.inr (Or.inr (Or.inr ⟨rfl, fun _ _ => rfl⟩))) h
theorem dX8_averageDependents_0 : decode cX8_averageDependents 0 = .ok (.iconst 0, 1) := by decide +kernel
theorem dX8_averageDependents_1 : decode cX8_averageDependents 1 = .ok (.istore_n 1, 1) := by decide +kernel
theorem dX8_averageDependents_2 : decode cX8_averageDependents 2 = .ok (.iconst 0, 1) := by decide +kernel
theorem dX8_averageDependents_3 : decode cX8_averageDependents 3 = .ok (.istore_n 2, 1) := by decide +kernel
theorem dX8_averageDependents_4 : decode cX8_averageDependents 4 = .ok (.iload_n 2, 1) := by decide +kernel
theorem dX8_averageDependents_5 : decode cX8_averageDependents 5 = .ok (.bipush 6, 2) := by decide +kernel
theorem dX8_averageDependents_7 : decode cX8_averageDependents 7 = .ok (.if_icmp .ge 21, 3) := by decide +kernel
theorem dX8_averageDependents_10 : decode cX8_averageDependents 10 = .ok (.iload_n 1, 1) := by decide +kernel
theorem dX8_averageDependents_11 : decode cX8_averageDependents 11 = .ok (.aload_n 0, 1) := by decide +kernel
theorem dX8_averageDependents_12 : decode cX8_averageDependents 12 = .ok (.getfield 26, 3) := by decide +kernel
theorem dX8_averageDependents_15 : decode cX8_averageDependents 15 = .ok (.getfield 164, 3) := by decide +kernel
theorem dX8_averageDependents_18 : decode cX8_averageDependents 18 = .ok (.iload_n 2, 1) := by decide +kernel
theorem dX8_averageDependents_19 : decode cX8_averageDependents 19 = .ok (.iaload, 1) := by decide +kernel
theorem dX8_averageDependents_20 : decode cX8_averageDependents 20 = .ok (.iadd, 1) := by decide +kernel
theorem dX8_averageDependents_21 : decode cX8_averageDependents 21 = .ok (.istore_n 1, 1) := by decide +kernel
theorem dX8_averageDependents_22 : decode cX8_averageDependents 22 = .ok (.iinc 2 1, 3) := by decide +kernel
theorem dX8_averageDependents_25 : decode cX8_averageDependents 25 = .ok (.goto (-21), 3) := by decide +kernel
theorem dX8_averageDependents_28 : decode cX8_averageDependents 28 = .ok (.iload_n 1, 1) := by decide +kernel
theorem dX8_averageDependents_29 : decode cX8_averageDependents 29 = .ok (.i2f, 1) := by decide +kernel
theorem dX8_averageDependents_30 : decode cX8_averageDependents 30 = .ok (.ldc_w 268, 3) := by decide +kernel
theorem dX8_averageDependents_33 : decode cX8_averageDependents 33 = .ok (.fdiv, 1) := by decide +kernel
theorem dX8_averageDependents_34 : decode cX8_averageDependents 34 = .ok (.freturn, 1) := by decide +kernel
theorem g_X8_averageDependents_0  {x0 x1 x2 : Option Value} : Gp S N hp MX8_averageDependents T 0 [x0, x1, x2] [] I J P ↔ Gp S N hp MX8_averageDependents T 1 [x0, x1, x2] [.int 0] I J P := gp_iconst (by decide) dX8_averageDependents_0
theorem g_X8_averageDependents_1 {v0 : Int32} {x0 x1 x2 : Option Value} : Gp S N hp MX8_averageDependents T 1 [x0, x1, x2] [.int v0] I J P ↔ Gp S N hp MX8_averageDependents T 2 [kl x0, some (.int v0), x2] [] I J P := gp_sto (len := 1) rfl rfl rfl rfl (Nat.le_of_ble_eq_true rfl) rfl dX8_averageDependents_1
theorem g_X8_averageDependents_2  {x0 x1 x2 : Option Value} : Gp S N hp MX8_averageDependents T 2 [x0, x1, x2] [] I J P ↔ Gp S N hp MX8_averageDependents T 3 [x0, x1, x2] [.int 0] I J P := gp_iconst (by decide) dX8_averageDependents_2
theorem g_X8_averageDependents_3 {v0 : Int32} {x0 x1 x2 : Option Value} : Gp S N hp MX8_averageDependents T 3 [x0, x1, x2] [.int v0] I J P ↔ Gp S N hp MX8_averageDependents T 4 [x0, kl x1, some (.int v0)] [] I J P := gp_sto (len := 1) rfl rfl rfl rfl (Nat.le_of_ble_eq_true rfl) rfl dX8_averageDependents_3
theorem g_X8_averageDependents_4 {w : Int32} {x0 x1 : Option Value} : Gp S N hp MX8_averageDependents T 4 [x0, x1, some (.int w)] [] I J P ↔ Gp S N hp MX8_averageDependents T 5 [x0, x1, some (.int w)] [.int w] I J P := gp_lod (len := 1) rfl rfl rfl rfl dX8_averageDependents_4
theorem g_X8_averageDependents_5 {v0 : Int32} {x0 x1 x2 : Option Value} : Gp S N hp MX8_averageDependents T 5 [x0, x1, x2] [.int v0] I J P ↔ Gp S N hp MX8_averageDependents T 7 [x0, x1, x2] [.int 6, .int v0] I J P := gp_bipush (by decide) dX8_averageDependents_5
theorem g_X8_averageDependents_7 {v0 : Int32} {v1 : Int32} {x0 x1 x2 : Option Value} : Gp S N hp MX8_averageDependents T 7 [x0, x1, x2] [.int v0, .int v1] I J P ↔ (v0 ≤ v1 → Gp S N hp MX8_averageDependents T 28 [x0, x1, x2] [] I J P) ∧ (¬ v0 ≤ v1 → Gp S N hp MX8_averageDependents T 10 [x0, x1, x2] [] I J P) := gp_br rfl rfl (by decide) dX8_averageDependents_7
theorem g_X8_averageDependents_10 {w : Int32} {x0 x2 : Option Value} : Gp S N hp MX8_averageDependents T 10 [x0, some (.int w), x2] [] I J P ↔ Gp S N hp MX8_averageDependents T 11 [x0, some (.int w), x2] [.int w] I J P := gp_lod (len := 1) rfl rfl rfl rfl dX8_averageDependents_10
theorem g_X8_averageDependents_11 {v0 : Int32} {w : Nat} {x1 x2 : Option Value} : Gp S N hp MX8_averageDependents T 11 [some (.ref w), x1, x2] [.int v0] I J P ↔ Gp S N hp MX8_averageDependents T 12 [some (.ref w), x1, x2] [.ref w, .int v0] I J P := gp_lod (len := 1) rfl rfl rfl rfl dX8_averageDependents_11
theorem g_X8_averageDependents_12 {v0 : Nat} {v1 : Int32} {x0 x1 x2 : Option Value} : Gp S N hp MX8_averageDependents T 12 [x0, x1, x2] [.ref v0, .int v1] I J P ↔ S v0 = 8 ∧ Gp S N hp MX8_averageDependents T 15 [x0, x1, x2] [va_rf (P v0 2), .int v1] I J P := gp_getf rfl rfl rfl rfl dX8_averageDependents_12
theorem g_X8_averageDependents_15 {v0 : Nat} {v1 : Int32} {x0 x1 x2 : Option Value} : Gp S N hp MX8_averageDependents T 15 [x0, x1, x2] [.ref v0, .int v1] I J P ↔ S v0 = 5 ∧ Gp S N hp MX8_averageDependents T 18 [x0, x1, x2] [va_rf (P v0 3), .int v1] I J P := gp_getf rfl rfl rfl rfl dX8_averageDependents_15
theorem g_X8_averageDependents_18 {v0 : Nat} {v1 : Int32} {w : Int32} {x0 x1 : Option Value} : Gp S N hp MX8_averageDependents T 18 [x0, x1, some (.int w)] [.ref v0, .int v1] I J P ↔ Gp S N hp MX8_averageDependents T 19 [x0, x1, some (.int w)] [.int w, .ref v0, .int v1] I J P := gp_lod (len := 1) rfl rfl rfl rfl dX8_averageDependents_18
theorem g_X8_averageDependents_19 {v0 : Int32} {v1 : Nat} {v2 : Int32} {x0 x1 x2 : Option Value} : Gp S N hp MX8_averageDependents T 19 [x0, x1, x2] [.int v0, .ref v1, .int v2] I J P ↔ (S v1 = 10 ∧ vp_in v0 (N v1)) ∧ Gp S N hp MX8_averageDependents T 20 [x0, x1, x2] [.int (I v1 v0.toNatClampNeg), .int v2] I J P := gp_ald rfl rfl dX8_averageDependents_19
theorem g_X8_averageDependents_20 {v0 : Int32} {v1 : Int32} {x0 x1 x2 : Option Value} : Gp S N hp MX8_averageDependents T 20 [x0, x1, x2] [.int v0, .int v1] I J P ↔ Gp S N hp MX8_averageDependents T 21 [x0, x1, x2] [.int (v1 + v0)] I J P := gp_alu (len := 1) rfl rfl rfl dX8_averageDependents_20
theorem g_X8_averageDependents_21 {v0 : Int32} {x0 x1 x2 : Option Value} : Gp S N hp MX8_averageDependents T 21 [x0, x1, x2] [.int v0] I J P ↔ Gp S N hp MX8_averageDependents T 22 [kl x0, some (.int v0), x2] [] I J P := gp_sto (len := 1) rfl rfl rfl rfl (Nat.le_of_ble_eq_true rfl) rfl dX8_averageDependents_21
theorem g_X8_averageDependents_22 {w : Int32} {x0 x1 : Option Value} : Gp S N hp MX8_averageDependents T 22 [x0, x1, some (.int w)] [] I J P ↔ Gp S N hp MX8_averageDependents T 25 [x0, kl x1, some (.int (w + 1))] [] I J P := gp_inc rfl rfl dX8_averageDependents_22
theorem g_X8_averageDependents_25  {x0 x1 x2 : Option Value} : Gp S N hp MX8_averageDependents T 25 [x0, x1, x2] [] I J P ↔ Gp S N hp MX8_averageDependents T 4 [x0, x1, x2] [] I J P := gp_go (len := 3) rfl (fun _ _ => rfl) rfl (by decide) dX8_averageDependents_25
theorem g_X8_averageDependents_28 {w : Int32} {x0 x2 : Option Value} : Gp S N hp MX8_averageDependents T 28 [x0, some (.int w), x2] [] I J P ↔ Gp S N hp MX8_averageDependents T 29 [x0, some (.int w), x2] [.int w] I J P := gp_lod (len := 1) rfl rfl rfl rfl dX8_averageDependents_28
theorem gs_X8_averageDependents_29 {v0 : Int32} {x0 x1 x2 : Option Value} (h : T 29 [x0, x1, x2] [.int v0] I J P) : Gp S N hp MX8_averageDependents T 29 [x0, x1, x2] [.int v0] I J P := gp_stop dX8_averageDependents_29 (Or.inr (Or.inr (Or.inr ⟨rfl, fun _ _ => rfl⟩))) h
theorem gs_X8_averageDependents_30 {v0 : UInt32} {x0 x1 x2 : Option Value} (h : T 30 [x0, x1, x2] [.float v0] I J P) : Gp S N hp MX8_averageDependents T 30 [x0, x1, x2] [.float v0] I J P := gp_stop dX8_averageDependents_30 (Or.inr (Or.inr (Or.inr ⟨rfl, fun _ _ => rfl⟩))) h
theorem gs_X8_averageDependents_33 {v0 : UInt32} {v1 : UInt32} {x0 x1 x2 : Option Value} (h : T 33 [x0, x1, x2] [.float v0, .float v1] I J P) : Gp S N hp MX8_averageDependents T 33 [x0, x1, x2] [.float v0, .float v1] I J P := gp_stop dX8_averageDependents_33 (Or.inr (Or.inr (Or.inr ⟨rfl, fun _ _ => rfl⟩))) h
theorem gs_X8_averageDependents_34 {v0 : UInt32} {x0 x1 x2 : Option Value} (h : T 34 [x0, x1, x2] [.float v0] I J P) : Gp S N hp MX8_averageDependents T 34 [x0, x1, x2] [.float v0] I J P := gp_stop dX8_averageDependents_34 (Or.inr (Or.inr (Or.inr ⟨rfl, fun _ _ => rfl⟩))) h
theorem dX9_averageRate_0 : decode cX9_averageRate 0 = .ok (.aload_n 0, 1) := by decide +kernel
theorem dX9_averageRate_1 : decode cX9_averageRate 1 = .ok (.iload_n 1, 1) := by decide +kernel
theorem dX9_averageRate_2 : decode cX9_averageRate 2 = .ok (.invokestatic 140, 3) := by decide +kernel
theorem dX9_averageRate_5 : decode cX9_averageRate 5 = .ok (.ifCond .ne 7, 3) := by decide +kernel
theorem dX9_averageRate_8 : decode cX9_averageRate 8 = .ok (.iconst 1, 1) := by decide +kernel
theorem dX9_averageRate_9 : decode cX9_averageRate 9 = .ok (.goto 24, 3) := by decide +kernel
theorem dX9_averageRate_12 : decode cX9_averageRate 12 = .ok (.aload_n 0, 1) := by decide +kernel
theorem dX9_averageRate_13 : decode cX9_averageRate 13 = .ok (.iload_n 1, 1) := by decide +kernel
theorem dX9_averageRate_14 : decode cX9_averageRate 14 = .ok (.iconst 0, 1) := by decide +kernel
theorem dX9_averageRate_15 : decode cX9_averageRate 15 = .ok (.invokevirtual 143, 3) := by decide +kernel
theorem dX9_averageRate_18 : decode cX9_averageRate 18 = .ok (.aload_n 0, 1) := by decide +kernel
theorem dX9_averageRate_19 : decode cX9_averageRate 19 = .ok (.iload_n 1, 1) := by decide +kernel
theorem dX9_averageRate_20 : decode cX9_averageRate 20 = .ok (.iconst 1, 1) := by decide +kernel
theorem dX9_averageRate_21 : decode cX9_averageRate 21 = .ok (.invokevirtual 143, 3) := by decide +kernel
theorem dX9_averageRate_24 : decode cX9_averageRate 24 = .ok (.iadd, 1) := by decide +kernel
theorem dX9_averageRate_25 : decode cX9_averageRate 25 = .ok (.ifCond .ne 7, 3) := by decide +kernel
theorem dX9_averageRate_28 : decode cX9_averageRate 28 = .ok (.iconst 2, 1) := by decide +kernel
theorem dX9_averageRate_29 : decode cX9_averageRate 29 = .ok (.goto 4, 3) := by decide +kernel
theorem dX9_averageRate_32 : decode cX9_averageRate 32 = .ok (.iconst 0, 1) := by decide +kernel
theorem dX9_averageRate_33 : decode cX9_averageRate 33 = .ok (.putfield 57, 3) := by decide +kernel
theorem dX9_averageRate_36 : decode cX9_averageRate 36 = .ok (.aload_n 0, 1) := by decide +kernel
theorem dX9_averageRate_37 : decode cX9_averageRate 37 = .ok (.getfield 57, 3) := by decide +kernel
theorem dX9_averageRate_40 : decode cX9_averageRate 40 = .ok (.ifCond .le 7, 3) := by decide +kernel
theorem dX9_averageRate_43 : decode cX9_averageRate 43 = .ok (.dconst 0, 1) := by decide +kernel
theorem dX9_averageRate_44 : decode cX9_averageRate 44 = .ok (.goto 29, 3) := by decide +kernel
theorem dX9_averageRate_47 : decode cX9_averageRate 47 = .ok (.aload_n 0, 1) := by decide +kernel
theorem dX9_averageRate_48 : decode cX9_averageRate 48 = .ok (.iload_n 1, 1) := by decide +kernel
theorem dX9_averageRate_49 : decode cX9_averageRate 49 = .ok (.invokevirtual 187, 3) := by decide +kernel
theorem dX9_averageRate_52 : decode cX9_averageRate 52 = .ok (.l2d, 1) := by decide +kernel
theorem dX9_averageRate_53 : decode cX9_averageRate 53 = .ok (.ldc2_w 151, 3) := by decide +kernel
theorem dX9_averageRate_56 : decode cX9_averageRate 56 = .ok (.aload_n 0, 1) := by decide +kernel
theorem dX9_averageRate_57 : decode cX9_averageRate 57 = .ok (.iload_n 1, 1) := by decide +kernel
theorem dX9_averageRate_58 : decode cX9_averageRate 58 = .ok (.iconst 0, 1) := by decide +kernel
theorem dX9_averageRate_59 : decode cX9_averageRate 59 = .ok (.invokevirtual 143, 3) := by decide +kernel
theorem dX9_averageRate_62 : decode cX9_averageRate 62 = .ok (.aload_n 0, 1) := by decide +kernel
theorem dX9_averageRate_63 : decode cX9_averageRate 63 = .ok (.iload_n 1, 1) := by decide +kernel
theorem dX9_averageRate_64 : decode cX9_averageRate 64 = .ok (.iconst 1, 1) := by decide +kernel
theorem dX9_averageRate_65 : decode cX9_averageRate 65 = .ok (.invokevirtual 143, 3) := by decide +kernel
theorem dX9_averageRate_68 : decode cX9_averageRate 68 = .ok (.iadd, 1) := by decide +kernel
theorem dX9_averageRate_69 : decode cX9_averageRate 69 = .ok (.i2l, 1) := by decide +kernel
theorem dX9_averageRate_70 : decode cX9_averageRate 70 = .ok (.lmul, 1) := by decide +kernel
theorem dX9_averageRate_71 : decode cX9_averageRate 71 = .ok (.l2d, 1) := by decide +kernel
theorem dX9_averageRate_72 : decode cX9_averageRate 72 = .ok (.ddiv, 1) := by decide +kernel
theorem dX9_averageRate_73 : decode cX9_averageRate 73 = .ok (.dreturn, 1) := by decide +kernel
theorem g_X9_averageRate_0 {w : Nat} {x1 : Option Value} : Gp S N hp MX9_averageRate T 0 [some (.ref w), x1] [] I J P ↔ Gp S N hp MX9_averageRate T 1 [some (.ref w), x1] [.ref w] I J P := gp_lod (len := 1) rfl rfl rfl rfl dX9_averageRate_0
theorem g_X9_averageRate_1 {v0 : Nat} {w : Int32} {x0 : Option Value} : Gp S N hp MX9_averageRate T 1 [x0, some (.int w)] [.ref v0] I J P ↔ Gp S N hp MX9_averageRate T 2 [x0, some (.int w)] [.int w, .ref v0] I J P := gp_lod (len := 1) rfl rfl rfl rfl dX9_averageRate_1
theorem gs_X9_averageRate_2 {v0 : Int32} {v1 : Nat} {x0 x1 : Option Value} (h : T 2 [x0, x1] [.int v0, .ref v1] I J P) : Gp S N hp MX9_averageRate T 2 [x0, x1] [.int v0, .ref v1] I J P := gp_stop dX9_averageRate_2 (Or.inr (Or.inr (Or.inl rfl))) h
theorem g_X9_averageRate_5 {v0 : Int32} {v1 : Nat} {x0 x1 : Option Value} : Gp S N hp MX9_averageRate T 5 [x0, x1] [.int v0, .ref v1] I J P ↔ (¬ v0 = 0 → Gp S N hp MX9_averageRate T 12 [x0, x1] [.ref v1] I J P) ∧ (v0 = 0 → Gp S N hp MX9_averageRate T 8 [x0, x1] [.ref v1] I J P) := gp_brn rfl rfl (by decide) dX9_averageRate_5
theorem g_X9_averageRate_8 {v0 : Nat} {x0 x1 : Option Value} : Gp S N hp MX9_averageRate T 8 [x0, x1] [.ref v0] I J P ↔ Gp S N hp MX9_averageRate T 9 [x0, x1] [.int 1, .ref v0] I J P := gp_iconst (by decide) dX9_averageRate_8
theorem g_X9_averageRate_9 {v0 : Int32} {v1 : Nat} {x0 x1 : Option Value} : Gp S N hp MX9_averageRate T 9 [x0, x1] [.int v0, .ref v1] I J P ↔ Gp S N hp MX9_averageRate T 33 [x0, x1] [.int v0, .ref v1] I J P := gp_go (len := 3) rfl (fun _ _ => rfl) rfl (by decide) dX9_averageRate_9
theorem g_X9_averageRate_12 {v0 : Nat} {w : Nat} {x1 : Option Value} : Gp S N hp MX9_averageRate T 12 [some (.ref w), x1] [.ref v0] I J P ↔ Gp S N hp MX9_averageRate T 13 [some (.ref w), x1] [.ref w, .ref v0] I J P := gp_lod (len := 1) rfl rfl rfl rfl dX9_averageRate_12
theorem g_X9_averageRate_13 {v0 : Nat} {v1 : Nat} {w : Int32} {x0 : Option Value} : Gp S N hp MX9_averageRate T 13 [x0, some (.int w)] [.ref v0, .ref v1] I J P ↔ Gp S N hp MX9_averageRate T 14 [x0, some (.int w)] [.int w, .ref v0, .ref v1] I J P := gp_lod (len := 1) rfl rfl rfl rfl dX9_averageRate_13
theorem g_X9_averageRate_14 {v0 : Int32} {v1 : Nat} {v2 : Nat} {x0 x1 : Option Value} : Gp S N hp MX9_averageRate T 14 [x0, x1] [.int v0, .ref v1, .ref v2] I J P ↔ Gp S N hp MX9_averageRate T 15 [x0, x1] [.int 0, .int v0, .ref v1, .ref v2] I J P := gp_iconst (by decide) dX9_averageRate_14
theorem gs_X9_averageRate_15 {v0 : Int32} {v1 : Int32} {v2 : Nat} {v3 : Nat} {x0 x1 : Option Value} (h : T 15 [x0, x1] [.int v0, .int v1, .ref v2, .ref v3] I J P) : Gp S N hp MX9_averageRate T 15 [x0, x1] [.int v0, .int v1, .ref v2, .ref v3] I J P := gp_stop dX9_averageRate_15 (Or.inr (Or.inl rfl)) h
theorem g_X9_averageRate_18 {v0 : Int32} {v1 : Nat} {w : Nat} {x1 : Option Value} : Gp S N hp MX9_averageRate T 18 [some (.ref w), x1] [.int v0, .ref v1] I J P ↔ Gp S N hp MX9_averageRate T 19 [some (.ref w), x1] [.ref w, .int v0, .ref v1] I J P := gp_lod (len := 1) rfl rfl rfl rfl dX9_averageRate_18
theorem g_X9_averageRate_19 {v0 : Nat} {v1 : Int32} {v2 : Nat} {w : Int32} {x0 : Option Value} : Gp S N hp MX9_averageRate T 19 [x0, some (.int w)] [.ref v0, .int v1, .ref v2] I J P ↔ Gp S N hp MX9_averageRate T 20 [x0, some (.int w)] [.int w, .ref v0, .int v1, .ref v2] I J P := gp_lod (len := 1) rfl rfl rfl rfl dX9_averageRate_19
theorem g_X9_averageRate_20 {v0 : Int32} {v1 : Nat} {v2 : Int32} {v3 : Nat} {x0 x1 : Option Value} : Gp S N hp MX9_averageRate T 20 [x0, x1] [.int v0, .ref v1, .int v2, .ref v3] I J P ↔ Gp S N hp MX9_averageRate T 21 [x0, x1] [.int 1, .int v0, .ref v1, .int v2, .ref v3] I J P := gp_iconst (by decide) dX9_averageRate_20
theorem gs_X9_averageRate_21 {v0 : Int32} {v1 : Int32} {v2 : Nat} {v3 : Int32} {v4 : Nat} {x0 x1 : Option Value} (h : T 21 [x0, x1] [.int v0, .int v1, .ref v2, .int v3, .ref v4] I J P) : Gp S N hp MX9_averageRate T 21 [x0, x1] [.int v0, .int v1, .ref v2, .int v3, .ref v4] I J P := gp_stop dX9_averageRate_21 (Or.inr (Or.inl rfl)) h
theorem g_X9_averageRate_24 {v0 : Int32} {v1 : Int32} {v2 : Nat} {x0 x1 : Option Value} : Gp S N hp MX9_averageRate T 24 [x0, x1] [.int v0, .int v1, .ref v2] I J P ↔ Gp S N hp MX9_averageRate T 25 [x0, x1] [.int (v1 + v0), .ref v2] I J P := gp_alu (len := 1) rfl rfl rfl dX9_averageRate_24
theorem g_X9_averageRate_25 {v0 : Int32} {v1 : Nat} {x0 x1 : Option Value} : Gp S N hp MX9_averageRate T 25 [x0, x1] [.int v0, .ref v1] I J P ↔ (¬ v0 = 0 → Gp S N hp MX9_averageRate T 32 [x0, x1] [.ref v1] I J P) ∧ (v0 = 0 → Gp S N hp MX9_averageRate T 28 [x0, x1] [.ref v1] I J P) := gp_brn rfl rfl (by decide) dX9_averageRate_25
theorem g_X9_averageRate_28 {v0 : Nat} {x0 x1 : Option Value} : Gp S N hp MX9_averageRate T 28 [x0, x1] [.ref v0] I J P ↔ Gp S N hp MX9_averageRate T 29 [x0, x1] [.int 2, .ref v0] I J P := gp_iconst (by decide) dX9_averageRate_28
theorem g_X9_averageRate_29 {v0 : Int32} {v1 : Nat} {x0 x1 : Option Value} : Gp S N hp MX9_averageRate T 29 [x0, x1] [.int v0, .ref v1] I J P ↔ Gp S N hp MX9_averageRate T 33 [x0, x1] [.int v0, .ref v1] I J P := gp_go (len := 3) rfl (fun _ _ => rfl) rfl (by decide) dX9_averageRate_29
theorem g_X9_averageRate_32 {v0 : Nat} {x0 x1 : Option Value} : Gp S N hp MX9_averageRate T 32 [x0, x1] [.ref v0] I J P ↔ Gp S N hp MX9_averageRate T 33 [x0, x1] [.int 0, .ref v0] I J P := gp_iconst (by decide) dX9_averageRate_32
theorem g_X9_averageRate_33 {v0 : Int32} {v1 : Nat} {x0 x1 : Option Value} : Gp S N true MX9_averageRate T 33 [x0, x1] [.int v0, .ref v1] I J P ↔ S v1 = 9 ∧ Gp S N true MX9_averageRate T 36 [x0, x1] [] (u2 I v1 8 v0) J P := gp_putI rfl rfl rfl rfl dX9_averageRate_33
theorem g_X9_averageRate_36 {w : Nat} {x1 : Option Value} : Gp S N hp MX9_averageRate T 36 [some (.ref w), x1] [] I J P ↔ Gp S N hp MX9_averageRate T 37 [some (.ref w), x1] [.ref w] I J P := gp_lod (len := 1) rfl rfl rfl rfl dX9_averageRate_36
theorem g_X9_averageRate_37 {v0 : Nat} {x0 x1 : Option Value} : Gp S N hp MX9_averageRate T 37 [x0, x1] [.ref v0] I J P ↔ S v0 = 9 ∧ Gp S N hp MX9_averageRate T 40 [x0, x1] [.int (I v0 8)] I J P := gp_getf rfl rfl rfl rfl dX9_averageRate_37
theorem g_X9_averageRate_40 {v0 : Int32} {x0 x1 : Option Value} : Gp S N hp MX9_averageRate T 40 [x0, x1] [.int v0] I J P ↔ (v0 ≤ 0 → Gp S N hp MX9_averageRate T 47 [x0, x1] [] I J P) ∧ (¬ v0 ≤ 0 → Gp S N hp MX9_averageRate T 43 [x0, x1] [] I J P) := gp_br rfl rfl (by decide) dX9_averageRate_40
theorem gs_X9_averageRate_43  {x0 x1 : Option Value} (h : T 43 [x0, x1] [] I J P) : Gp S N hp MX9_averageRate T 43 [x0, x1] [] I J P := gp_stop dX9_averageRate_43 (Or.inr (Or.inr (Or.inr ⟨rfl, fun _ _ => rfl⟩))) h
theorem g_X9_averageRate_44 {v0 : UInt64} {x0 x1 : Option Value} : Gp S N hp MX9_averageRate T 44 [x0, x1] [.double v0] I J P ↔ Gp S N hp MX9_averageRate T 73 [x0, x1] [.double v0] I J P := gp_go (len := 3) rfl (fun _ _ => rfl) rfl (by decide) dX9_averageRate_44
theorem g_X9_averageRate_47 {w : Nat} {x1 : Option Value} : Gp S N hp MX9_averageRate T 47 [some (.ref w), x1] [] I J P ↔ Gp S N hp MX9_averageRate T 48 [some (.ref w), x1] [.ref w] I J P := gp_lod (len := 1) rfl rfl rfl rfl dX9_averageRate_47
theorem g_X9_averageRate_48 {v0 : Nat} {w : Int32} {x0 : Option Value} : Gp S N hp MX9_averageRate T 48 [x0, some (.int w)] [.ref v0] I J P ↔ Gp S N hp MX9_averageRate T 49 [x0, some (.int w)] [.int w, .ref v0] I J P := gp_lod (len := 1) rfl rfl rfl rfl dX9_averageRate_48
theorem gs_X9_averageRate_49 {v0 : Int32} {v1 : Nat} {x0 x1 : Option Value} (h : T 49 [x0, x1] [.int v0, .ref v1] I J P) : Gp S N hp MX9_averageRate T 49 [x0, x1] [.int v0, .ref v1] I J P := gp_stop dX9_averageRate_49 (Or.inr (Or.inl rfl)) h
theorem gs_X9_averageRate_52 {v0 : Int64} {x0 x1 : Option Value} (h : T 52 [x0, x1] [.long v0] I J P) : Gp S N hp MX9_averageRate T 52 [x0, x1] [.long v0] I J P := gp_stop dX9_averageRate_52 (Or.inr (Or.inr (Or.inr ⟨rfl, fun _ _ => rfl⟩))) h
theorem g_X9_averageRate_53 {v0 : UInt64} {x0 x1 : Option Value} : Gp S N hp MX9_averageRate T 53 [x0, x1] [.double v0] I J P ↔ Gp S N hp MX9_averageRate T 56 [x0, x1] [.long 1000000, .double v0] I J P := gp_ldc2 rfl dX9_averageRate_53
theorem g_X9_averageRate_56 {v0 : Int64} {v1 : UInt64} {w : Nat} {x1 : Option Value} : Gp S N hp MX9_averageRate T 56 [some (.ref w), x1] [.long v0, .double v1] I J P ↔ Gp S N hp MX9_averageRate T 57 [some (.ref w), x1] [.ref w, .long v0, .double v1] I J P := gp_lod (len := 1) rfl rfl rfl rfl dX9_averageRate_56
theorem g_X9_averageRate_57 {v0 : Nat} {v1 : Int64} {v2 : UInt64} {w : Int32} {x0 : Option Value} : Gp S N hp MX9_averageRate T 57 [x0, some (.int w)] [.ref v0, .long v1, .double v2] I J P ↔ Gp S N hp MX9_averageRate T 58 [x0, some (.int w)] [.int w, .ref v0, .long v1, .double v2] I J P := gp_lod (len := 1) rfl rfl rfl rfl dX9_averageRate_57
theorem g_X9_averageRate_58 {v0 : Int32} {v1 : Nat} {v2 : Int64} {v3 : UInt64} {x0 x1 : Option Value} : Gp S N hp MX9_averageRate T 58 [x0, x1] [.int v0, .ref v1, .long v2, .double v3] I J P ↔ Gp S N hp MX9_averageRate T 59 [x0, x1] [.int 0, .int v0, .ref v1, .long v2, .double v3] I J P := gp_iconst (by decide) dX9_averageRate_58
theorem gs_X9_averageRate_59 {v0 : Int32} {v1 : Int32} {v2 : Nat} {v3 : Int64} {v4 : UInt64} {x0 x1 : Option Value} (h : T 59 [x0, x1] [.int v0, .int v1, .ref v2, .long v3, .double v4] I J P) : Gp S N hp MX9_averageRate T 59 [x0, x1] [.int v0, .int v1, .ref v2, .long v3, .double v4] I J P := gp_stop dX9_averageRate_59 (Or.inr (Or.inl rfl)) h
theorem g_X9_averageRate_62 {v0 : Int32} {v1 : Int64} {v2 : UInt64} {w : Nat} {x1 : Option Value} : Gp S N hp MX9_averageRate T 62 [some (.ref w), x1] [.int v0, .long v1, .double v2] I J P ↔ Gp S N hp MX9_averageRate T 63 [some (.ref w), x1] [.ref w, .int v0, .long v1, .double v2] I J P := gp_lod (len := 1) rfl rfl rfl rfl dX9_averageRate_62
theorem g_X9_averageRate_63 {v0 : Nat} {v1 : Int32} {v2 : Int64} {v3 : UInt64} {w : Int32} {x0 : Option Value} : Gp S N hp MX9_averageRate T 63 [x0, some (.int w)] [.ref v0, .int v1, .long v2, .double v3] I J P ↔ Gp S N hp MX9_averageRate T 64 [x0, some (.int w)] [.int w, .ref v0, .int v1, .long v2, .double v3] I J P := gp_lod (len := 1) rfl rfl rfl rfl dX9_averageRate_63
theorem g_X9_averageRate_64 {v0 : Int32} {v1 : Nat} {v2 : Int32} {v3 : Int64} {v4 : UInt64} {x0 x1 : Option Value} : Gp S N hp MX9_averageRate T 64 [x0, x1] [.int v0, .ref v1, .int v2, .long v3, .double v4] I J P ↔ Gp S N hp MX9_averageRate T 65 [x0, x1] [.int 1, .int v0, .ref v1, .int v2, .long v3, .double v4] I J P := gp_iconst (by decide) dX9_averageRate_64
theorem gs_X9_averageRate_65 {v0 : Int32} {v1 : Int32} {v2 : Nat} {v3 : Int32} {v4 : Int64} {v5 : UInt64} {x0 x1 : Option Value} (h : T 65 [x0, x1] [.int v0, .int v1, .ref v2, .int v3, .long v4, .double v5] I J P) : Gp S N hp MX9_averageRate T 65 [x0, x1] [.int v0, .int v1, .ref v2, .int v3, .long v4, .double v5] I J P := gp_stop dX9_averageRate_65 (Or.inr (Or.inl rfl)) h
theorem g_X9_averageRate_68 {v0 : Int32} {v1 : Int32} {v2 : Int64} {v3 : UInt64} {x0 x1 : Option Value} : Gp S N hp MX9_averageRate T 68 [x0, x1] [.int v0, .int v1, .long v2, .double v3] I J P ↔ Gp S N hp MX9_averageRate T 69 [x0, x1] [.int (v1 + v0), .long v2, .double v3] I J P := gp_alu (len := 1) rfl rfl rfl dX9_averageRate_68
theorem g_X9_averageRate_69 {v0 : Int32} {v1 : Int64} {v2 : UInt64} {x0 x1 : Option Value} : Gp S N hp MX9_averageRate T 69 [x0, x1] [.int v0, .long v1, .double v2] I J P ↔ Gp S N hp MX9_averageRate T 70 [x0, x1] [.long v0.toInt64, .long v1, .double v2] I J P := gp_alu (len := 1) rfl rfl rfl dX9_averageRate_69
theorem g_X9_averageRate_70 {v0 : Int64} {v1 : Int64} {v2 : UInt64} {x0 x1 : Option Value} : Gp S N hp MX9_averageRate T 70 [x0, x1] [.long v0, .long v1, .double v2] I J P ↔ Gp S N hp MX9_averageRate T 71 [x0, x1] [.long (v1 * v0), .double v2] I J P := gp_alu (len := 1) rfl rfl rfl dX9_averageRate_70
theorem gs_X9_averageRate_71 {v0 : Int64} {v1 : UInt64} {x0 x1 : Option Value} (h : T 71 [x0, x1] [.long v0, .double v1] I J P) : Gp S N hp MX9_averageRate T 71 [x0, x1] [.long v0, .double v1] I J P := gp_stop dX9_averageRate_71 (Or.inr (Or.inr (Or.inr ⟨rfl, fun _ _ => rfl⟩))) h
theorem gs_X9_averageRate_72 {v0 : UInt64} {v1 : UInt64} {x0 x1 : Option Value} (h : T 72 [x0, x1] [.double v0, .double v1] I J P) : Gp S N hp MX9_averageRate T 72 [x0, x1] [.double v0, .double v1] I J P := gp_stop dX9_averageRate_72 (Or.inr (Or.inr (Or.inr ⟨rfl, fun _ _ => rfl⟩))) h
theorem gs_X9_averageRate_73 {v0 : UInt64} {x0 x1 : Option Value} (h : T 73 [x0, x1] [.double v0] I J P) : Gp S N hp MX9_averageRate T 73 [x0, x1] [.double v0] I J P := gp_stop dX9_averageRate_73 (Or.inr (Or.inr (Or.inr ⟨rfl, fun _ _ => rfl⟩))) h
theorem dX9_averageDependents_0 : decode cX9_averageDependents 0 = .ok (.aload_n 0, 1) := by decide +kernel
theorem dX9_averageDependents_1 : decode cX9_averageDependents 1 = .ok (.iconst 0, 1) := by decide +kernel
theorem dX9_averageDependents_2 : decode cX9_averageDependents 2 = .ok (.putfield 57, 3) := by decide +kernel
theorem dX9_averageDependents_5 : decode cX9_averageDependents 5 = .ok (.iconst 0, 1) := by decide +kernel
theorem dX9_averageDependents_6 : decode cX9_averageDependents 6 = .ok (.istore_n 1, 1) := by decide +kernel
theorem dX9_averageDependents_7 : decode cX9_averageDependents 7 = .ok (.iconst 0, 1) := by decide +kernel
theorem dX9_averageDependents_8 : decode cX9_averageDependents 8 = .ok (.istore_n 2, 1) := by decide +kernel
theorem dX9_averageDependents_9 : decode cX9_averageDependents 9 = .ok (.iload_n 2, 1) := by decide +kernel
theorem dX9_averageDependents_10 : decode cX9_averageDependents 10 = .ok (.bipush 6, 2) := by decide +kernel
theorem dX9_averageDependents_12 : decode cX9_averageDependents 12 = .ok (.if_icmp .ge 18, 3) := by decide +kernel
theorem dX9_averageDependents_15 : decode cX9_averageDependents 15 = .ok (.iload_n 1, 1) := by decide +kernel
theorem dX9_averageDependents_16 : decode cX9_averageDependents 16 = .ok (.aload_n 0, 1) := by decide +kernel
theorem dX9_averageDependents_17 : decode cX9_averageDependents 17 = .ok (.iload_n 2, 1) := by decide +kernel
theorem dX9_averageDependents_18 : decode cX9_averageDependents 18 = .ok (.iconst 2, 1) := by decide +kernel
theorem dX9_averageDependents_19 : decode cX9_averageDependents 19 = .ok (.invokevirtual 143, 3) := by decide +kernel
theorem dX9_averageDependents_22 : decode cX9_averageDependents 22 = .ok (.iadd, 1) := by decide +kernel
theorem dX9_averageDependents_23 : decode cX9_averageDependents 23 = .ok (.istore_n 1, 1) := by decide +kernel
theorem dX9_averageDependents_24 : decode cX9_averageDependents 24 = .ok (.iinc 2 1, 3) := by decide +kernel
theorem dX9_averageDependents_27 : decode cX9_averageDependents 27 = .ok (.goto (-18), 3) := by decide +kernel
theorem dX9_averageDependents_30 : decode cX9_averageDependents 30 = .ok (.iload_n 1, 1) := by decide +kernel
theorem dX9_averageDependents_31 : decode cX9_averageDependents 31 = .ok (.i2f, 1) := by decide +kernel
theorem dX9_averageDependents_32 : decode cX9_averageDependents 32 = .ok (.ldc 234, 2) := by decide +kernel
theorem dX9_averageDependents_34 : decode cX9_averageDependents 34 = .ok (.fdiv, 1) := by decide +kernel
theorem dX9_averageDependents_35 : decode cX9_averageDependents 35 = .ok (.freturn, 1) := by decide +kernel
theorem g_X9_averageDependents_0 {w : Nat} {x1 x2 : Option Value} : Gp S N hp MX9_averageDependents T 0 [some (.ref w), x1, x2] [] I J P ↔ Gp S N hp MX9_averageDependents T 1 [some (.ref w), x1, x2] [.ref w] I J P := gp_lod (len := 1) rfl rfl rfl rfl dX9_averageDependents_0
theorem g_X9_averageDependents_1 {v0 : Nat} {x0 x1 x2 : Option Value} : Gp S N hp MX9_averageDependents T 1 [x0, x1, x2] [.ref v0] I J P ↔ Gp S N hp MX9_averageDependents T 2 [x0, x1, x2] [.int 0, .ref v0] I J P := gp_iconst (by decide) dX9_averageDependents_1
theorem g_X9_averageDependents_2 {v0 : Int32} {v1 : Nat} {x0 x1 x2 : Option Value} : Gp S N true MX9_averageDependents T 2 [x0, x1, x2] [.int v0, .ref v1] I J P ↔ S v1 = 9 ∧ Gp S N true MX9_averageDependents T 5 [x0, x1, x2] [] (u2 I v1 8 v0) J P := gp_putI rfl rfl rfl rfl dX9_averageDependents_2
theorem g_X9_averageDependents_5  {x0 x1 x2 : Option Value} : Gp S N hp MX9_averageDependents T 5 [x0, x1, x2] [] I J P ↔ Gp S N hp MX9_averageDependents T 6 [x0, x1, x2] [.int 0] I J P := gp_iconst (by decide) dX9_averageDependents_5
theorem g_X9_averageDependents_6 {v0 : Int32} {x0 x1 x2 : Option Value} : Gp S N hp MX9_averageDependents T 6 [x0, x1, x2] [.int v0] I J P ↔ Gp S N hp MX9_averageDependents T 7 [kl x0, some (.int v0), x2] [] I J P := gp_sto (len := 1) rfl rfl rfl rfl (Nat.le_of_ble_eq_true rfl) rfl dX9_averageDependents_6
theorem g_X9_averageDependents_7  {x0 x1 x2 : Option Value} : Gp S N hp MX9_averageDependents T 7 [x0, x1, x2] [] I J P ↔ Gp S N hp MX9_averageDependents T 8 [x0, x1, x2] [.int 0] I J P := gp_iconst (by decide) dX9_averageDependents_7
theorem g_X9_averageDependents_8 {v0 : Int32} {x0 x1 x2 : Option Value} : Gp S N hp MX9_averageDependents T 8 [x0, x1, x2] [.int v0] I J P ↔ Gp S N hp MX9_averageDependents T 9 [x0, kl x1, some (.int v0)] [] I J P := gp_sto (len := 1) rfl rfl rfl rfl (Nat.le_of_ble_eq_true rfl) rfl dX9_averageDependents_8
theorem g_X9_averageDependents_9 {w : Int32} {x0 x1 : Option Value} : Gp S N hp MX9_averageDependents T 9 [x0, x1, some (.int w)] [] I J P ↔ Gp S N hp MX9_averageDependents T 10 [x0, x1, some (.int w)] [.int w] I J P := gp_lod (len := 1) rfl rfl rfl rfl dX9_averageDependents_9
theorem g_X9_averageDependents_10 {v0 : Int32} {x0 x1 x2 : Option Value} : Gp S N hp MX9_averageDependents T 10 [x0, x1, x2] [.int v0] I J P ↔ Gp S N hp MX9_averageDependents T 12 [x0, x1, x2] [.int 6, .int v0] I J P := gp_bipush (by decide) dX9_averageDependents_10
theorem g_X9_averageDependents_12 {v0 : Int32} {v1 : Int32} {x0 x1 x2 : Option Value} : Gp S N hp MX9_averageDependents T 12 [x0, x1, x2] [.int v0, .int v1] I J P ↔ (v0 ≤ v1 → Gp S N hp MX9_averageDependents T 30 [x0, x1, x2] [] I J P) ∧ (¬ v0 ≤ v1 → Gp S N hp MX9_averageDependents T 15 [x0, x1, x2] [] I J P) := gp_br rfl rfl (by decide) dX9_averageDependents_12
theorem g_X9_averageDependents_15 {w : Int32} {x0 x2 : Option Value} : Gp S N hp MX9_averageDependents T 15 [x0, some (.int w), x2] [] I J P ↔ Gp S N hp MX9_averageDependents T 16 [x0, some (.int w), x2] [.int w] I J P := gp_lod (len := 1) rfl rfl rfl rfl dX9_averageDependents_15
theorem g_X9_averageDependents_16 {v0 : Int32} {w : Nat} {x1 x2 : Option Value} : Gp S N hp MX9_averageDependents T 16 [some (.ref w), x1, x2] [.int v0] I J P ↔ Gp S N hp MX9_averageDependents T 17 [some (.ref w), x1, x2] [.ref w, .int v0] I J P := gp_lod (len := 1) rfl rfl rfl rfl dX9_averageDependents_16
theorem g_X9_averageDependents_17 {v0 : Nat} {v1 : Int32} {w : Int32} {x0 x1 : Option Value} : Gp S N hp MX9_averageDependents T 17 [x0, x1, some (.int w)] [.ref v0, .int v1] I J P ↔ Gp S N hp MX9_averageDependents T 18 [x0, x1, some (.int w)] [.int w, .ref v0, .int v1] I J P := gp_lod (len := 1) rfl rfl rfl rfl dX9_averageDependents_17
theorem g_X9_averageDependents_18 {v0 : Int32} {v1 : Nat} {v2 : Int32} {x0 x1 x2 : Option Value} : Gp S N hp MX9_averageDependents T 18 [x0, x1, x2] [.int v0, .ref v1, .int v2] I J P ↔ Gp S N hp MX9_averageDependents T 19 [x0, x1, x2] [.int 2, .int v0, .ref v1, .int v2] I J P := gp_iconst (by decide) dX9_averageDependents_18
theorem gs_X9_averageDependents_19 {v0 : Int32} {v1 : Int32} {v2 : Nat} {v3 : Int32} {x0 x1 x2 : Option Value} (h : T 19 [x0, x1, x2] [.int v0, .int v1, .ref v2, .int v3] I J P) : Gp S N hp MX9_averageDependents T 19 [x0, x1, x2] [.int v0, .int v1, .ref v2, .int v3] I J P := gp_stop dX9_averageDependents_19 (Or.inr (Or.inl rfl)) h
theorem g_X9_averageDependents_22 {v0 : Int32} {v1 : Int32} {x0 x1 x2 : Option Value} : Gp S N hp MX9_averageDependents T 22 [x0, x1, x2] [.int v0, .int v1] I J P ↔ Gp S N hp MX9_averageDependents T 23 [x0, x1, x2] [.int (v1 + v0)] I J P := gp_alu (len := 1) rfl rfl rfl dX9_averageDependents_22
theorem g_X9_averageDependents_23 {v0 : Int32} {x0 x1 x2 : Option Value} : Gp S N hp MX9_averageDependents T 23 [x0, x1, x2] [.int v0] I J P ↔ Gp S N hp MX9_averageDependents T 24 [kl x0, some (.int v0), x2] [] I J P := gp_sto (len := 1) rfl rfl rfl rfl (Nat.le_of_ble_eq_true rfl) rfl dX9_averageDependents_23
theorem g_X9_averageDependents_24 {w : Int32} {x0 x1 : Option Value} : Gp S N hp MX9_averageDependents T 24 [x0, x1, some (.int w)] [] I J P ↔ Gp S N hp MX9_averageDependents T 27 [x0, kl x1, some (.int (w + 1))] [] I J P := gp_inc rfl rfl dX9_averageDependents_24
theorem g_X9_averageDependents_27  {x0 x1 x2 : Option Value} : Gp S N hp MX9_averageDependents T 27 [x0, x1, x2] [] I J P ↔ Gp S N hp MX9_averageDependents T 9 [x0, x1, x2] [] I J P := gp_go (len := 3) rfl (fun _ _ => rfl) rfl (by decide) dX9_averageDependents_27
theorem g_X9_averageDependents_30 {w : Int32} {x0 x2 : Option Value} : Gp S N hp MX9_averageDependents T 30 [x0, some (.int w), x2] [] I J P ↔ Gp S N hp MX9_averageDependents T 31 [x0, some (.int w), x2] [.int w] I J P := gp_lod (len := 1) rfl rfl rfl rfl dX9_averageDependents_30
theorem gs_X9_averageDependents_31 {v0 : Int32} {x0 x1 x2 : Option Value} (h : T 31 [x0, x1, x2] [.int v0] I J P) : Gp S N hp MX9_averageDependents T 31 [x0, x1, x2] [.int v0] I J P := gp_stop dX9_averageDependents_31 (Or.inr (Or.inr (Or.inr ⟨rfl, fun _ _ => rfl⟩))) h
theorem gs_X9_averageDependents_32 {v0 : UInt32} {x0 x1 x2 : Option Value} (h : T 32 [x0, x1, x2] [.float v0] I J P) : Gp S N hp MX9_averageDependents T 32 [x0, x1, x2] [.float v0] I J P := gp_stop dX9_averageDependents_32 (Or.inr (Or.inr (Or.inr ⟨rfl, fun _ _ => rfl⟩))) h
theorem gs_X9_averageDependents_34 {v0 : UInt32} {v1 : UInt32} {x0 x1 x2 : Option Value} (h : T 34 [x0, x1, x2] [.float v0, .float v1] I J P) : Gp S N hp MX9_averageDependents T 34 [x0, x1, x2] [.float v0, .float v1] I J P := gp_stop dX9_averageDependents_34 (Or.inr (Or.inr (Or.inr ⟨rfl, fun _ _ => rfl⟩))) h
theorem gs_X9_averageDependents_35 {v0 : UInt32} {x0 x1 x2 : Option Value} (h : T 35 [x0, x1, x2] [.float v0] I J P) : Gp S N hp MX9_averageDependents T 35 [x0, x1, x2] [.float v0] I J P := gp_stop dX9_averageDependents_35 (Or.inr (Or.inr (Or.inr ⟨rfl, fun _ _ => rfl⟩))) h
end ER

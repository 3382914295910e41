/-! the segments' rules: L_(?!law$) -/
section ER
variable {S N : Nat → Nat} {hp : Bool} {T : TG} {I : IM} {J : JM} {P : PM}
theorem dL_appendCharacter_0 : decode cL_appendCharacter 0 = .ok (.aload_n 2, 1) := by decide +kernel
theorem dL_appendCharacter_1 : decode cL_appendCharacter 1 = .ok (.iconst 0, 1) := by decide +kernel
theorem dL_appendCharacter_2 : decode cL_appendCharacter 2 = .ok (.aload_n 0, 1) := by decide +kernel
theorem dL_appendCharacter_3 : decode cL_appendCharacter 3 = .ok (.iload_n 1, 1) := by decide +kernel
theorem dL_appendCharacter_4 : decode cL_appendCharacter 4 = .ok (.invokevirtual 7, 3) := by decide +kernel
theorem dL_appendCharacter_7 : decode cL_appendCharacter 7 = .ok (.i2l, 1) := by decide +kernel
theorem dL_appendCharacter_8 : decode cL_appendCharacter 8 = .ok (.lastore, 1) := by decide +kernel
theorem dL_appendCharacter_9 : decode cL_appendCharacter 9 = .ok (.goto 9, 3) := by decide +kernel
theorem dL_appendCharacter_12 : decode cL_appendCharacter 12 = .ok (.astore_n 3, 1) := by decide +kernel
theorem dL_appendCharacter_13 : decode cL_appendCharacter 13 = .ok (.iconst 1, 1) := by decide +kernel
theorem dL_appendCharacter_14 : decode cL_appendCharacter 14 = .ok (.ireturn, 1) := by decide +kernel
theorem dL_appendCharacter_15 : decode cL_appendCharacter 15 = .ok (.astore_n 3, 1) := by decide +kernel
theorem dL_appendCharacter_16 : decode cL_appendCharacter 16 = .ok (.iconst 2, 1) := by decide +kernel
theorem dL_appendCharacter_17 : decode cL_appendCharacter 17 = .ok (.ireturn, 1) := by decide +kernel
theorem dL_appendCharacter_18 : decode cL_appendCharacter 18 = .ok (.iconst 0, 1) := by decide +kernel
theorem dL_appendCharacter_19 : decode cL_appendCharacter 19 = .ok (.ireturn, 1) := by decide +kernel
theorem g_L_appendCharacter_0 {w : Nat} {x0 x1 x3 : Option Value} : Gp S N hp ML_appendCharacter T 0 [x0, x1, some (.ref w), x3] [] I J P ↔ Gp S N hp ML_appendCharacter T 1 [x0, x1, some (.ref w), x3] [.ref w] I J P := gp_lod (len := 1) rfl rfl rfl rfl dL_appendCharacter_0
theorem g_L_appendCharacter_1 {v0 : Nat} {x0 x1 x2 x3 : Option Value} : Gp S N hp ML_appendCharacter T 1 [x0, x1, x2, x3] [.ref v0] I J P ↔ Gp S N hp ML_appendCharacter T 2 [x0, x1, x2, x3] [.int 0, .ref v0] I J P := gp_iconst (by decide) dL_appendCharacter_1
theorem g_L_appendCharacter_2 {v0 : Int32} {v1 : Nat} {w : Nat} {x1 x2 x3 : Option Value} : Gp S N hp ML_appendCharacter T 2 [some (.ref w), x1, x2, x3] [.int v0, .ref v1] I J P ↔ Gp S N hp ML_appendCharacter T 3 [some (.ref w), x1, x2, x3] [.ref w, .int v0, .ref v1] I J P := gp_lod (len := 1) rfl rfl rfl rfl dL_appendCharacter_2
theorem g_L_appendCharacter_3 {v0 : Nat} {v1 : Int32} {v2 : Nat} {w : Int32} {x0 x2 x3 : Option Value} : Gp S N hp ML_appendCharacter T 3 [x0, some (.int w), x2, x3] [.ref v0, .int v1, .ref v2] I J P ↔ Gp S N hp ML_appendCharacter T 4 [x0, some (.int w), x2, x3] [.int w, .ref v0, .int v1, .ref v2] I J P := gp_lod (len := 1) rfl rfl rfl rfl dL_appendCharacter_3
theorem gs_L_appendCharacter_4 {v0 : Int32} {v1 : Nat} {v2 : Int32} {v3 : Nat} {x0 x1 x2 x3 : Option Value} (h : T 4 [x0, x1, x2, x3] [.int v0, .ref v1, .int v2, .ref v3] I J P) : Gp S N hp ML_appendCharacter T 4 [x0, x1, x2, x3] [.int v0, .ref v1, .int v2, .ref v3] I J P := gp_stop dL_appendCharacter_4 (Or.inr (Or.inl rfl)) h
theorem g_L_appendCharacter_7 {v0 : Int32} {v1 : Int32} {v2 : Nat} {x0 x1 x2 x3 : Option Value} : Gp S N hp ML_appendCharacter T 7 [x0, x1, x2, x3] [.int v0, .int v1, .ref v2] I J P ↔ Gp S N hp ML_appendCharacter T 8 [x0, x1, x2, x3] [.long v0.toInt64, .int v1, .ref v2] I J P := gp_alu (len := 1) rfl rfl rfl dL_appendCharacter_7
theorem g_L_appendCharacter_8 {v0 : Int64} {v1 : Int32} {v2 : Nat} {x0 x1 x2 x3 : Option Value} : Gp S N true ML_appendCharacter T 8 [x0, x1, x2, x3] [.long v0, .int v1, .ref v2] I J P ↔ (S v2 = 11 ∧ vp_in v1 (N v2)) ∧ Gp S N true ML_appendCharacter T 9 [x0, x1, x2, x3] [] I (u2 J v2 v1.toNatClampNeg v0) P := gp_ast rfl rfl dL_appendCharacter_8
theorem g_L_appendCharacter_9  {x0 x1 x2 x3 : Option Value} : Gp S N hp ML_appendCharacter T 9 [x0, x1, x2, x3] [] I J P ↔ Gp S N hp ML_appendCharacter T 18 [x0, x1, x2, x3] [] I J P := gp_go (len := 3) rfl (fun _ _ => rfl) rfl (by decide) dL_appendCharacter_9
theorem g_L_appendCharacter_12 {v0 : Nat} {x0 x1 x2 x3 : Option Value} : Gp S N hp ML_appendCharacter T 12 [x0, x1, x2, x3] [.ref v0] I J P ↔ Gp S N hp ML_appendCharacter T 13 [x0, x1, kl x2, some (.ref v0)] [] I J P := gp_sto (len := 1) rfl rfl rfl rfl (Nat.le_of_ble_eq_true rfl) rfl dL_appendCharacter_12
theorem g_L_appendCharacter_13  {x0 x1 x2 x3 : Option Value} : Gp S N hp ML_appendCharacter T 13 [x0, x1, x2, x3] [] I J P ↔ Gp S N hp ML_appendCharacter T 14 [x0, x1, x2, x3] [.int 1] I J P := gp_iconst (by decide) dL_appendCharacter_13
theorem gs_L_appendCharacter_14 {v0 : Int32} {x0 x1 x2 x3 : Option Value} (h : T 14 [x0, x1, x2, x3] [.int v0] I J P) : Gp S N hp ML_appendCharacter T 14 [x0, x1, x2, x3] [.int v0] I J P := gp_stop dL_appendCharacter_14 (Or.inl rfl) h
theorem g_L_appendCharacter_15 {v0 : Nat} {x0 x1 x2 x3 : Option Value} : Gp S N hp ML_appendCharacter T 15 [x0, x1, x2, x3] [.ref v0] I J P ↔ Gp S N hp ML_appendCharacter T 16 [x0, x1, kl x2, some (.ref v0)] [] I J P := gp_sto (len := 1) rfl rfl rfl rfl (Nat.le_of_ble_eq_true rfl) rfl dL_appendCharacter_15
theorem g_L_appendCharacter_16  {x0 x1 x2 x3 : Option Value} : Gp S N hp ML_appendCharacter T 16 [x0, x1, x2, x3] [] I J P ↔ Gp S N hp ML_appendCharacter T 17 [x0, x1, x2, x3] [.int 2] I J P := gp_iconst (by decide) dL_appendCharacter_16
theorem gs_L_appendCharacter_17 {v0 : Int32} {x0 x1 x2 x3 : Option Value} (h : T 17 [x0, x1, x2, x3] [.int v0] I J P) : Gp S N hp ML_appendCharacter T 17 [x0, x1, x2, x3] [.int v0] I J P := gp_stop dL_appendCharacter_17 (Or.inl rfl) h
theorem g_L_appendCharacter_18  {x0 x1 x2 x3 : Option Value} : Gp S N hp ML_appendCharacter T 18 [x0, x1, x2, x3] [] I J P ↔ Gp S N hp ML_appendCharacter T 19 [x0, x1, x2, x3] [.int 0] I J P := gp_iconst (by decide) dL_appendCharacter_18
theorem gs_L_appendCharacter_19 {v0 : Int32} {x0 x1 x2 x3 : Option Value} (h : T 19 [x0, x1, x2, x3] [.int v0] I J P) : Gp S N hp ML_appendCharacter T 19 [x0, x1, x2, x3] [.int v0] I J P := gp_stop dL_appendCharacter_19 (Or.inl rfl) h
theorem dL_addRules_0 : decode cL_addRules 0 = .ok (.aload_n 1, 1) := by decide +kernel
theorem dL_addRules_1 : decode cL_addRules 1 = .ok (.iconst 0, 1) := by decide +kernel
theorem dL_addRules_2 : decode cL_addRules 2 = .ok (.aload_n 0, 1) := by decide +kernel
theorem dL_addRules_3 : decode cL_addRules 3 = .ok (.invokevirtual 17, 3) := by decide +kernel
theorem dL_addRules_6 : decode cL_addRules 6 = .ok (.i2l, 1) := by decide +kernel
theorem dL_addRules_7 : decode cL_addRules 7 = .ok (.lastore, 1) := by decide +kernel
theorem dL_addRules_8 : decode cL_addRules 8 = .ok (.goto 9, 3) := by decide +kernel
theorem dL_addRules_11 : decode cL_addRules 11 = .ok (.astore_n 2, 1) := by decide +kernel
theorem dL_addRules_12 : decode cL_addRules 12 = .ok (.iconst 1, 1) := by decide +kernel
theorem dL_addRules_13 : decode cL_addRules 13 = .ok (.ireturn, 1) := by decide +kernel
theorem dL_addRules_14 : decode cL_addRules 14 = .ok (.astore_n 2, 1) := by decide +kernel
theorem dL_addRules_15 : decode cL_addRules 15 = .ok (.iconst 2, 1) := by decide +kernel
theorem dL_addRules_16 : decode cL_addRules 16 = .ok (.ireturn, 1) := by decide +kernel
theorem dL_addRules_17 : decode cL_addRules 17 = .ok (.iconst 0, 1) := by decide +kernel
theorem dL_addRules_18 : decode cL_addRules 18 = .ok (.ireturn, 1) := by decide +kernel
theorem g_L_addRules_0 {w : Nat} {x0 x2 : Option Value} : Gp S N hp ML_addRules T 0 [x0, some (.ref w), x2] [] I J P ↔ Gp S N hp ML_addRules T 1 [x0, some (.ref w), x2] [.ref w] I J P := gp_lod (len := 1) rfl rfl rfl rfl dL_addRules_0
theorem g_L_addRules_1 {v0 : Nat} {x0 x1 x2 : Option Value} : Gp S N hp ML_addRules T 1 [x0, x1, x2] [.ref v0] I J P ↔ Gp S N hp ML_addRules T 2 [x0, x1, x2] [.int 0, .ref v0] I J P := gp_iconst (by decide) dL_addRules_1
theorem g_L_addRules_2 {v0 : Int32} {v1 : Nat} {w : Nat} {x1 x2 : Option Value} : Gp S N hp ML_addRules T 2 [some (.ref w), x1, x2] [.int v0, .ref v1] I J P ↔ Gp S N hp ML_addRules T 3 [some (.ref w), x1, x2] [.ref w, .int v0, .ref v1] I J P := gp_lod (len := 1) rfl rfl rfl rfl dL_addRules_2
theorem gs_L_addRules_3 {v0 : Nat} {v1 : Int32} {v2 : Nat} {x0 x1 x2 : Option Value} (h : T 3 [x0, x1, x2] [.ref v0, .int v1, .ref v2] I J P) : Gp S N hp ML_addRules T 3 [x0, x1, x2] [.ref v0, .int v1, .ref v2] I J P := gp_stop dL_addRules_3 (Or.inr (Or.inl rfl)) h
theorem g_L_addRules_6 {v0 : Int32} {v1 : Int32} {v2 : Nat} {x0 x1 x2 : Option Value} : Gp S N hp ML_addRules T 6 [x0, x1, x2] [.int v0, .int v1, .ref v2] I J P ↔ Gp S N hp ML_addRules T 7 [x0, x1, x2] [.long v0.toInt64, .int v1, .ref v2] I J P := gp_alu (len := 1) rfl rfl rfl dL_addRules_6
theorem g_L_addRules_7 {v0 : Int64} {v1 : Int32} {v2 : Nat} {x0 x1 x2 : Option Value} : Gp S N true ML_addRules T 7 [x0, x1, x2] [.long v0, .int v1, .ref v2] I J P ↔ (S v2 = 11 ∧ vp_in v1 (N v2)) ∧ Gp S N true ML_addRules T 8 [x0, x1, x2] [] I (u2 J v2 v1.toNatClampNeg v0) P := gp_ast rfl rfl dL_addRules_7
theorem g_L_addRules_8  {x0 x1 x2 : Option Value} : Gp S N hp ML_addRules T 8 [x0, x1, x2] [] I J P ↔ Gp S N hp ML_addRules T 17 [x0, x1, x2] [] I J P := gp_go (len := 3) rfl (fun _ _ => rfl) rfl (by decide) dL_addRules_8
theorem g_L_addRules_11 {v0 : Nat} {x0 x1 x2 : Option Value} : Gp S N hp ML_addRules T 11 [x0, x1, x2] [.ref v0] I J P ↔ Gp S N hp ML_addRules T 12 [x0, kl x1, some (.ref v0)] [] I J P := gp_sto (len := 1) rfl rfl rfl rfl (Nat.le_of_ble_eq_true rfl) rfl dL_addRules_11
theorem g_L_addRules_12  {x0 x1 x2 : Option Value} : Gp S N hp ML_addRules T 12 [x0, x1, x2] [] I J P ↔ Gp S N hp ML_addRules T 13 [x0, x1, x2] [.int 1] I J P := gp_iconst (by decide) dL_addRules_12
theorem gs_L_addRules_13 {v0 : Int32} {x0 x1 x2 : Option Value} (h : T 13 [x0, x1, x2] [.int v0] I J P) : Gp S N hp ML_addRules T 13 [x0, x1, x2] [.int v0] I J P := gp_stop dL_addRules_13 (Or.inl rfl) h
theorem g_L_addRules_14 {v0 : Nat} {x0 x1 x2 : Option Value} : Gp S N hp ML_addRules T 14 [x0, x1, x2] [.ref v0] I J P ↔ Gp S N hp ML_addRules T 15 [x0, kl x1, some (.ref v0)] [] I J P := gp_sto (len := 1) rfl rfl rfl rfl (Nat.le_of_ble_eq_true rfl) rfl dL_addRules_14
theorem g_L_addRules_15  {x0 x1 x2 : Option Value} : Gp S N hp ML_addRules T 15 [x0, x1, x2] [] I J P ↔ Gp S N hp ML_addRules T 16 [x0, x1, x2] [.int 2] I J P := gp_iconst (by decide) dL_addRules_15
theorem gs_L_addRules_16 {v0 : Int32} {x0 x1 x2 : Option Value} (h : T 16 [x0, x1, x2] [.int v0] I J P) : Gp S N hp ML_addRules T 16 [x0, x1, x2] [.int v0] I J P := gp_stop dL_addRules_16 (Or.inl rfl) h
theorem g_L_addRules_17  {x0 x1 x2 : Option Value} : Gp S N hp ML_addRules T 17 [x0, x1, x2] [] I J P ↔ Gp S N hp ML_addRules T 18 [x0, x1, x2] [.int 0] I J P := gp_iconst (by decide) dL_addRules_17
theorem gs_L_addRules_18 {v0 : Int32} {x0 x1 x2 : Option Value} (h : T 18 [x0, x1, x2] [.int v0] I J P) : Gp S N hp ML_addRules T 18 [x0, x1, x2] [.int v0] I J P := gp_stop dL_addRules_18 (Or.inl rfl) h
theorem dL_bracket_0 : decode cL_bracket 0 = .ok (.aload_n 3, 1) := by decide +kernel
theorem dL_bracket_1 : decode cL_bracket 1 = .ok (.iconst 0, 1) := by decide +kernel
theorem dL_bracket_2 : decode cL_bracket 2 = .ok (.aload_n 0, 1) := by decide +kernel
theorem dL_bracket_3 : decode cL_bracket 3 = .ok (.iload_n 1, 1) := by decide +kernel
theorem dL_bracket_4 : decode cL_bracket 4 = .ok (.iload_n 2, 1) := by decide +kernel
theorem dL_bracket_5 : decode cL_bracket 5 = .ok (.invokevirtual 21, 3) := by decide +kernel
theorem dL_bracket_8 : decode cL_bracket 8 = .ok (.i2l, 1) := by decide +kernel
theorem dL_bracket_9 : decode cL_bracket 9 = .ok (.lastore, 1) := by decide +kernel
theorem dL_bracket_10 : decode cL_bracket 10 = .ok (.goto 11, 3) := by decide +kernel
theorem dL_bracket_13 : decode cL_bracket 13 = .ok (.astore 4, 2) := by decide +kernel
theorem dL_bracket_15 : decode cL_bracket 15 = .ok (.iconst 1, 1) := by decide +kernel
theorem dL_bracket_16 : decode cL_bracket 16 = .ok (.ireturn, 1) := by decide +kernel
theorem dL_bracket_17 : decode cL_bracket 17 = .ok (.astore 4, 2) := by decide +kernel
theorem dL_bracket_19 : decode cL_bracket 19 = .ok (.iconst 2, 1) := by decide +kernel
theorem dL_bracket_20 : decode cL_bracket 20 = .ok (.ireturn, 1) := by decide +kernel
theorem dL_bracket_21 : decode cL_bracket 21 = .ok (.iconst 0, 1) := by decide +kernel
theorem dL_bracket_22 : decode cL_bracket 22 = .ok (.ireturn, 1) := by decide +kernel
theorem g_L_bracket_0 {w : Nat} {x0 x1 x2 x4 : Option Value} : Gp S N hp ML_bracket T 0 [x0, x1, x2, some (.ref w), x4] [] I J P ↔ Gp S N hp ML_bracket T 1 [x0, x1, x2, some (.ref w), x4] [.ref w] I J P := gp_lod (len := 1) rfl rfl rfl rfl dL_bracket_0
theorem g_L_bracket_1 {v0 : Nat} {x0 x1 x2 x3 x4 : Option Value} : Gp S N hp ML_bracket T 1 [x0, x1, x2, x3, x4] [.ref v0] I J P ↔ Gp S N hp ML_bracket T 2 [x0, x1, x2, x3, x4] [.int 0, .ref v0] I J P := gp_iconst (by decide) dL_bracket_1
theorem g_L_bracket_2 {v0 : Int32} {v1 : Nat} {w : Nat} {x1 x2 x3 x4 : Option Value} : Gp S N hp ML_bracket T 2 [some (.ref w), x1, x2, x3, x4] [.int v0, .ref v1] I J P ↔ Gp S N hp ML_bracket T 3 [some (.ref w), x1, x2, x3, x4] [.ref w, .int v0, .ref v1] I J P := gp_lod (len := 1) rfl rfl rfl rfl dL_bracket_2
theorem g_L_bracket_3 {v0 : Nat} {v1 : Int32} {v2 : Nat} {w : Int32} {x0 x2 x3 x4 : Option Value} : Gp S N hp ML_bracket T 3 [x0, some (.int w), x2, x3, x4] [.ref v0, .int v1, .ref v2] I J P ↔ Gp S N hp ML_bracket T 4 [x0, some (.int w), x2, x3, x4] [.int w, .ref v0, .int v1, .ref v2] I J P := gp_lod (len := 1) rfl rfl rfl rfl dL_bracket_3
theorem g_L_bracket_4 {v0 : Int32} {v1 : Nat} {v2 : Int32} {v3 : Nat} {w : Int32} {x0 x1 x3 x4 : Option Value} : Gp S N hp ML_bracket T 4 [x0, x1, some (.int w), x3, x4] [.int v0, .ref v1, .int v2, .ref v3] I J P ↔ Gp S N hp ML_bracket T 5 [x0, x1, some (.int w), x3, x4] [.int w, .int v0, .ref v1, .int v2, .ref v3] I J P := gp_lod (len := 1) rfl rfl rfl rfl dL_bracket_4
theorem gs_L_bracket_5 {v0 : Int32} {v1 : Int32} {v2 : Nat} {v3 : Int32} {v4 : Nat} {x0 x1 x2 x3 x4 : Option Value} (h : T 5 [x0, x1, x2, x3, x4] [.int v0, .int v1, .ref v2, .int v3, .ref v4] I J P) : Gp S N hp ML_bracket T 5 [x0, x1, x2, x3, x4] [.int v0, .int v1, .ref v2, .int v3, .ref v4] I J P := gp_stop dL_bracket_5 (Or.inr (Or.inl rfl)) h
theorem g_L_bracket_8 {v0 : Int32} {v1 : Int32} {v2 : Nat} {x0 x1 x2 x3 x4 : Option Value} : Gp S N hp ML_bracket T 8 [x0, x1, x2, x3, x4] [.int v0, .int v1, .ref v2] I J P ↔ Gp S N hp ML_bracket T 9 [x0, x1, x2, x3, x4] [.long v0.toInt64, .int v1, .ref v2] I J P := gp_alu (len := 1) rfl rfl rfl dL_bracket_8
theorem g_L_bracket_9 {v0 : Int64} {v1 : Int32} {v2 : Nat} {x0 x1 x2 x3 x4 : Option Value} : Gp S N true ML_bracket T 9 [x0, x1, x2, x3, x4] [.long v0, .int v1, .ref v2] I J P ↔ (S v2 = 11 ∧ vp_in v1 (N v2)) ∧ Gp S N true ML_bracket T 10 [x0, x1, x2, x3, x4] [] I (u2 J v2 v1.toNatClampNeg v0) P := gp_ast rfl rfl dL_bracket_9
theorem g_L_bracket_10  {x0 x1 x2 x3 x4 : Option Value} : Gp S N hp ML_bracket T 10 [x0, x1, x2, x3, x4] [] I J P ↔ Gp S N hp ML_bracket T 21 [x0, x1, x2, x3, x4] [] I J P := gp_go (len := 3) rfl (fun _ _ => rfl) rfl (by decide) dL_bracket_10
theorem g_L_bracket_13 {v0 : Nat} {x0 x1 x2 x3 x4 : Option Value} : Gp S N hp ML_bracket T 13 [x0, x1, x2, x3, x4] [.ref v0] I J P ↔ Gp S N hp ML_bracket T 15 [x0, x1, x2, kl x3, some (.ref v0)] [] I J P := gp_sto (len := 2) rfl rfl rfl rfl (Nat.le_of_ble_eq_true rfl) rfl dL_bracket_13
theorem g_L_bracket_15  {x0 x1 x2 x3 x4 : Option Value} : Gp S N hp ML_bracket T 15 [x0, x1, x2, x3, x4] [] I J P ↔ Gp S N hp ML_bracket T 16 [x0, x1, x2, x3, x4] [.int 1] I J P := gp_iconst (by decide) dL_bracket_15
theorem gs_L_bracket_16 {v0 : Int32} {x0 x1 x2 x3 x4 : Option Value} (h : T 16 [x0, x1, x2, x3, x4] [.int v0] I J P) : Gp S N hp ML_bracket T 16 [x0, x1, x2, x3, x4] [.int v0] I J P := gp_stop dL_bracket_16 (Or.inl rfl) h
theorem g_L_bracket_17 {v0 : Nat} {x0 x1 x2 x3 x4 : Option Value} : Gp S N hp ML_bracket T 17 [x0, x1, x2, x3, x4] [.ref v0] I J P ↔ Gp S N hp ML_bracket T 19 [x0, x1, x2, kl x3, some (.ref v0)] [] I J P := gp_sto (len := 2) rfl rfl rfl rfl (Nat.le_of_ble_eq_true rfl) rfl dL_bracket_17
theorem g_L_bracket_19  {x0 x1 x2 x3 x4 : Option Value} : Gp S N hp ML_bracket T 19 [x0, x1, x2, x3, x4] [] I J P ↔ Gp S N hp ML_bracket T 20 [x0, x1, x2, x3, x4] [.int 2] I J P := gp_iconst (by decide) dL_bracket_19
theorem gs_L_bracket_20 {v0 : Int32} {x0 x1 x2 x3 x4 : Option Value} (h : T 20 [x0, x1, x2, x3, x4] [.int v0] I J P) : Gp S N hp ML_bracket T 20 [x0, x1, x2, x3, x4] [.int v0] I J P := gp_stop dL_bracket_20 (Or.inl rfl) h
theorem g_L_bracket_21  {x0 x1 x2 x3 x4 : Option Value} : Gp S N hp ML_bracket T 21 [x0, x1, x2, x3, x4] [] I J P ↔ Gp S N hp ML_bracket T 22 [x0, x1, x2, x3, x4] [.int 0] I J P := gp_iconst (by decide) dL_bracket_21
theorem gs_L_bracket_22 {v0 : Int32} {x0 x1 x2 x3 x4 : Option Value} (h : T 22 [x0, x1, x2, x3, x4] [.int v0] I J P) : Gp S N hp ML_bracket T 22 [x0, x1, x2, x3, x4] [.int v0] I J P := gp_stop dL_bracket_22 (Or.inl rfl) h
theorem dL_allowance_0 : decode cL_allowance 0 = .ok (.aload_n 2, 1) := by decide +kernel
theorem dL_allowance_1 : decode cL_allowance 1 = .ok (.iconst 0, 1) := by decide +kernel
theorem dL_allowance_2 : decode cL_allowance 2 = .ok (.aload_n 0, 1) := by decide +kernel
theorem dL_allowance_3 : decode cL_allowance 3 = .ok (.iload_n 1, 1) := by decide +kernel
theorem dL_allowance_4 : decode cL_allowance 4 = .ok (.invokevirtual 27, 3) := by decide +kernel
theorem dL_allowance_7 : decode cL_allowance 7 = .ok (.i2l, 1) := by decide +kernel
theorem dL_allowance_8 : decode cL_allowance 8 = .ok (.lastore, 1) := by decide +kernel
theorem dL_allowance_9 : decode cL_allowance 9 = .ok (.goto 6, 3) := by decide +kernel
theorem dL_allowance_12 : decode cL_allowance 12 = .ok (.astore_n 3, 1) := by decide +kernel
theorem dL_allowance_13 : decode cL_allowance 13 = .ok (.iconst 1, 1) := by decide +kernel
theorem dL_allowance_14 : decode cL_allowance 14 = .ok (.ireturn, 1) := by decide +kernel
theorem dL_allowance_15 : decode cL_allowance 15 = .ok (.iconst 0, 1) := by decide +kernel
theorem dL_allowance_16 : decode cL_allowance 16 = .ok (.ireturn, 1) := by decide +kernel
theorem g_L_allowance_0 {w : Nat} {x0 x1 x3 : Option Value} : Gp S N hp ML_allowance T 0 [x0, x1, some (.ref w), x3] [] I J P ↔ Gp S N hp ML_allowance T 1 [x0, x1, some (.ref w), x3] [.ref w] I J P := gp_lod (len := 1) rfl rfl rfl rfl dL_allowance_0
theorem g_L_allowance_1 {v0 : Nat} {x0 x1 x2 x3 : Option Value} : Gp S N hp ML_allowance T 1 [x0, x1, x2, x3] [.ref v0] I J P ↔ Gp S N hp ML_allowance T 2 [x0, x1, x2, x3] [.int 0, .ref v0] I J P := gp_iconst (by decide) dL_allowance_1
theorem g_L_allowance_2 {v0 : Int32} {v1 : Nat} {w : Nat} {x1 x2 x3 : Option Value} : Gp S N hp ML_allowance T 2 [some (.ref w), x1, x2, x3] [.int v0, .ref v1] I J P ↔ Gp S N hp ML_allowance T 3 [some (.ref w), x1, x2, x3] [.ref w, .int v0, .ref v1] I J P := gp_lod (len := 1) rfl rfl rfl rfl dL_allowance_2
theorem g_L_allowance_3 {v0 : Nat} {v1 : Int32} {v2 : Nat} {w : Int32} {x0 x2 x3 : Option Value} : Gp S N hp ML_allowance T 3 [x0, some (.int w), x2, x3] [.ref v0, .int v1, .ref v2] I J P ↔ Gp S N hp ML_allowance T 4 [x0, some (.int w), x2, x3] [.int w, .ref v0, .int v1, .ref v2] I J P := gp_lod (len := 1) rfl rfl rfl rfl dL_allowance_3
theorem gs_L_allowance_4 {v0 : Int32} {v1 : Nat} {v2 : Int32} {v3 : Nat} {x0 x1 x2 x3 : Option Value} (h : T 4 [x0, x1, x2, x3] [.int v0, .ref v1, .int v2, .ref v3] I J P) : Gp S N hp ML_allowance T 4 [x0, x1, x2, x3] [.int v0, .ref v1, .int v2, .ref v3] I J P := gp_stop dL_allowance_4 (Or.inr (Or.inl rfl)) h
theorem g_L_allowance_7 {v0 : Int32} {v1 : Int32} {v2 : Nat} {x0 x1 x2 x3 : Option Value} : Gp S N hp ML_allowance T 7 [x0, x1, x2, x3] [.int v0, .int v1, .ref v2] I J P ↔ Gp S N hp ML_allowance T 8 [x0, x1, x2, x3] [.long v0.toInt64, .int v1, .ref v2] I J P := gp_alu (len := 1) rfl rfl rfl dL_allowance_7
theorem g_L_allowance_8 {v0 : Int64} {v1 : Int32} {v2 : Nat} {x0 x1 x2 x3 : Option Value} : Gp S N true ML_allowance T 8 [x0, x1, x2, x3] [.long v0, .int v1, .ref v2] I J P ↔ (S v2 = 11 ∧ vp_in v1 (N v2)) ∧ Gp S N true ML_allowance T 9 [x0, x1, x2, x3] [] I (u2 J v2 v1.toNatClampNeg v0) P := gp_ast rfl rfl dL_allowance_8
theorem g_L_allowance_9  {x0 x1 x2 x3 : Option Value} : Gp S N hp ML_allowance T 9 [x0, x1, x2, x3] [] I J P ↔ Gp S N hp ML_allowance T 15 [x0, x1, x2, x3] [] I J P := gp_go (len := 3) rfl (fun _ _ => rfl) rfl (by decide) dL_allowance_9
theorem g_L_allowance_12 {v0 : Nat} {x0 x1 x2 x3 : Option Value} : Gp S N hp ML_allowance T 12 [x0, x1, x2, x3] [.ref v0] I J P ↔ Gp S N hp ML_allowance T 13 [x0, x1, kl x2, some (.ref v0)] [] I J P := gp_sto (len := 1) rfl rfl rfl rfl (Nat.le_of_ble_eq_true rfl) rfl dL_allowance_12
theorem g_L_allowance_13  {x0 x1 x2 x3 : Option Value} : Gp S N hp ML_allowance T 13 [x0, x1, x2, x3] [] I J P ↔ Gp S N hp ML_allowance T 14 [x0, x1, x2, x3] [.int 1] I J P := gp_iconst (by decide) dL_allowance_13
theorem gs_L_allowance_14 {v0 : Int32} {x0 x1 x2 x3 : Option Value} (h : T 14 [x0, x1, x2, x3] [.int v0] I J P) : Gp S N hp ML_allowance T 14 [x0, x1, x2, x3] [.int v0] I J P := gp_stop dL_allowance_14 (Or.inl rfl) h
theorem g_L_allowance_15  {x0 x1 x2 x3 : Option Value} : Gp S N hp ML_allowance T 15 [x0, x1, x2, x3] [] I J P ↔ Gp S N hp ML_allowance T 16 [x0, x1, x2, x3] [.int 0] I J P := gp_iconst (by decide) dL_allowance_15
theorem gs_L_allowance_16 {v0 : Int32} {x0 x1 x2 x3 : Option Value} (h : T 16 [x0, x1, x2, x3] [.int v0] I J P) : Gp S N hp ML_allowance T 16 [x0, x1, x2, x3] [.int v0] I J P := gp_stop dL_allowance_16 (Or.inl rfl) h
theorem dL_charge_0 : decode cL_charge 0 = .ok (.aload_n 3, 1) := by decide +kernel
theorem dL_charge_1 : decode cL_charge 1 = .ok (.iconst 0, 1) := by decide +kernel
theorem dL_charge_2 : decode cL_charge 2 = .ok (.aload_n 0, 1) := by decide +kernel
theorem dL_charge_3 : decode cL_charge 3 = .ok (.iload_n 1, 1) := by decide +kernel
theorem dL_charge_4 : decode cL_charge 4 = .ok (.iload_n 2, 1) := by decide +kernel
theorem dL_charge_5 : decode cL_charge 5 = .ok (.invokevirtual 30, 3) := by decide +kernel
theorem dL_charge_8 : decode cL_charge 8 = .ok (.i2l, 1) := by decide +kernel
theorem dL_charge_9 : decode cL_charge 9 = .ok (.lastore, 1) := by decide +kernel
theorem dL_charge_10 : decode cL_charge 10 = .ok (.goto 11, 3) := by decide +kernel
theorem dL_charge_13 : decode cL_charge 13 = .ok (.astore 4, 2) := by decide +kernel
theorem dL_charge_15 : decode cL_charge 15 = .ok (.iconst 1, 1) := by decide +kernel
theorem dL_charge_16 : decode cL_charge 16 = .ok (.ireturn, 1) := by decide +kernel
theorem dL_charge_17 : decode cL_charge 17 = .ok (.astore 4, 2) := by decide +kernel
theorem dL_charge_19 : decode cL_charge 19 = .ok (.iconst 2, 1) := by decide +kernel
theorem dL_charge_20 : decode cL_charge 20 = .ok (.ireturn, 1) := by decide +kernel
theorem dL_charge_21 : decode cL_charge 21 = .ok (.iconst 0, 1) := by decide +kernel
theorem dL_charge_22 : decode cL_charge 22 = .ok (.ireturn, 1) := by decide +kernel
theorem g_L_charge_0 {w : Nat} {x0 x1 x2 x4 : Option Value} : Gp S N hp ML_charge T 0 [x0, x1, x2, some (.ref w), x4] [] I J P ↔ Gp S N hp ML_charge T 1 [x0, x1, x2, some (.ref w), x4] [.ref w] I J P := gp_lod (len := 1) rfl rfl rfl rfl dL_charge_0
theorem g_L_charge_1 {v0 : Nat} {x0 x1 x2 x3 x4 : Option Value} : Gp S N hp ML_charge T 1 [x0, x1, x2, x3, x4] [.ref v0] I J P ↔ Gp S N hp ML_charge T 2 [x0, x1, x2, x3, x4] [.int 0, .ref v0] I J P := gp_iconst (by decide) dL_charge_1
theorem g_L_charge_2 {v0 : Int32} {v1 : Nat} {w : Nat} {x1 x2 x3 x4 : Option Value} : Gp S N hp ML_charge T 2 [some (.ref w), x1, x2, x3, x4] [.int v0, .ref v1] I J P ↔ Gp S N hp ML_charge T 3 [some (.ref w), x1, x2, x3, x4] [.ref w, .int v0, .ref v1] I J P := gp_lod (len := 1) rfl rfl rfl rfl dL_charge_2
theorem g_L_charge_3 {v0 : Nat} {v1 : Int32} {v2 : Nat} {w : Int32} {x0 x2 x3 x4 : Option Value} : Gp S N hp ML_charge T 3 [x0, some (.int w), x2, x3, x4] [.ref v0, .int v1, .ref v2] I J P ↔ Gp S N hp ML_charge T 4 [x0, some (.int w), x2, x3, x4] [.int w, .ref v0, .int v1, .ref v2] I J P := gp_lod (len := 1) rfl rfl rfl rfl dL_charge_3
theorem g_L_charge_4 {v0 : Int32} {v1 : Nat} {v2 : Int32} {v3 : Nat} {w : Int32} {x0 x1 x3 x4 : Option Value} : Gp S N hp ML_charge T 4 [x0, x1, some (.int w), x3, x4] [.int v0, .ref v1, .int v2, .ref v3] I J P ↔ Gp S N hp ML_charge T 5 [x0, x1, some (.int w), x3, x4] [.int w, .int v0, .ref v1, .int v2, .ref v3] I J P := gp_lod (len := 1) rfl rfl rfl rfl dL_charge_4
theorem gs_L_charge_5 {v0 : Int32} {v1 : Int32} {v2 : Nat} {v3 : Int32} {v4 : Nat} {x0 x1 x2 x3 x4 : Option Value} (h : T 5 [x0, x1, x2, x3, x4] [.int v0, .int v1, .ref v2, .int v3, .ref v4] I J P) : Gp S N hp ML_charge T 5 [x0, x1, x2, x3, x4] [.int v0, .int v1, .ref v2, .int v3, .ref v4] I J P := gp_stop dL_charge_5 (Or.inr (Or.inl rfl)) h
theorem g_L_charge_8 {v0 : Int32} {v1 : Int32} {v2 : Nat} {x0 x1 x2 x3 x4 : Option Value} : Gp S N hp ML_charge T 8 [x0, x1, x2, x3, x4] [.int v0, .int v1, .ref v2] I J P ↔ Gp S N hp ML_charge T 9 [x0, x1, x2, x3, x4] [.long v0.toInt64, .int v1, .ref v2] I J P := gp_alu (len := 1) rfl rfl rfl dL_charge_8
theorem g_L_charge_9 {v0 : Int64} {v1 : Int32} {v2 : Nat} {x0 x1 x2 x3 x4 : Option Value} : Gp S N true ML_charge T 9 [x0, x1, x2, x3, x4] [.long v0, .int v1, .ref v2] I J P ↔ (S v2 = 11 ∧ vp_in v1 (N v2)) ∧ Gp S N true ML_charge T 10 [x0, x1, x2, x3, x4] [] I (u2 J v2 v1.toNatClampNeg v0) P := gp_ast rfl rfl dL_charge_9
theorem g_L_charge_10  {x0 x1 x2 x3 x4 : Option Value} : Gp S N hp ML_charge T 10 [x0, x1, x2, x3, x4] [] I J P ↔ Gp S N hp ML_charge T 21 [x0, x1, x2, x3, x4] [] I J P := gp_go (len := 3) rfl (fun _ _ => rfl) rfl (by decide) dL_charge_10
theorem g_L_charge_13 {v0 : Nat} {x0 x1 x2 x3 x4 : Option Value} : Gp S N hp ML_charge T 13 [x0, x1, x2, x3, x4] [.ref v0] I J P ↔ Gp S N hp ML_charge T 15 [x0, x1, x2, kl x3, some (.ref v0)] [] I J P := gp_sto (len := 2) rfl rfl rfl rfl (Nat.le_of_ble_eq_true rfl) rfl dL_charge_13
theorem g_L_charge_15  {x0 x1 x2 x3 x4 : Option Value} : Gp S N hp ML_charge T 15 [x0, x1, x2, x3, x4] [] I J P ↔ Gp S N hp ML_charge T 16 [x0, x1, x2, x3, x4] [.int 1] I J P := gp_iconst (by decide) dL_charge_15
theorem gs_L_charge_16 {v0 : Int32} {x0 x1 x2 x3 x4 : Option Value} (h : T 16 [x0, x1, x2, x3, x4] [.int v0] I J P) : Gp S N hp ML_charge T 16 [x0, x1, x2, x3, x4] [.int v0] I J P := gp_stop dL_charge_16 (Or.inl rfl) h
theorem g_L_charge_17 {v0 : Nat} {x0 x1 x2 x3 x4 : Option Value} : Gp S N hp ML_charge T 17 [x0, x1, x2, x3, x4] [.ref v0] I J P ↔ Gp S N hp ML_charge T 19 [x0, x1, x2, kl x3, some (.ref v0)] [] I J P := gp_sto (len := 2) rfl rfl rfl rfl (Nat.le_of_ble_eq_true rfl) rfl dL_charge_17
theorem g_L_charge_19  {x0 x1 x2 x3 x4 : Option Value} : Gp S N hp ML_charge T 19 [x0, x1, x2, x3, x4] [] I J P ↔ Gp S N hp ML_charge T 20 [x0, x1, x2, x3, x4] [.int 2] I J P := gp_iconst (by decide) dL_charge_19
theorem gs_L_charge_20 {v0 : Int32} {x0 x1 x2 x3 x4 : Option Value} (h : T 20 [x0, x1, x2, x3, x4] [.int v0] I J P) : Gp S N hp ML_charge T 20 [x0, x1, x2, x3, x4] [.int v0] I J P := gp_stop dL_charge_20 (Or.inl rfl) h
theorem g_L_charge_21  {x0 x1 x2 x3 x4 : Option Value} : Gp S N hp ML_charge T 21 [x0, x1, x2, x3, x4] [] I J P ↔ Gp S N hp ML_charge T 22 [x0, x1, x2, x3, x4] [.int 0] I J P := gp_iconst (by decide) dL_charge_21
theorem gs_L_charge_22 {v0 : Int32} {x0 x1 x2 x3 x4 : Option Value} (h : T 22 [x0, x1, x2, x3, x4] [.int v0] I J P) : Gp S N hp ML_charge T 22 [x0, x1, x2, x3, x4] [.int v0] I J P := gp_stop dL_charge_22 (Or.inl rfl) h
theorem dL_credit_0 : decode cL_credit 0 = .ok (.aload_n 3, 1) := by decide +kernel
theorem dL_credit_1 : decode cL_credit 1 = .ok (.iconst 0, 1) := by decide +kernel
theorem dL_credit_2 : decode cL_credit 2 = .ok (.aload_n 0, 1) := by decide +kernel
theorem dL_credit_3 : decode cL_credit 3 = .ok (.iload_n 1, 1) := by decide +kernel
theorem dL_credit_4 : decode cL_credit 4 = .ok (.iload_n 2, 1) := by decide +kernel
theorem dL_credit_5 : decode cL_credit 5 = .ok (.invokevirtual 33, 3) := by decide +kernel
theorem dL_credit_8 : decode cL_credit 8 = .ok (.i2l, 1) := by decide +kernel
theorem dL_credit_9 : decode cL_credit 9 = .ok (.lastore, 1) := by decide +kernel
theorem dL_credit_10 : decode cL_credit 10 = .ok (.goto 11, 3) := by decide +kernel
theorem dL_credit_13 : decode cL_credit 13 = .ok (.astore 4, 2) := by decide +kernel
theorem dL_credit_15 : decode cL_credit 15 = .ok (.iconst 1, 1) := by decide +kernel
theorem dL_credit_16 : decode cL_credit 16 = .ok (.ireturn, 1) := by decide +kernel
theorem dL_credit_17 : decode cL_credit 17 = .ok (.astore 4, 2) := by decide +kernel
theorem dL_credit_19 : decode cL_credit 19 = .ok (.iconst 2, 1) := by decide +kernel
theorem dL_credit_20 : decode cL_credit 20 = .ok (.ireturn, 1) := by decide +kernel
theorem dL_credit_21 : decode cL_credit 21 = .ok (.iconst 0, 1) := by decide +kernel
theorem dL_credit_22 : decode cL_credit 22 = .ok (.ireturn, 1) := by decide +kernel
theorem g_L_credit_0 {w : Nat} {x0 x1 x2 x4 : Option Value} : Gp S N hp ML_credit T 0 [x0, x1, x2, some (.ref w), x4] [] I J P ↔ Gp S N hp ML_credit T 1 [x0, x1, x2, some (.ref w), x4] [.ref w] I J P := gp_lod (len := 1) rfl rfl rfl rfl dL_credit_0
theorem g_L_credit_1 {v0 : Nat} {x0 x1 x2 x3 x4 : Option Value} : Gp S N hp ML_credit T 1 [x0, x1, x2, x3, x4] [.ref v0] I J P ↔ Gp S N hp ML_credit T 2 [x0, x1, x2, x3, x4] [.int 0, .ref v0] I J P := gp_iconst (by decide) dL_credit_1
theorem g_L_credit_2 {v0 : Int32} {v1 : Nat} {w : Nat} {x1 x2 x3 x4 : Option Value} : Gp S N hp ML_credit T 2 [some (.ref w), x1, x2, x3, x4] [.int v0, .ref v1] I J P ↔ Gp S N hp ML_credit T 3 [some (.ref w), x1, x2, x3, x4] [.ref w, .int v0, .ref v1] I J P := gp_lod (len := 1) rfl rfl rfl rfl dL_credit_2
theorem g_L_credit_3 {v0 : Nat} {v1 : Int32} {v2 : Nat} {w : Int32} {x0 x2 x3 x4 : Option Value} : Gp S N hp ML_credit T 3 [x0, some (.int w), x2, x3, x4] [.ref v0, .int v1, .ref v2] I J P ↔ Gp S N hp ML_credit T 4 [x0, some (.int w), x2, x3, x4] [.int w, .ref v0, .int v1, .ref v2] I J P := gp_lod (len := 1) rfl rfl rfl rfl dL_credit_3
theorem g_L_credit_4 {v0 : Int32} {v1 : Nat} {v2 : Int32} {v3 : Nat} {w : Int32} {x0 x1 x3 x4 : Option Value} : Gp S N hp ML_credit T 4 [x0, x1, some (.int w), x3, x4] [.int v0, .ref v1, .int v2, .ref v3] I J P ↔ Gp S N hp ML_credit T 5 [x0, x1, some (.int w), x3, x4] [.int w, .int v0, .ref v1, .int v2, .ref v3] I J P := gp_lod (len := 1) rfl rfl rfl rfl dL_credit_4
theorem gs_L_credit_5 {v0 : Int32} {v1 : Int32} {v2 : Nat} {v3 : Int32} {v4 : Nat} {x0 x1 x2 x3 x4 : Option Value} (h : T 5 [x0, x1, x2, x3, x4] [.int v0, .int v1, .ref v2, .int v3, .ref v4] I J P) : Gp S N hp ML_credit T 5 [x0, x1, x2, x3, x4] [.int v0, .int v1, .ref v2, .int v3, .ref v4] I J P := gp_stop dL_credit_5 (Or.inr (Or.inl rfl)) h
theorem g_L_credit_8 {v0 : Int32} {v1 : Int32} {v2 : Nat} {x0 x1 x2 x3 x4 : Option Value} : Gp S N hp ML_credit T 8 [x0, x1, x2, x3, x4] [.int v0, .int v1, .ref v2] I J P ↔ Gp S N hp ML_credit T 9 [x0, x1, x2, x3, x4] [.long v0.toInt64, .int v1, .ref v2] I J P := gp_alu (len := 1) rfl rfl rfl dL_credit_8
theorem g_L_credit_9 {v0 : Int64} {v1 : Int32} {v2 : Nat} {x0 x1 x2 x3 x4 : Option Value} : Gp S N true ML_credit T 9 [x0, x1, x2, x3, x4] [.long v0, .int v1, .ref v2] I J P ↔ (S v2 = 11 ∧ vp_in v1 (N v2)) ∧ Gp S N true ML_credit T 10 [x0, x1, x2, x3, x4] [] I (u2 J v2 v1.toNatClampNeg v0) P := gp_ast rfl rfl dL_credit_9
theorem g_L_credit_10  {x0 x1 x2 x3 x4 : Option Value} : Gp S N hp ML_credit T 10 [x0, x1, x2, x3, x4] [] I J P ↔ Gp S N hp ML_credit T 21 [x0, x1, x2, x3, x4] [] I J P := gp_go (len := 3) rfl (fun _ _ => rfl) rfl (by decide) dL_credit_10
theorem g_L_credit_13 {v0 : Nat} {x0 x1 x2 x3 x4 : Option Value} : Gp S N hp ML_credit T 13 [x0, x1, x2, x3, x4] [.ref v0] I J P ↔ Gp S N hp ML_credit T 15 [x0, x1, x2, kl x3, some (.ref v0)] [] I J P := gp_sto (len := 2) rfl rfl rfl rfl (Nat.le_of_ble_eq_true rfl) rfl dL_credit_13
theorem g_L_credit_15  {x0 x1 x2 x3 x4 : Option Value} : Gp S N hp ML_credit T 15 [x0, x1, x2, x3, x4] [] I J P ↔ Gp S N hp ML_credit T 16 [x0, x1, x2, x3, x4] [.int 1] I J P := gp_iconst (by decide) dL_credit_15
theorem gs_L_credit_16 {v0 : Int32} {x0 x1 x2 x3 x4 : Option Value} (h : T 16 [x0, x1, x2, x3, x4] [.int v0] I J P) : Gp S N hp ML_credit T 16 [x0, x1, x2, x3, x4] [.int v0] I J P := gp_stop dL_credit_16 (Or.inl rfl) h
theorem g_L_credit_17 {v0 : Nat} {x0 x1 x2 x3 x4 : Option Value} : Gp S N hp ML_credit T 17 [x0, x1, x2, x3, x4] [.ref v0] I J P ↔ Gp S N hp ML_credit T 19 [x0, x1, x2, kl x3, some (.ref v0)] [] I J P := gp_sto (len := 2) rfl rfl rfl rfl (Nat.le_of_ble_eq_true rfl) rfl dL_credit_17
theorem g_L_credit_19  {x0 x1 x2 x3 x4 : Option Value} : Gp S N hp ML_credit T 19 [x0, x1, x2, x3, x4] [] I J P ↔ Gp S N hp ML_credit T 20 [x0, x1, x2, x3, x4] [.int 2] I J P := gp_iconst (by decide) dL_credit_19
theorem gs_L_credit_20 {v0 : Int32} {x0 x1 x2 x3 x4 : Option Value} (h : T 20 [x0, x1, x2, x3, x4] [.int v0] I J P) : Gp S N hp ML_credit T 20 [x0, x1, x2, x3, x4] [.int v0] I J P := gp_stop dL_credit_20 (Or.inl rfl) h
theorem g_L_credit_21  {x0 x1 x2 x3 x4 : Option Value} : Gp S N hp ML_credit T 21 [x0, x1, x2, x3, x4] [] I J P ↔ Gp S N hp ML_credit T 22 [x0, x1, x2, x3, x4] [.int 0] I J P := gp_iconst (by decide) dL_credit_21
theorem gs_L_credit_22 {v0 : Int32} {x0 x1 x2 x3 x4 : Option Value} (h : T 22 [x0, x1, x2, x3, x4] [.int v0] I J P) : Gp S N hp ML_credit T 22 [x0, x1, x2, x3, x4] [.int v0] I J P := gp_stop dL_credit_22 (Or.inl rfl) h
theorem dL_removeCredit_0 : decode cL_removeCredit 0 = .ok (.aload_n 2, 1) := by decide +kernel
theorem dL_removeCredit_1 : decode cL_removeCredit 1 = .ok (.iconst 0, 1) := by decide +kernel
theorem dL_removeCredit_2 : decode cL_removeCredit 2 = .ok (.aload_n 0, 1) := by decide +kernel
theorem dL_removeCredit_3 : decode cL_removeCredit 3 = .ok (.iload_n 1, 1) := by decide +kernel
theorem dL_removeCredit_4 : decode cL_removeCredit 4 = .ok (.invokevirtual 36, 3) := by decide +kernel
theorem dL_removeCredit_7 : decode cL_removeCredit 7 = .ok (.i2l, 1) := by decide +kernel
theorem dL_removeCredit_8 : decode cL_removeCredit 8 = .ok (.lastore, 1) := by decide +kernel
theorem dL_removeCredit_9 : decode cL_removeCredit 9 = .ok (.goto 6, 3) := by decide +kernel
theorem dL_removeCredit_12 : decode cL_removeCredit 12 = .ok (.astore_n 3, 1) := by decide +kernel
theorem dL_removeCredit_13 : decode cL_removeCredit 13 = .ok (.iconst 1, 1) := by decide +kernel
theorem dL_removeCredit_14 : decode cL_removeCredit 14 = .ok (.ireturn, 1) := by decide +kernel
theorem dL_removeCredit_15 : decode cL_removeCredit 15 = .ok (.iconst 0, 1) := by decide +kernel
theorem dL_removeCredit_16 : decode cL_removeCredit 16 = .ok (.ireturn, 1) := by decide +kernel
theorem g_L_removeCredit_0 {w : Nat} {x0 x1 x3 : Option Value} : Gp S N hp ML_removeCredit T 0 [x0, x1, some (.ref w), x3] [] I J P ↔ Gp S N hp ML_removeCredit T 1 [x0, x1, some (.ref w), x3] [.ref w] I J P := gp_lod (len := 1) rfl rfl rfl rfl dL_removeCredit_0
theorem g_L_removeCredit_1 {v0 : Nat} {x0 x1 x2 x3 : Option Value} : Gp S N hp ML_removeCredit T 1 [x0, x1, x2, x3] [.ref v0] I J P ↔ Gp S N hp ML_removeCredit T 2 [x0, x1, x2, x3] [.int 0, .ref v0] I J P := gp_iconst (by decide) dL_removeCredit_1
theorem g_L_removeCredit_2 {v0 : Int32} {v1 : Nat} {w : Nat} {x1 x2 x3 : Option Value} : Gp S N hp ML_removeCredit T 2 [some (.ref w), x1, x2, x3] [.int v0, .ref v1] I J P ↔ Gp S N hp ML_removeCredit T 3 [some (.ref w), x1, x2, x3] [.ref w, .int v0, .ref v1] I J P := gp_lod (len := 1) rfl rfl rfl rfl dL_removeCredit_2
theorem g_L_removeCredit_3 {v0 : Nat} {v1 : Int32} {v2 : Nat} {w : Int32} {x0 x2 x3 : Option Value} : Gp S N hp ML_removeCredit T 3 [x0, some (.int w), x2, x3] [.ref v0, .int v1, .ref v2] I J P ↔ Gp S N hp ML_removeCredit T 4 [x0, some (.int w), x2, x3] [.int w, .ref v0, .int v1, .ref v2] I J P := gp_lod (len := 1) rfl rfl rfl rfl dL_removeCredit_3
theorem gs_L_removeCredit_4 {v0 : Int32} {v1 : Nat} {v2 : Int32} {v3 : Nat} {x0 x1 x2 x3 : Option Value} (h : T 4 [x0, x1, x2, x3] [.int v0, .ref v1, .int v2, .ref v3] I J P) : Gp S N hp ML_removeCredit T 4 [x0, x1, x2, x3] [.int v0, .ref v1, .int v2, .ref v3] I J P := gp_stop dL_removeCredit_4 (Or.inr (Or.inl rfl)) h
theorem g_L_removeCredit_7 {v0 : Int32} {v1 : Int32} {v2 : Nat} {x0 x1 x2 x3 : Option Value} : Gp S N hp ML_removeCredit T 7 [x0, x1, x2, x3] [.int v0, .int v1, .ref v2] I J P ↔ Gp S N hp ML_removeCredit T 8 [x0, x1, x2, x3] [.long v0.toInt64, .int v1, .ref v2] I J P := gp_alu (len := 1) rfl rfl rfl dL_removeCredit_7
theorem g_L_removeCredit_8 {v0 : Int64} {v1 : Int32} {v2 : Nat} {x0 x1 x2 x3 : Option Value} : Gp S N true ML_removeCredit T 8 [x0, x1, x2, x3] [.long v0, .int v1, .ref v2] I J P ↔ (S v2 = 11 ∧ vp_in v1 (N v2)) ∧ Gp S N true ML_removeCredit T 9 [x0, x1, x2, x3] [] I (u2 J v2 v1.toNatClampNeg v0) P := gp_ast rfl rfl dL_removeCredit_8
theorem g_L_removeCredit_9  {x0 x1 x2 x3 : Option Value} : Gp S N hp ML_removeCredit T 9 [x0, x1, x2, x3] [] I J P ↔ Gp S N hp ML_removeCredit T 15 [x0, x1, x2, x3] [] I J P := gp_go (len := 3) rfl (fun _ _ => rfl) rfl (by decide) dL_removeCredit_9
theorem g_L_removeCredit_12 {v0 : Nat} {x0 x1 x2 x3 : Option Value} : Gp S N hp ML_removeCredit T 12 [x0, x1, x2, x3] [.ref v0] I J P ↔ Gp S N hp ML_removeCredit T 13 [x0, x1, kl x2, some (.ref v0)] [] I J P := gp_sto (len := 1) rfl rfl rfl rfl (Nat.le_of_ble_eq_true rfl) rfl dL_removeCredit_12
theorem g_L_removeCredit_13  {x0 x1 x2 x3 : Option Value} : Gp S N hp ML_removeCredit T 13 [x0, x1, x2, x3] [] I J P ↔ Gp S N hp ML_removeCredit T 14 [x0, x1, x2, x3] [.int 1] I J P := gp_iconst (by decide) dL_removeCredit_13
theorem gs_L_removeCredit_14 {v0 : Int32} {x0 x1 x2 x3 : Option Value} (h : T 14 [x0, x1, x2, x3] [.int v0] I J P) : Gp S N hp ML_removeCredit T 14 [x0, x1, x2, x3] [.int v0] I J P := gp_stop dL_removeCredit_14 (Or.inl rfl) h
theorem g_L_removeCredit_15  {x0 x1 x2 x3 : Option Value} : Gp S N hp ML_removeCredit T 15 [x0, x1, x2, x3] [] I J P ↔ Gp S N hp ML_removeCredit T 16 [x0, x1, x2, x3] [.int 0] I J P := gp_iconst (by decide) dL_removeCredit_15
theorem gs_L_removeCredit_16 {v0 : Int32} {x0 x1 x2 x3 : Option Value} (h : T 16 [x0, x1, x2, x3] [.int v0] I J P) : Gp S N hp ML_removeCredit T 16 [x0, x1, x2, x3] [.int v0] I J P := gp_stop dL_removeCredit_16 (Or.inl rfl) h
theorem dL_moveCredit_0 : decode cL_moveCredit 0 = .ok (.aload_n 0, 1) := by decide +kernel
theorem dL_moveCredit_1 : decode cL_moveCredit 1 = .ok (.iload_n 1, 1) := by decide +kernel
theorem dL_moveCredit_2 : decode cL_moveCredit 2 = .ok (.iload_n 2, 1) := by decide +kernel
theorem dL_moveCredit_3 : decode cL_moveCredit 3 = .ok (.invokevirtual 39, 3) := by decide +kernel
theorem dL_moveCredit_6 : decode cL_moveCredit 6 = .ok (.goto 6, 3) := by decide +kernel
theorem dL_moveCredit_9 : decode cL_moveCredit 9 = .ok (.astore_n 3, 1) := by decide +kernel
theorem dL_moveCredit_10 : decode cL_moveCredit 10 = .ok (.iconst 1, 1) := by decide +kernel
theorem dL_moveCredit_11 : decode cL_moveCredit 11 = .ok (.ireturn, 1) := by decide +kernel
theorem dL_moveCredit_12 : decode cL_moveCredit 12 = .ok (.iconst 0, 1) := by decide +kernel
theorem dL_moveCredit_13 : decode cL_moveCredit 13 = .ok (.ireturn, 1) := by decide +kernel
theorem g_L_moveCredit_0 {w : Nat} {x1 x2 x3 : Option Value} : Gp S N hp ML_moveCredit T 0 [some (.ref w), x1, x2, x3] [] I J P ↔ Gp S N hp ML_moveCredit T 1 [some (.ref w), x1, x2, x3] [.ref w] I J P := gp_lod (len := 1) rfl rfl rfl rfl dL_moveCredit_0
theorem g_L_moveCredit_1 {v0 : Nat} {w : Int32} {x0 x2 x3 : Option Value} : Gp S N hp ML_moveCredit T 1 [x0, some (.int w), x2, x3] [.ref v0] I J P ↔ Gp S N hp ML_moveCredit T 2 [x0, some (.int w), x2, x3] [.int w, .ref v0] I J P := gp_lod (len := 1) rfl rfl rfl rfl dL_moveCredit_1
theorem g_L_moveCredit_2 {v0 : Int32} {v1 : Nat} {w : Int32} {x0 x1 x3 : Option Value} : Gp S N hp ML_moveCredit T 2 [x0, x1, some (.int w), x3] [.int v0, .ref v1] I J P ↔ Gp S N hp ML_moveCredit T 3 [x0, x1, some (.int w), x3] [.int w, .int v0, .ref v1] I J P := gp_lod (len := 1) rfl rfl rfl rfl dL_moveCredit_2
theorem gs_L_moveCredit_3 {v0 : Int32} {v1 : Int32} {v2 : Nat} {x0 x1 x2 x3 : Option Value} (h : T 3 [x0, x1, x2, x3] [.int v0, .int v1, .ref v2] I J P) : Gp S N hp ML_moveCredit T 3 [x0, x1, x2, x3] [.int v0, .int v1, .ref v2] I J P := gp_stop dL_moveCredit_3 (Or.inr (Or.inl rfl)) h
theorem g_L_moveCredit_6  {x0 x1 x2 x3 : Option Value} : Gp S N hp ML_moveCredit T 6 [x0, x1, x2, x3] [] I J P ↔ Gp S N hp ML_moveCredit T 12 [x0, x1, x2, x3] [] I J P := gp_go (len := 3) rfl (fun _ _ => rfl) rfl (by decide) dL_moveCredit_6
theorem g_L_moveCredit_9 {v0 : Nat} {x0 x1 x2 x3 : Option Value} : Gp S N hp ML_moveCredit T 9 [x0, x1, x2, x3] [.ref v0] I J P ↔ Gp S N hp ML_moveCredit T 10 [x0, x1, kl x2, some (.ref v0)] [] I J P := gp_sto (len := 1) rfl rfl rfl rfl (Nat.le_of_ble_eq_true rfl) rfl dL_moveCredit_9
theorem g_L_moveCredit_10  {x0 x1 x2 x3 : Option Value} : Gp S N hp ML_moveCredit T 10 [x0, x1, x2, x3] [] I J P ↔ Gp S N hp ML_moveCredit T 11 [x0, x1, x2, x3] [.int 1] I J P := gp_iconst (by decide) dL_moveCredit_10
theorem gs_L_moveCredit_11 {v0 : Int32} {x0 x1 x2 x3 : Option Value} (h : T 11 [x0, x1, x2, x3] [.int v0] I J P) : Gp S N hp ML_moveCredit T 11 [x0, x1, x2, x3] [.int v0] I J P := gp_stop dL_moveCredit_11 (Or.inl rfl) h
theorem g_L_moveCredit_12  {x0 x1 x2 x3 : Option Value} : Gp S N hp ML_moveCredit T 12 [x0, x1, x2, x3] [] I J P ↔ Gp S N hp ML_moveCredit T 13 [x0, x1, x2, x3] [.int 0] I J P := gp_iconst (by decide) dL_moveCredit_12
theorem gs_L_moveCredit_13 {v0 : Int32} {x0 x1 x2 x3 : Option Value} (h : T 13 [x0, x1, x2, x3] [.int v0] I J P) : Gp S N hp ML_moveCredit T 13 [x0, x1, x2, x3] [.int v0] I J P := gp_stop dL_moveCredit_13 (Or.inl rfl) h
theorem dL_setPerson_0 : decode cL_setPerson 0 = .ok (.aload_n 0, 1) := by decide +kernel
theorem dL_setPerson_1 : decode cL_setPerson 1 = .ok (.iload_n 1, 1) := by decide +kernel
theorem dL_setPerson_2 : decode cL_setPerson 2 = .ok (.iload_n 2, 1) := by decide +kernel
theorem dL_setPerson_3 : decode cL_setPerson 3 = .ok (.iload_n 3, 1) := by decide +kernel
theorem dL_setPerson_4 : decode cL_setPerson 4 = .ok (.iload 4, 2) := by decide +kernel
theorem dL_setPerson_6 : decode cL_setPerson 6 = .ok (.invokevirtual 43, 3) := by decide +kernel
theorem dL_setPerson_9 : decode cL_setPerson 9 = .ok (.goto 11, 3) := by decide +kernel
theorem dL_setPerson_12 : decode cL_setPerson 12 = .ok (.astore 5, 2) := by decide +kernel
theorem dL_setPerson_14 : decode cL_setPerson 14 = .ok (.iconst 1, 1) := by decide +kernel
theorem dL_setPerson_15 : decode cL_setPerson 15 = .ok (.ireturn, 1) := by decide +kernel
theorem dL_setPerson_16 : decode cL_setPerson 16 = .ok (.astore 5, 2) := by decide +kernel
theorem dL_setPerson_18 : decode cL_setPerson 18 = .ok (.iconst 2, 1) := by decide +kernel
theorem dL_setPerson_19 : decode cL_setPerson 19 = .ok (.ireturn, 1) := by decide +kernel
theorem dL_setPerson_20 : decode cL_setPerson 20 = .ok (.iconst 0, 1) := by decide +kernel
theorem dL_setPerson_21 : decode cL_setPerson 21 = .ok (.ireturn, 1) := by decide +kernel
theorem g_L_setPerson_0 {w : Nat} {x1 x2 x3 x4 x5 : Option Value} : Gp S N hp ML_setPerson T 0 [some (.ref w), x1, x2, x3, x4, x5] [] I J P ↔ Gp S N hp ML_setPerson T 1 [some (.ref w), x1, x2, x3, x4, x5] [.ref w] I J P := gp_lod (len := 1) rfl rfl rfl rfl dL_setPerson_0
theorem g_L_setPerson_1 {v0 : Nat} {w : Int32} {x0 x2 x3 x4 x5 : Option Value} : Gp S N hp ML_setPerson T 1 [x0, some (.int w), x2, x3, x4, x5] [.ref v0] I J P ↔ Gp S N hp ML_setPerson T 2 [x0, some (.int w), x2, x3, x4, x5] [.int w, .ref v0] I J P := gp_lod (len := 1) rfl rfl rfl rfl dL_setPerson_1
theorem g_L_setPerson_2 {v0 : Int32} {v1 : Nat} {w : Int32} {x0 x1 x3 x4 x5 : Option Value} : Gp S N hp ML_setPerson T 2 [x0, x1, some (.int w), x3, x4, x5] [.int v0, .ref v1] I J P ↔ Gp S N hp ML_setPerson T 3 [x0, x1, some (.int w), x3, x4, x5] [.int w, .int v0, .ref v1] I J P := gp_lod (len := 1) rfl rfl rfl rfl dL_setPerson_2
theorem g_L_setPerson_3 {v0 : Int32} {v1 : Int32} {v2 : Nat} {w : Int32} {x0 x1 x2 x4 x5 : Option Value} : Gp S N hp ML_setPerson T 3 [x0, x1, x2, some (.int w), x4, x5] [.int v0, .int v1, .ref v2] I J P ↔ Gp S N hp ML_setPerson T 4 [x0, x1, x2, some (.int w), x4, x5] [.int w, .int v0, .int v1, .ref v2] I J P := gp_lod (len := 1) rfl rfl rfl rfl dL_setPerson_3
theorem g_L_setPerson_4 {v0 : Int32} {v1 : Int32} {v2 : Int32} {v3 : Nat} {w : Int32} {x0 x1 x2 x3 x5 : Option Value} : Gp S N hp ML_setPerson T 4 [x0, x1, x2, x3, some (.int w), x5] [.int v0, .int v1, .int v2, .ref v3] I J P ↔ Gp S N hp ML_setPerson T 6 [x0, x1, x2, x3, some (.int w), x5] [.int w, .int v0, .int v1, .int v2, .ref v3] I J P := gp_lod (len := 2) rfl rfl rfl rfl dL_setPerson_4
theorem gs_L_setPerson_6 {v0 : Int32} {v1 : Int32} {v2 : Int32} {v3 : Int32} {v4 : Nat} {x0 x1 x2 x3 x4 x5 : Option Value} (h : T 6 [x0, x1, x2, x3, x4, x5] [.int v0, .int v1, .int v2, .int v3, .ref v4] I J P) : Gp S N hp ML_setPerson T 6 [x0, x1, x2, x3, x4, x5] [.int v0, .int v1, .int v2, .int v3, .ref v4] I J P := gp_stop dL_setPerson_6 (Or.inr (Or.inl rfl)) h
theorem g_L_setPerson_9  {x0 x1 x2 x3 x4 x5 : Option Value} : Gp S N hp ML_setPerson T 9 [x0, x1, x2, x3, x4, x5] [] I J P ↔ Gp S N hp ML_setPerson T 20 [x0, x1, x2, x3, x4, x5] [] I J P := gp_go (len := 3) rfl (fun _ _ => rfl) rfl (by decide) dL_setPerson_9
theorem g_L_setPerson_12 {v0 : Nat} {x0 x1 x2 x3 x4 x5 : Option Value} : Gp S N hp ML_setPerson T 12 [x0, x1, x2, x3, x4, x5] [.ref v0] I J P ↔ Gp S N hp ML_setPerson T 14 [x0, x1, x2, x3, kl x4, some (.ref v0)] [] I J P := gp_sto (len := 2) rfl rfl rfl rfl (Nat.le_of_ble_eq_true rfl) rfl dL_setPerson_12
theorem g_L_setPerson_14  {x0 x1 x2 x3 x4 x5 : Option Value} : Gp S N hp ML_setPerson T 14 [x0, x1, x2, x3, x4, x5] [] I J P ↔ Gp S N hp ML_setPerson T 15 [x0, x1, x2, x3, x4, x5] [.int 1] I J P := gp_iconst (by decide) dL_setPerson_14
theorem gs_L_setPerson_15 {v0 : Int32} {x0 x1 x2 x3 x4 x5 : Option Value} (h : T 15 [x0, x1, x2, x3, x4, x5] [.int v0] I J P) : Gp S N hp ML_setPerson T 15 [x0, x1, x2, x3, x4, x5] [.int v0] I J P := gp_stop dL_setPerson_15 (Or.inl rfl) h
theorem g_L_setPerson_16 {v0 : Nat} {x0 x1 x2 x3 x4 x5 : Option Value} : Gp S N hp ML_setPerson T 16 [x0, x1, x2, x3, x4, x5] [.ref v0] I J P ↔ Gp S N hp ML_setPerson T 18 [x0, x1, x2, x3, kl x4, some (.ref v0)] [] I J P := gp_sto (len := 2) rfl rfl rfl rfl (Nat.le_of_ble_eq_true rfl) rfl dL_setPerson_16
theorem g_L_setPerson_18  {x0 x1 x2 x3 x4 x5 : Option Value} : Gp S N hp ML_setPerson T 18 [x0, x1, x2, x3, x4, x5] [] I J P ↔ Gp S N hp ML_setPerson T 19 [x0, x1, x2, x3, x4, x5] [.int 2] I J P := gp_iconst (by decide) dL_setPerson_18
theorem gs_L_setPerson_19 {v0 : Int32} {x0 x1 x2 x3 x4 x5 : Option Value} (h : T 19 [x0, x1, x2, x3, x4, x5] [.int v0] I J P) : Gp S N hp ML_setPerson T 19 [x0, x1, x2, x3, x4, x5] [.int v0] I J P := gp_stop dL_setPerson_19 (Or.inl rfl) h
theorem g_L_setPerson_20  {x0 x1 x2 x3 x4 x5 : Option Value} : Gp S N hp ML_setPerson T 20 [x0, x1, x2, x3, x4, x5] [] I J P ↔ Gp S N hp ML_setPerson T 21 [x0, x1, x2, x3, x4, x5] [.int 0] I J P := gp_iconst (by decide) dL_setPerson_20
theorem gs_L_setPerson_21 {v0 : Int32} {x0 x1 x2 x3 x4 x5 : Option Value} (h : T 21 [x0, x1, x2, x3, x4, x5] [.int v0] I J P) : Gp S N hp ML_setPerson T 21 [x0, x1, x2, x3, x4, x5] [.int v0] I J P := gp_stop dL_setPerson_21 (Or.inl rfl) h
theorem dL_personData_0 : decode cL_personData 0 = .ok (.aload_n 3, 1) := by decide +kernel
theorem dL_personData_1 : decode cL_personData 1 = .ok (.iconst 0, 1) := by decide +kernel
theorem dL_personData_2 : decode cL_personData 2 = .ok (.aload_n 0, 1) := by decide +kernel
theorem dL_personData_3 : decode cL_personData 3 = .ok (.iload_n 1, 1) := by decide +kernel
theorem dL_personData_4 : decode cL_personData 4 = .ok (.iload_n 2, 1) := by decide +kernel
theorem dL_personData_5 : decode cL_personData 5 = .ok (.invokevirtual 47, 3) := by decide +kernel
theorem dL_personData_8 : decode cL_personData 8 = .ok (.i2l, 1) := by decide +kernel
theorem dL_personData_9 : decode cL_personData 9 = .ok (.lastore, 1) := by decide +kernel
theorem dL_personData_10 : decode cL_personData 10 = .ok (.goto 11, 3) := by decide +kernel
theorem dL_personData_13 : decode cL_personData 13 = .ok (.astore 4, 2) := by decide +kernel
theorem dL_personData_15 : decode cL_personData 15 = .ok (.iconst 1, 1) := by decide +kernel
theorem dL_personData_16 : decode cL_personData 16 = .ok (.ireturn, 1) := by decide +kernel
theorem dL_personData_17 : decode cL_personData 17 = .ok (.astore 4, 2) := by decide +kernel
theorem dL_personData_19 : decode cL_personData 19 = .ok (.iconst 2, 1) := by decide +kernel
theorem dL_personData_20 : decode cL_personData 20 = .ok (.ireturn, 1) := by decide +kernel
theorem dL_personData_21 : decode cL_personData 21 = .ok (.iconst 0, 1) := by decide +kernel
theorem dL_personData_22 : decode cL_personData 22 = .ok (.ireturn, 1) := by decide +kernel
theorem g_L_personData_0 {w : Nat} {x0 x1 x2 x4 : Option Value} : Gp S N hp ML_personData T 0 [x0, x1, x2, some (.ref w), x4] [] I J P ↔ Gp S N hp ML_personData T 1 [x0, x1, x2, some (.ref w), x4] [.ref w] I J P := gp_lod (len := 1) rfl rfl rfl rfl dL_personData_0
theorem g_L_personData_1 {v0 : Nat} {x0 x1 x2 x3 x4 : Option Value} : Gp S N hp ML_personData T 1 [x0, x1, x2, x3, x4] [.ref v0] I J P ↔ Gp S N hp ML_personData T 2 [x0, x1, x2, x3, x4] [.int 0, .ref v0] I J P := gp_iconst (by decide) dL_personData_1
theorem g_L_personData_2 {v0 : Int32} {v1 : Nat} {w : Nat} {x1 x2 x3 x4 : Option Value} : Gp S N hp ML_personData T 2 [some (.ref w), x1, x2, x3, x4] [.int v0, .ref v1] I J P ↔ Gp S N hp ML_personData T 3 [some (.ref w), x1, x2, x3, x4] [.ref w, .int v0, .ref v1] I J P := gp_lod (len := 1) rfl rfl rfl rfl dL_personData_2
theorem g_L_personData_3 {v0 : Nat} {v1 : Int32} {v2 : Nat} {w : Int32} {x0 x2 x3 x4 : Option Value} : Gp S N hp ML_personData T 3 [x0, some (.int w), x2, x3, x4] [.ref v0, .int v1, .ref v2] I J P ↔ Gp S N hp ML_personData T 4 [x0, some (.int w), x2, x3, x4] [.int w, .ref v0, .int v1, .ref v2] I J P := gp_lod (len := 1) rfl rfl rfl rfl dL_personData_3
theorem g_L_personData_4 {v0 : Int32} {v1 : Nat} {v2 : Int32} {v3 : Nat} {w : Int32} {x0 x1 x3 x4 : Option Value} : Gp S N hp ML_personData T 4 [x0, x1, some (.int w), x3, x4] [.int v0, .ref v1, .int v2, .ref v3] I J P ↔ Gp S N hp ML_personData T 5 [x0, x1, some (.int w), x3, x4] [.int w, .int v0, .ref v1, .int v2, .ref v3] I J P := gp_lod (len := 1) rfl rfl rfl rfl dL_personData_4
theorem gs_L_personData_5 {v0 : Int32} {v1 : Int32} {v2 : Nat} {v3 : Int32} {v4 : Nat} {x0 x1 x2 x3 x4 : Option Value} (h : T 5 [x0, x1, x2, x3, x4] [.int v0, .int v1, .ref v2, .int v3, .ref v4] I J P) : Gp S N hp ML_personData T 5 [x0, x1, x2, x3, x4] [.int v0, .int v1, .ref v2, .int v3, .ref v4] I J P := gp_stop dL_personData_5 (Or.inr (Or.inl rfl)) h
theorem g_L_personData_8 {v0 : Int32} {v1 : Int32} {v2 : Nat} {x0 x1 x2 x3 x4 : Option Value} : Gp S N hp ML_personData T 8 [x0, x1, x2, x3, x4] [.int v0, .int v1, .ref v2] I J P ↔ Gp S N hp ML_personData T 9 [x0, x1, x2, x3, x4] [.long v0.toInt64, .int v1, .ref v2] I J P := gp_alu (len := 1) rfl rfl rfl dL_personData_8
theorem g_L_personData_9 {v0 : Int64} {v1 : Int32} {v2 : Nat} {x0 x1 x2 x3 x4 : Option Value} : Gp S N true ML_personData T 9 [x0, x1, x2, x3, x4] [.long v0, .int v1, .ref v2] I J P ↔ (S v2 = 11 ∧ vp_in v1 (N v2)) ∧ Gp S N true ML_personData T 10 [x0, x1, x2, x3, x4] [] I (u2 J v2 v1.toNatClampNeg v0) P := gp_ast rfl rfl dL_personData_9
theorem g_L_personData_10  {x0 x1 x2 x3 x4 : Option Value} : Gp S N hp ML_personData T 10 [x0, x1, x2, x3, x4] [] I J P ↔ Gp S N hp ML_personData T 21 [x0, x1, x2, x3, x4] [] I J P := gp_go (len := 3) rfl (fun _ _ => rfl) rfl (by decide) dL_personData_10
theorem g_L_personData_13 {v0 : Nat} {x0 x1 x2 x3 x4 : Option Value} : Gp S N hp ML_personData T 13 [x0, x1, x2, x3, x4] [.ref v0] I J P ↔ Gp S N hp ML_personData T 15 [x0, x1, x2, kl x3, some (.ref v0)] [] I J P := gp_sto (len := 2) rfl rfl rfl rfl (Nat.le_of_ble_eq_true rfl) rfl dL_personData_13
theorem g_L_personData_15  {x0 x1 x2 x3 x4 : Option Value} : Gp S N hp ML_personData T 15 [x0, x1, x2, x3, x4] [] I J P ↔ Gp S N hp ML_personData T 16 [x0, x1, x2, x3, x4] [.int 1] I J P := gp_iconst (by decide) dL_personData_15
theorem gs_L_personData_16 {v0 : Int32} {x0 x1 x2 x3 x4 : Option Value} (h : T 16 [x0, x1, x2, x3, x4] [.int v0] I J P) : Gp S N hp ML_personData T 16 [x0, x1, x2, x3, x4] [.int v0] I J P := gp_stop dL_personData_16 (Or.inl rfl) h
theorem g_L_personData_17 {v0 : Nat} {x0 x1 x2 x3 x4 : Option Value} : Gp S N hp ML_personData T 17 [x0, x1, x2, x3, x4] [.ref v0] I J P ↔ Gp S N hp ML_personData T 19 [x0, x1, x2, kl x3, some (.ref v0)] [] I J P := gp_sto (len := 2) rfl rfl rfl rfl (Nat.le_of_ble_eq_true rfl) rfl dL_personData_17
theorem g_L_personData_19  {x0 x1 x2 x3 x4 : Option Value} : Gp S N hp ML_personData T 19 [x0, x1, x2, x3, x4] [] I J P ↔ Gp S N hp ML_personData T 20 [x0, x1, x2, x3, x4] [.int 2] I J P := gp_iconst (by decide) dL_personData_19
theorem gs_L_personData_20 {v0 : Int32} {x0 x1 x2 x3 x4 : Option Value} (h : T 20 [x0, x1, x2, x3, x4] [.int v0] I J P) : Gp S N hp ML_personData T 20 [x0, x1, x2, x3, x4] [.int v0] I J P := gp_stop dL_personData_20 (Or.inl rfl) h
theorem g_L_personData_21  {x0 x1 x2 x3 x4 : Option Value} : Gp S N hp ML_personData T 21 [x0, x1, x2, x3, x4] [] I J P ↔ Gp S N hp ML_personData T 22 [x0, x1, x2, x3, x4] [.int 0] I J P := gp_iconst (by decide) dL_personData_21
theorem gs_L_personData_22 {v0 : Int32} {x0 x1 x2 x3 x4 : Option Value} (h : T 22 [x0, x1, x2, x3, x4] [.int v0] I J P) : Gp S N hp ML_personData T 22 [x0, x1, x2, x3, x4] [.int v0] I J P := gp_stop dL_personData_22 (Or.inl rfl) h
theorem dL_marry_0 : decode cL_marry 0 = .ok (.aload_n 0, 1) := by decide +kernel
theorem dL_marry_1 : decode cL_marry 1 = .ok (.iload_n 1, 1) := by decide +kernel
theorem dL_marry_2 : decode cL_marry 2 = .ok (.iload_n 2, 1) := by decide +kernel
theorem dL_marry_3 : decode cL_marry 3 = .ok (.invokevirtual 50, 3) := by decide +kernel
theorem dL_marry_6 : decode cL_marry 6 = .ok (.goto 12, 3) := by decide +kernel
theorem dL_marry_9 : decode cL_marry 9 = .ok (.astore_n 3, 1) := by decide +kernel
theorem dL_marry_10 : decode cL_marry 10 = .ok (.iconst 1, 1) := by decide +kernel
theorem dL_marry_11 : decode cL_marry 11 = .ok (.ireturn, 1) := by decide +kernel
theorem dL_marry_12 : decode cL_marry 12 = .ok (.astore_n 3, 1) := by decide +kernel
theorem dL_marry_13 : decode cL_marry 13 = .ok (.iconst 2, 1) := by decide +kernel
theorem dL_marry_14 : decode cL_marry 14 = .ok (.ireturn, 1) := by decide +kernel
theorem dL_marry_15 : decode cL_marry 15 = .ok (.astore_n 3, 1) := by decide +kernel
theorem dL_marry_16 : decode cL_marry 16 = .ok (.iconst 3, 1) := by decide +kernel
theorem dL_marry_17 : decode cL_marry 17 = .ok (.ireturn, 1) := by decide +kernel
theorem dL_marry_18 : decode cL_marry 18 = .ok (.iconst 0, 1) := by decide +kernel
theorem dL_marry_19 : decode cL_marry 19 = .ok (.ireturn, 1) := by decide +kernel
theorem g_L_marry_0 {w : Nat} {x1 x2 x3 : Option Value} : Gp S N hp ML_marry T 0 [some (.ref w), x1, x2, x3] [] I J P ↔ Gp S N hp ML_marry T 1 [some (.ref w), x1, x2, x3] [.ref w] I J P := gp_lod (len := 1) rfl rfl rfl rfl dL_marry_0
theorem g_L_marry_1 {v0 : Nat} {w : Int32} {x0 x2 x3 : Option Value} : Gp S N hp ML_marry T 1 [x0, some (.int w), x2, x3] [.ref v0] I J P ↔ Gp S N hp ML_marry T 2 [x0, some (.int w), x2, x3] [.int w, .ref v0] I J P := gp_lod (len := 1) rfl rfl rfl rfl dL_marry_1
theorem g_L_marry_2 {v0 : Int32} {v1 : Nat} {w : Int32} {x0 x1 x3 : Option Value} : Gp S N hp ML_marry T 2 [x0, x1, some (.int w), x3] [.int v0, .ref v1] I J P ↔ Gp S N hp ML_marry T 3 [x0, x1, some (.int w), x3] [.int w, .int v0, .ref v1] I J P := gp_lod (len := 1) rfl rfl rfl rfl dL_marry_2
theorem gs_L_marry_3 {v0 : Int32} {v1 : Int32} {v2 : Nat} {x0 x1 x2 x3 : Option Value} (h : T 3 [x0, x1, x2, x3] [.int v0, .int v1, .ref v2] I J P) : Gp S N hp ML_marry T 3 [x0, x1, x2, x3] [.int v0, .int v1, .ref v2] I J P := gp_stop dL_marry_3 (Or.inr (Or.inl rfl)) h
theorem g_L_marry_6  {x0 x1 x2 x3 : Option Value} : Gp S N hp ML_marry T 6 [x0, x1, x2, x3] [] I J P ↔ Gp S N hp ML_marry T 18 [x0, x1, x2, x3] [] I J P := gp_go (len := 3) rfl (fun _ _ => rfl) rfl (by decide) dL_marry_6
theorem g_L_marry_9 {v0 : Nat} {x0 x1 x2 x3 : Option Value} : Gp S N hp ML_marry T 9 [x0, x1, x2, x3] [.ref v0] I J P ↔ Gp S N hp ML_marry T 10 [x0, x1, kl x2, some (.ref v0)] [] I J P := gp_sto (len := 1) rfl rfl rfl rfl (Nat.le_of_ble_eq_true rfl) rfl dL_marry_9
theorem g_L_marry_10  {x0 x1 x2 x3 : Option Value} : Gp S N hp ML_marry T 10 [x0, x1, x2, x3] [] I J P ↔ Gp S N hp ML_marry T 11 [x0, x1, x2, x3] [.int 1] I J P := gp_iconst (by decide) dL_marry_10
theorem gs_L_marry_11 {v0 : Int32} {x0 x1 x2 x3 : Option Value} (h : T 11 [x0, x1, x2, x3] [.int v0] I J P) : Gp S N hp ML_marry T 11 [x0, x1, x2, x3] [.int v0] I J P := gp_stop dL_marry_11 (Or.inl rfl) h
theorem g_L_marry_12 {v0 : Nat} {x0 x1 x2 x3 : Option Value} : Gp S N hp ML_marry T 12 [x0, x1, x2, x3] [.ref v0] I J P ↔ Gp S N hp ML_marry T 13 [x0, x1, kl x2, some (.ref v0)] [] I J P := gp_sto (len := 1) rfl rfl rfl rfl (Nat.le_of_ble_eq_true rfl) rfl dL_marry_12
theorem g_L_marry_13  {x0 x1 x2 x3 : Option Value} : Gp S N hp ML_marry T 13 [x0, x1, x2, x3] [] I J P ↔ Gp S N hp ML_marry T 14 [x0, x1, x2, x3] [.int 2] I J P := gp_iconst (by decide) dL_marry_13
theorem gs_L_marry_14 {v0 : Int32} {x0 x1 x2 x3 : Option Value} (h : T 14 [x0, x1, x2, x3] [.int v0] I J P) : Gp S N hp ML_marry T 14 [x0, x1, x2, x3] [.int v0] I J P := gp_stop dL_marry_14 (Or.inl rfl) h
theorem g_L_marry_15 {v0 : Nat} {x0 x1 x2 x3 : Option Value} : Gp S N hp ML_marry T 15 [x0, x1, x2, x3] [.ref v0] I J P ↔ Gp S N hp ML_marry T 16 [x0, x1, kl x2, some (.ref v0)] [] I J P := gp_sto (len := 1) rfl rfl rfl rfl (Nat.le_of_ble_eq_true rfl) rfl dL_marry_15
theorem g_L_marry_16  {x0 x1 x2 x3 : Option Value} : Gp S N hp ML_marry T 16 [x0, x1, x2, x3] [] I J P ↔ Gp S N hp ML_marry T 17 [x0, x1, x2, x3] [.int 3] I J P := gp_iconst (by decide) dL_marry_16
theorem gs_L_marry_17 {v0 : Int32} {x0 x1 x2 x3 : Option Value} (h : T 17 [x0, x1, x2, x3] [.int v0] I J P) : Gp S N hp ML_marry T 17 [x0, x1, x2, x3] [.int v0] I J P := gp_stop dL_marry_17 (Or.inl rfl) h
theorem g_L_marry_18  {x0 x1 x2 x3 : Option Value} : Gp S N hp ML_marry T 18 [x0, x1, x2, x3] [] I J P ↔ Gp S N hp ML_marry T 19 [x0, x1, x2, x3] [.int 0] I J P := gp_iconst (by decide) dL_marry_18
theorem gs_L_marry_19 {v0 : Int32} {x0 x1 x2 x3 : Option Value} (h : T 19 [x0, x1, x2, x3] [.int v0] I J P) : Gp S N hp ML_marry T 19 [x0, x1, x2, x3] [.int v0] I J P := gp_stop dL_marry_19 (Or.inl rfl) h
theorem dL_part_0 : decode cL_part 0 = .ok (.aload_n 2, 1) := by decide +kernel
theorem dL_part_1 : decode cL_part 1 = .ok (.iconst 0, 1) := by decide +kernel
theorem dL_part_2 : decode cL_part 2 = .ok (.aload_n 0, 1) := by decide +kernel
theorem dL_part_3 : decode cL_part 3 = .ok (.iload_n 1, 1) := by decide +kernel
theorem dL_part_4 : decode cL_part 4 = .ok (.invokevirtual 53, 3) := by decide +kernel
theorem dL_part_7 : decode cL_part 7 = .ok (.i2l, 1) := by decide +kernel
theorem dL_part_8 : decode cL_part 8 = .ok (.lastore, 1) := by decide +kernel
theorem dL_part_9 : decode cL_part 9 = .ok (.goto 9, 3) := by decide +kernel
theorem dL_part_12 : decode cL_part 12 = .ok (.astore_n 3, 1) := by decide +kernel
theorem dL_part_13 : decode cL_part 13 = .ok (.iconst 1, 1) := by decide +kernel
theorem dL_part_14 : decode cL_part 14 = .ok (.ireturn, 1) := by decide +kernel
theorem dL_part_15 : decode cL_part 15 = .ok (.astore_n 3, 1) := by decide +kernel
theorem dL_part_16 : decode cL_part 16 = .ok (.iconst 2, 1) := by decide +kernel
theorem dL_part_17 : decode cL_part 17 = .ok (.ireturn, 1) := by decide +kernel
theorem dL_part_18 : decode cL_part 18 = .ok (.iconst 0, 1) := by decide +kernel
theorem dL_part_19 : decode cL_part 19 = .ok (.ireturn, 1) := by decide +kernel
theorem g_L_part_0 {w : Nat} {x0 x1 x3 : Option Value} : Gp S N hp ML_part T 0 [x0, x1, some (.ref w), x3] [] I J P ↔ Gp S N hp ML_part T 1 [x0, x1, some (.ref w), x3] [.ref w] I J P := gp_lod (len := 1) rfl rfl rfl rfl dL_part_0
theorem g_L_part_1 {v0 : Nat} {x0 x1 x2 x3 : Option Value} : Gp S N hp ML_part T 1 [x0, x1, x2, x3] [.ref v0] I J P ↔ Gp S N hp ML_part T 2 [x0, x1, x2, x3] [.int 0, .ref v0] I J P := gp_iconst (by decide) dL_part_1
theorem g_L_part_2 {v0 : Int32} {v1 : Nat} {w : Nat} {x1 x2 x3 : Option Value} : Gp S N hp ML_part T 2 [some (.ref w), x1, x2, x3] [.int v0, .ref v1] I J P ↔ Gp S N hp ML_part T 3 [some (.ref w), x1, x2, x3] [.ref w, .int v0, .ref v1] I J P := gp_lod (len := 1) rfl rfl rfl rfl dL_part_2
theorem g_L_part_3 {v0 : Nat} {v1 : Int32} {v2 : Nat} {w : Int32} {x0 x2 x3 : Option Value} : Gp S N hp ML_part T 3 [x0, some (.int w), x2, x3] [.ref v0, .int v1, .ref v2] I J P ↔ Gp S N hp ML_part T 4 [x0, some (.int w), x2, x3] [.int w, .ref v0, .int v1, .ref v2] I J P := gp_lod (len := 1) rfl rfl rfl rfl dL_part_3
theorem gs_L_part_4 {v0 : Int32} {v1 : Nat} {v2 : Int32} {v3 : Nat} {x0 x1 x2 x3 : Option Value} (h : T 4 [x0, x1, x2, x3] [.int v0, .ref v1, .int v2, .ref v3] I J P) : Gp S N hp ML_part T 4 [x0, x1, x2, x3] [.int v0, .ref v1, .int v2, .ref v3] I J P := gp_stop dL_part_4 (Or.inr (Or.inl rfl)) h
theorem g_L_part_7 {v0 : Int32} {v1 : Int32} {v2 : Nat} {x0 x1 x2 x3 : Option Value} : Gp S N hp ML_part T 7 [x0, x1, x2, x3] [.int v0, .int v1, .ref v2] I J P ↔ Gp S N hp ML_part T 8 [x0, x1, x2, x3] [.long v0.toInt64, .int v1, .ref v2] I J P := gp_alu (len := 1) rfl rfl rfl dL_part_7
theorem g_L_part_8 {v0 : Int64} {v1 : Int32} {v2 : Nat} {x0 x1 x2 x3 : Option Value} : Gp S N true ML_part T 8 [x0, x1, x2, x3] [.long v0, .int v1, .ref v2] I J P ↔ (S v2 = 11 ∧ vp_in v1 (N v2)) ∧ Gp S N true ML_part T 9 [x0, x1, x2, x3] [] I (u2 J v2 v1.toNatClampNeg v0) P := gp_ast rfl rfl dL_part_8
theorem g_L_part_9  {x0 x1 x2 x3 : Option Value} : Gp S N hp ML_part T 9 [x0, x1, x2, x3] [] I J P ↔ Gp S N hp ML_part T 18 [x0, x1, x2, x3] [] I J P := gp_go (len := 3) rfl (fun _ _ => rfl) rfl (by decide) dL_part_9
theorem g_L_part_12 {v0 : Nat} {x0 x1 x2 x3 : Option Value} : Gp S N hp ML_part T 12 [x0, x1, x2, x3] [.ref v0] I J P ↔ Gp S N hp ML_part T 13 [x0, x1, kl x2, some (.ref v0)] [] I J P := gp_sto (len := 1) rfl rfl rfl rfl (Nat.le_of_ble_eq_true rfl) rfl dL_part_12
theorem g_L_part_13  {x0 x1 x2 x3 : Option Value} : Gp S N hp ML_part T 13 [x0, x1, x2, x3] [] I J P ↔ Gp S N hp ML_part T 14 [x0, x1, x2, x3] [.int 1] I J P := gp_iconst (by decide) dL_part_13
theorem gs_L_part_14 {v0 : Int32} {x0 x1 x2 x3 : Option Value} (h : T 14 [x0, x1, x2, x3] [.int v0] I J P) : Gp S N hp ML_part T 14 [x0, x1, x2, x3] [.int v0] I J P := gp_stop dL_part_14 (Or.inl rfl) h
theorem g_L_part_15 {v0 : Nat} {x0 x1 x2 x3 : Option Value} : Gp S N hp ML_part T 15 [x0, x1, x2, x3] [.ref v0] I J P ↔ Gp S N hp ML_part T 16 [x0, x1, kl x2, some (.ref v0)] [] I J P := gp_sto (len := 1) rfl rfl rfl rfl (Nat.le_of_ble_eq_true rfl) rfl dL_part_15
theorem g_L_part_16  {x0 x1 x2 x3 : Option Value} : Gp S N hp ML_part T 16 [x0, x1, x2, x3] [] I J P ↔ Gp S N hp ML_part T 17 [x0, x1, x2, x3] [.int 2] I J P := gp_iconst (by decide) dL_part_16
theorem gs_L_part_17 {v0 : Int32} {x0 x1 x2 x3 : Option Value} (h : T 17 [x0, x1, x2, x3] [.int v0] I J P) : Gp S N hp ML_part T 17 [x0, x1, x2, x3] [.int v0] I J P := gp_stop dL_part_17 (Or.inl rfl) h
theorem g_L_part_18  {x0 x1 x2 x3 : Option Value} : Gp S N hp ML_part T 18 [x0, x1, x2, x3] [] I J P ↔ Gp S N hp ML_part T 19 [x0, x1, x2, x3] [.int 0] I J P := gp_iconst (by decide) dL_part_18
theorem gs_L_part_19 {v0 : Int32} {x0 x1 x2 x3 : Option Value} (h : T 19 [x0, x1, x2, x3] [.int v0] I J P) : Gp S N hp ML_part T 19 [x0, x1, x2, x3] [.int v0] I J P := gp_stop dL_part_19 (Or.inl rfl) h
theorem dL_partner_0 : decode cL_partner 0 = .ok (.aload_n 2, 1) := by decide +kernel
theorem dL_partner_1 : decode cL_partner 1 = .ok (.iconst 0, 1) := by decide +kernel
theorem dL_partner_2 : decode cL_partner 2 = .ok (.aload_n 0, 1) := by decide +kernel
theorem dL_partner_3 : decode cL_partner 3 = .ok (.iload_n 1, 1) := by decide +kernel
theorem dL_partner_4 : decode cL_partner 4 = .ok (.invokevirtual 58, 3) := by decide +kernel
theorem dL_partner_7 : decode cL_partner 7 = .ok (.i2l, 1) := by decide +kernel
theorem dL_partner_8 : decode cL_partner 8 = .ok (.lastore, 1) := by decide +kernel
theorem dL_partner_9 : decode cL_partner 9 = .ok (.goto 9, 3) := by decide +kernel
theorem dL_partner_12 : decode cL_partner 12 = .ok (.astore_n 3, 1) := by decide +kernel
theorem dL_partner_13 : decode cL_partner 13 = .ok (.iconst 1, 1) := by decide +kernel
theorem dL_partner_14 : decode cL_partner 14 = .ok (.ireturn, 1) := by decide +kernel
theorem dL_partner_15 : decode cL_partner 15 = .ok (.astore_n 3, 1) := by decide +kernel
theorem dL_partner_16 : decode cL_partner 16 = .ok (.iconst 2, 1) := by decide +kernel
theorem dL_partner_17 : decode cL_partner 17 = .ok (.ireturn, 1) := by decide +kernel
theorem dL_partner_18 : decode cL_partner 18 = .ok (.iconst 0, 1) := by decide +kernel
theorem dL_partner_19 : decode cL_partner 19 = .ok (.ireturn, 1) := by decide +kernel
theorem g_L_partner_0 {w : Nat} {x0 x1 x3 : Option Value} : Gp S N hp ML_partner T 0 [x0, x1, some (.ref w), x3] [] I J P ↔ Gp S N hp ML_partner T 1 [x0, x1, some (.ref w), x3] [.ref w] I J P := gp_lod (len := 1) rfl rfl rfl rfl dL_partner_0
theorem g_L_partner_1 {v0 : Nat} {x0 x1 x2 x3 : Option Value} : Gp S N hp ML_partner T 1 [x0, x1, x2, x3] [.ref v0] I J P ↔ Gp S N hp ML_partner T 2 [x0, x1, x2, x3] [.int 0, .ref v0] I J P := gp_iconst (by decide) dL_partner_1
theorem g_L_partner_2 {v0 : Int32} {v1 : Nat} {w : Nat} {x1 x2 x3 : Option Value} : Gp S N hp ML_partner T 2 [some (.ref w), x1, x2, x3] [.int v0, .ref v1] I J P ↔ Gp S N hp ML_partner T 3 [some (.ref w), x1, x2, x3] [.ref w, .int v0, .ref v1] I J P := gp_lod (len := 1) rfl rfl rfl rfl dL_partner_2
theorem g_L_partner_3 {v0 : Nat} {v1 : Int32} {v2 : Nat} {w : Int32} {x0 x2 x3 : Option Value} : Gp S N hp ML_partner T 3 [x0, some (.int w), x2, x3] [.ref v0, .int v1, .ref v2] I J P ↔ Gp S N hp ML_partner T 4 [x0, some (.int w), x2, x3] [.int w, .ref v0, .int v1, .ref v2] I J P := gp_lod (len := 1) rfl rfl rfl rfl dL_partner_3
theorem gs_L_partner_4 {v0 : Int32} {v1 : Nat} {v2 : Int32} {v3 : Nat} {x0 x1 x2 x3 : Option Value} (h : T 4 [x0, x1, x2, x3] [.int v0, .ref v1, .int v2, .ref v3] I J P) : Gp S N hp ML_partner T 4 [x0, x1, x2, x3] [.int v0, .ref v1, .int v2, .ref v3] I J P := gp_stop dL_partner_4 (Or.inr (Or.inl rfl)) h
theorem g_L_partner_7 {v0 : Int32} {v1 : Int32} {v2 : Nat} {x0 x1 x2 x3 : Option Value} : Gp S N hp ML_partner T 7 [x0, x1, x2, x3] [.int v0, .int v1, .ref v2] I J P ↔ Gp S N hp ML_partner T 8 [x0, x1, x2, x3] [.long v0.toInt64, .int v1, .ref v2] I J P := gp_alu (len := 1) rfl rfl rfl dL_partner_7
theorem g_L_partner_8 {v0 : Int64} {v1 : Int32} {v2 : Nat} {x0 x1 x2 x3 : Option Value} : Gp S N true ML_partner T 8 [x0, x1, x2, x3] [.long v0, .int v1, .ref v2] I J P ↔ (S v2 = 11 ∧ vp_in v1 (N v2)) ∧ Gp S N true ML_partner T 9 [x0, x1, x2, x3] [] I (u2 J v2 v1.toNatClampNeg v0) P := gp_ast rfl rfl dL_partner_8
theorem g_L_partner_9  {x0 x1 x2 x3 : Option Value} : Gp S N hp ML_partner T 9 [x0, x1, x2, x3] [] I J P ↔ Gp S N hp ML_partner T 18 [x0, x1, x2, x3] [] I J P := gp_go (len := 3) rfl (fun _ _ => rfl) rfl (by decide) dL_partner_9
theorem g_L_partner_12 {v0 : Nat} {x0 x1 x2 x3 : Option Value} : Gp S N hp ML_partner T 12 [x0, x1, x2, x3] [.ref v0] I J P ↔ Gp S N hp ML_partner T 13 [x0, x1, kl x2, some (.ref v0)] [] I J P := gp_sto (len := 1) rfl rfl rfl rfl (Nat.le_of_ble_eq_true rfl) rfl dL_partner_12
theorem g_L_partner_13  {x0 x1 x2 x3 : Option Value} : Gp S N hp ML_partner T 13 [x0, x1, x2, x3] [] I J P ↔ Gp S N hp ML_partner T 14 [x0, x1, x2, x3] [.int 1] I J P := gp_iconst (by decide) dL_partner_13
theorem gs_L_partner_14 {v0 : Int32} {x0 x1 x2 x3 : Option Value} (h : T 14 [x0, x1, x2, x3] [.int v0] I J P) : Gp S N hp ML_partner T 14 [x0, x1, x2, x3] [.int v0] I J P := gp_stop dL_partner_14 (Or.inl rfl) h
theorem g_L_partner_15 {v0 : Nat} {x0 x1 x2 x3 : Option Value} : Gp S N hp ML_partner T 15 [x0, x1, x2, x3] [.ref v0] I J P ↔ Gp S N hp ML_partner T 16 [x0, x1, kl x2, some (.ref v0)] [] I J P := gp_sto (len := 1) rfl rfl rfl rfl (Nat.le_of_ble_eq_true rfl) rfl dL_partner_15
theorem g_L_partner_16  {x0 x1 x2 x3 : Option Value} : Gp S N hp ML_partner T 16 [x0, x1, x2, x3] [] I J P ↔ Gp S N hp ML_partner T 17 [x0, x1, x2, x3] [.int 2] I J P := gp_iconst (by decide) dL_partner_16
theorem gs_L_partner_17 {v0 : Int32} {x0 x1 x2 x3 : Option Value} (h : T 17 [x0, x1, x2, x3] [.int v0] I J P) : Gp S N hp ML_partner T 17 [x0, x1, x2, x3] [.int v0] I J P := gp_stop dL_partner_17 (Or.inl rfl) h
theorem g_L_partner_18  {x0 x1 x2 x3 : Option Value} : Gp S N hp ML_partner T 18 [x0, x1, x2, x3] [] I J P ↔ Gp S N hp ML_partner T 19 [x0, x1, x2, x3] [.int 0] I J P := gp_iconst (by decide) dL_partner_18
theorem gs_L_partner_19 {v0 : Int32} {x0 x1 x2 x3 : Option Value} (h : T 19 [x0, x1, x2, x3] [.int v0] I J P) : Gp S N hp ML_partner T 19 [x0, x1, x2, x3] [.int v0] I J P := gp_stop dL_partner_19 (Or.inl rfl) h
theorem dL_tax_0 : decode cL_tax 0 = .ok (.aload_n 2, 1) := by decide +kernel
theorem dL_tax_1 : decode cL_tax 1 = .ok (.iconst 0, 1) := by decide +kernel
theorem dL_tax_2 : decode cL_tax 2 = .ok (.aload_n 0, 1) := by decide +kernel
theorem dL_tax_3 : decode cL_tax 3 = .ok (.iload_n 1, 1) := by decide +kernel
theorem dL_tax_4 : decode cL_tax 4 = .ok (.invokevirtual 61, 3) := by decide +kernel
theorem dL_tax_7 : decode cL_tax 7 = .ok (.lastore, 1) := by decide +kernel
theorem dL_tax_8 : decode cL_tax 8 = .ok (.goto 6, 3) := by decide +kernel
theorem dL_tax_11 : decode cL_tax 11 = .ok (.astore_n 3, 1) := by decide +kernel
theorem dL_tax_12 : decode cL_tax 12 = .ok (.iconst 1, 1) := by decide +kernel
theorem dL_tax_13 : decode cL_tax 13 = .ok (.ireturn, 1) := by decide +kernel
theorem dL_tax_14 : decode cL_tax 14 = .ok (.iconst 0, 1) := by decide +kernel
theorem dL_tax_15 : decode cL_tax 15 = .ok (.ireturn, 1) := by decide +kernel
theorem g_L_tax_0 {w : Nat} {x0 x1 x3 : Option Value} : Gp S N hp ML_tax T 0 [x0, x1, some (.ref w), x3] [] I J P ↔ Gp S N hp ML_tax T 1 [x0, x1, some (.ref w), x3] [.ref w] I J P := gp_lod (len := 1) rfl rfl rfl rfl dL_tax_0
theorem g_L_tax_1 {v0 : Nat} {x0 x1 x2 x3 : Option Value} : Gp S N hp ML_tax T 1 [x0, x1, x2, x3] [.ref v0] I J P ↔ Gp S N hp ML_tax T 2 [x0, x1, x2, x3] [.int 0, .ref v0] I J P := gp_iconst (by decide) dL_tax_1
theorem g_L_tax_2 {v0 : Int32} {v1 : Nat} {w : Nat} {x1 x2 x3 : Option Value} : Gp S N hp ML_tax T 2 [some (.ref w), x1, x2, x3] [.int v0, .ref v1] I J P ↔ Gp S N hp ML_tax T 3 [some (.ref w), x1, x2, x3] [.ref w, .int v0, .ref v1] I J P := gp_lod (len := 1) rfl rfl rfl rfl dL_tax_2
theorem g_L_tax_3 {v0 : Nat} {v1 : Int32} {v2 : Nat} {w : Int32} {x0 x2 x3 : Option Value} : Gp S N hp ML_tax T 3 [x0, some (.int w), x2, x3] [.ref v0, .int v1, .ref v2] I J P ↔ Gp S N hp ML_tax T 4 [x0, some (.int w), x2, x3] [.int w, .ref v0, .int v1, .ref v2] I J P := gp_lod (len := 1) rfl rfl rfl rfl dL_tax_3
theorem gs_L_tax_4 {v0 : Int32} {v1 : Nat} {v2 : Int32} {v3 : Nat} {x0 x1 x2 x3 : Option Value} (h : T 4 [x0, x1, x2, x3] [.int v0, .ref v1, .int v2, .ref v3] I J P) : Gp S N hp ML_tax T 4 [x0, x1, x2, x3] [.int v0, .ref v1, .int v2, .ref v3] I J P := gp_stop dL_tax_4 (Or.inr (Or.inl rfl)) h
theorem g_L_tax_7 {v0 : Int64} {v1 : Int32} {v2 : Nat} {x0 x1 x2 x3 : Option Value} : Gp S N true ML_tax T 7 [x0, x1, x2, x3] [.long v0, .int v1, .ref v2] I J P ↔ (S v2 = 11 ∧ vp_in v1 (N v2)) ∧ Gp S N true ML_tax T 8 [x0, x1, x2, x3] [] I (u2 J v2 v1.toNatClampNeg v0) P := gp_ast rfl rfl dL_tax_7
theorem g_L_tax_8  {x0 x1 x2 x3 : Option Value} : Gp S N hp ML_tax T 8 [x0, x1, x2, x3] [] I J P ↔ Gp S N hp ML_tax T 14 [x0, x1, x2, x3] [] I J P := gp_go (len := 3) rfl (fun _ _ => rfl) rfl (by decide) dL_tax_8
theorem g_L_tax_11 {v0 : Nat} {x0 x1 x2 x3 : Option Value} : Gp S N hp ML_tax T 11 [x0, x1, x2, x3] [.ref v0] I J P ↔ Gp S N hp ML_tax T 12 [x0, x1, kl x2, some (.ref v0)] [] I J P := gp_sto (len := 1) rfl rfl rfl rfl (Nat.le_of_ble_eq_true rfl) rfl dL_tax_11
theorem g_L_tax_12  {x0 x1 x2 x3 : Option Value} : Gp S N hp ML_tax T 12 [x0, x1, x2, x3] [] I J P ↔ Gp S N hp ML_tax T 13 [x0, x1, x2, x3] [.int 1] I J P := gp_iconst (by decide) dL_tax_12
theorem gs_L_tax_13 {v0 : Int32} {x0 x1 x2 x3 : Option Value} (h : T 13 [x0, x1, x2, x3] [.int v0] I J P) : Gp S N hp ML_tax T 13 [x0, x1, x2, x3] [.int v0] I J P := gp_stop dL_tax_13 (Or.inl rfl) h
theorem g_L_tax_14  {x0 x1 x2 x3 : Option Value} : Gp S N hp ML_tax T 14 [x0, x1, x2, x3] [] I J P ↔ Gp S N hp ML_tax T 15 [x0, x1, x2, x3] [.int 0] I J P := gp_iconst (by decide) dL_tax_14
theorem gs_L_tax_15 {v0 : Int32} {x0 x1 x2 x3 : Option Value} (h : T 15 [x0, x1, x2, x3] [.int v0] I J P) : Gp S N hp ML_tax T 15 [x0, x1, x2, x3] [.int v0] I J P := gp_stop dL_tax_15 (Or.inl rfl) h
theorem dL_taxPart_0 : decode cL_taxPart 0 = .ok (.aload_n 3, 1) := by decide +kernel
theorem dL_taxPart_1 : decode cL_taxPart 1 = .ok (.iconst 0, 1) := by decide +kernel
theorem dL_taxPart_2 : decode cL_taxPart 2 = .ok (.aload_n 0, 1) := by decide +kernel
theorem dL_taxPart_3 : decode cL_taxPart 3 = .ok (.iload_n 1, 1) := by decide +kernel
theorem dL_taxPart_4 : decode cL_taxPart 4 = .ok (.iload_n 2, 1) := by decide +kernel
theorem dL_taxPart_5 : decode cL_taxPart 5 = .ok (.invokevirtual 65, 3) := by decide +kernel
theorem dL_taxPart_8 : decode cL_taxPart 8 = .ok (.lastore, 1) := by decide +kernel
theorem dL_taxPart_9 : decode cL_taxPart 9 = .ok (.goto 11, 3) := by decide +kernel
theorem dL_taxPart_12 : decode cL_taxPart 12 = .ok (.astore 4, 2) := by decide +kernel
theorem dL_taxPart_14 : decode cL_taxPart 14 = .ok (.iconst 1, 1) := by decide +kernel
theorem dL_taxPart_15 : decode cL_taxPart 15 = .ok (.ireturn, 1) := by decide +kernel
theorem dL_taxPart_16 : decode cL_taxPart 16 = .ok (.astore 4, 2) := by decide +kernel
theorem dL_taxPart_18 : decode cL_taxPart 18 = .ok (.iconst 2, 1) := by decide +kernel
theorem dL_taxPart_19 : decode cL_taxPart 19 = .ok (.ireturn, 1) := by decide +kernel
theorem dL_taxPart_20 : decode cL_taxPart 20 = .ok (.iconst 0, 1) := by decide +kernel
theorem dL_taxPart_21 : decode cL_taxPart 21 = .ok (.ireturn, 1) := by decide +kernel
theorem g_L_taxPart_0 {w : Nat} {x0 x1 x2 x4 : Option Value} : Gp S N hp ML_taxPart T 0 [x0, x1, x2, some (.ref w), x4] [] I J P ↔ Gp S N hp ML_taxPart T 1 [x0, x1, x2, some (.ref w), x4] [.ref w] I J P := gp_lod (len := 1) rfl rfl rfl rfl dL_taxPart_0
theorem g_L_taxPart_1 {v0 : Nat} {x0 x1 x2 x3 x4 : Option Value} : Gp S N hp ML_taxPart T 1 [x0, x1, x2, x3, x4] [.ref v0] I J P ↔ Gp S N hp ML_taxPart T 2 [x0, x1, x2, x3, x4] [.int 0, .ref v0] I J P := gp_iconst (by decide) dL_taxPart_1
theorem g_L_taxPart_2 {v0 : Int32} {v1 : Nat} {w : Nat} {x1 x2 x3 x4 : Option Value} : Gp S N hp ML_taxPart T 2 [some (.ref w), x1, x2, x3, x4] [.int v0, .ref v1] I J P ↔ Gp S N hp ML_taxPart T 3 [some (.ref w), x1, x2, x3, x4] [.ref w, .int v0, .ref v1] I J P := gp_lod (len := 1) rfl rfl rfl rfl dL_taxPart_2
theorem g_L_taxPart_3 {v0 : Nat} {v1 : Int32} {v2 : Nat} {w : Int32} {x0 x2 x3 x4 : Option Value} : Gp S N hp ML_taxPart T 3 [x0, some (.int w), x2, x3, x4] [.ref v0, .int v1, .ref v2] I J P ↔ Gp S N hp ML_taxPart T 4 [x0, some (.int w), x2, x3, x4] [.int w, .ref v0, .int v1, .ref v2] I J P := gp_lod (len := 1) rfl rfl rfl rfl dL_taxPart_3
theorem g_L_taxPart_4 {v0 : Int32} {v1 : Nat} {v2 : Int32} {v3 : Nat} {w : Int32} {x0 x1 x3 x4 : Option Value} : Gp S N hp ML_taxPart T 4 [x0, x1, some (.int w), x3, x4] [.int v0, .ref v1, .int v2, .ref v3] I J P ↔ Gp S N hp ML_taxPart T 5 [x0, x1, some (.int w), x3, x4] [.int w, .int v0, .ref v1, .int v2, .ref v3] I J P := gp_lod (len := 1) rfl rfl rfl rfl dL_taxPart_4
theorem gs_L_taxPart_5 {v0 : Int32} {v1 : Int32} {v2 : Nat} {v3 : Int32} {v4 : Nat} {x0 x1 x2 x3 x4 : Option Value} (h : T 5 [x0, x1, x2, x3, x4] [.int v0, .int v1, .ref v2, .int v3, .ref v4] I J P) : Gp S N hp ML_taxPart T 5 [x0, x1, x2, x3, x4] [.int v0, .int v1, .ref v2, .int v3, .ref v4] I J P := gp_stop dL_taxPart_5 (Or.inr (Or.inl rfl)) h
theorem g_L_taxPart_8 {v0 : Int64} {v1 : Int32} {v2 : Nat} {x0 x1 x2 x3 x4 : Option Value} : Gp S N true ML_taxPart T 8 [x0, x1, x2, x3, x4] [.long v0, .int v1, .ref v2] I J P ↔ (S v2 = 11 ∧ vp_in v1 (N v2)) ∧ Gp S N true ML_taxPart T 9 [x0, x1, x2, x3, x4] [] I (u2 J v2 v1.toNatClampNeg v0) P := gp_ast rfl rfl dL_taxPart_8
theorem g_L_taxPart_9  {x0 x1 x2 x3 x4 : Option Value} : Gp S N hp ML_taxPart T 9 [x0, x1, x2, x3, x4] [] I J P ↔ Gp S N hp ML_taxPart T 20 [x0, x1, x2, x3, x4] [] I J P := gp_go (len := 3) rfl (fun _ _ => rfl) rfl (by decide) dL_taxPart_9
theorem g_L_taxPart_12 {v0 : Nat} {x0 x1 x2 x3 x4 : Option Value} : Gp S N hp ML_taxPart T 12 [x0, x1, x2, x3, x4] [.ref v0] I J P ↔ Gp S N hp ML_taxPart T 14 [x0, x1, x2, kl x3, some (.ref v0)] [] I J P := gp_sto (len := 2) rfl rfl rfl rfl (Nat.le_of_ble_eq_true rfl) rfl dL_taxPart_12
theorem g_L_taxPart_14  {x0 x1 x2 x3 x4 : Option Value} : Gp S N hp ML_taxPart T 14 [x0, x1, x2, x3, x4] [] I J P ↔ Gp S N hp ML_taxPart T 15 [x0, x1, x2, x3, x4] [.int 1] I J P := gp_iconst (by decide) dL_taxPart_14
theorem gs_L_taxPart_15 {v0 : Int32} {x0 x1 x2 x3 x4 : Option Value} (h : T 15 [x0, x1, x2, x3, x4] [.int v0] I J P) : Gp S N hp ML_taxPart T 15 [x0, x1, x2, x3, x4] [.int v0] I J P := gp_stop dL_taxPart_15 (Or.inl rfl) h
theorem g_L_taxPart_16 {v0 : Nat} {x0 x1 x2 x3 x4 : Option Value} : Gp S N hp ML_taxPart T 16 [x0, x1, x2, x3, x4] [.ref v0] I J P ↔ Gp S N hp ML_taxPart T 18 [x0, x1, x2, kl x3, some (.ref v0)] [] I J P := gp_sto (len := 2) rfl rfl rfl rfl (Nat.le_of_ble_eq_true rfl) rfl dL_taxPart_16
theorem g_L_taxPart_18  {x0 x1 x2 x3 x4 : Option Value} : Gp S N hp ML_taxPart T 18 [x0, x1, x2, x3, x4] [] I J P ↔ Gp S N hp ML_taxPart T 19 [x0, x1, x2, x3, x4] [.int 2] I J P := gp_iconst (by decide) dL_taxPart_18
theorem gs_L_taxPart_19 {v0 : Int32} {x0 x1 x2 x3 x4 : Option Value} (h : T 19 [x0, x1, x2, x3, x4] [.int v0] I J P) : Gp S N hp ML_taxPart T 19 [x0, x1, x2, x3, x4] [.int v0] I J P := gp_stop dL_taxPart_19 (Or.inl rfl) h
theorem g_L_taxPart_20  {x0 x1 x2 x3 x4 : Option Value} : Gp S N hp ML_taxPart T 20 [x0, x1, x2, x3, x4] [] I J P ↔ Gp S N hp ML_taxPart T 21 [x0, x1, x2, x3, x4] [.int 0] I J P := gp_iconst (by decide) dL_taxPart_20
theorem gs_L_taxPart_21 {v0 : Int32} {x0 x1 x2 x3 x4 : Option Value} (h : T 21 [x0, x1, x2, x3, x4] [.int v0] I J P) : Gp S N hp ML_taxPart T 21 [x0, x1, x2, x3, x4] [.int v0] I J P := gp_stop dL_taxPart_21 (Or.inl rfl) h
theorem dL_creditPart_0 : decode cL_creditPart 0 = .ok (.aload 4, 2) := by decide +kernel
theorem dL_creditPart_2 : decode cL_creditPart 2 = .ok (.iconst 0, 1) := by decide +kernel
theorem dL_creditPart_3 : decode cL_creditPart 3 = .ok (.aload_n 0, 1) := by decide +kernel
theorem dL_creditPart_4 : decode cL_creditPart 4 = .ok (.iload_n 1, 1) := by decide +kernel
theorem dL_creditPart_5 : decode cL_creditPart 5 = .ok (.iload_n 2, 1) := by decide +kernel
theorem dL_creditPart_6 : decode cL_creditPart 6 = .ok (.iload_n 3, 1) := by decide +kernel
theorem dL_creditPart_7 : decode cL_creditPart 7 = .ok (.invokevirtual 69, 3) := by decide +kernel
theorem dL_creditPart_10 : decode cL_creditPart 10 = .ok (.lastore, 1) := by decide +kernel
theorem dL_creditPart_11 : decode cL_creditPart 11 = .ok (.goto 11, 3) := by decide +kernel
theorem dL_creditPart_14 : decode cL_creditPart 14 = .ok (.astore 5, 2) := by decide +kernel
theorem dL_creditPart_16 : decode cL_creditPart 16 = .ok (.iconst 1, 1) := by decide +kernel
theorem dL_creditPart_17 : decode cL_creditPart 17 = .ok (.ireturn, 1) := by decide +kernel
theorem dL_creditPart_18 : decode cL_creditPart 18 = .ok (.astore 5, 2) := by decide +kernel
theorem dL_creditPart_20 : decode cL_creditPart 20 = .ok (.iconst 2, 1) := by decide +kernel
theorem dL_creditPart_21 : decode cL_creditPart 21 = .ok (.ireturn, 1) := by decide +kernel
theorem dL_creditPart_22 : decode cL_creditPart 22 = .ok (.iconst 0, 1) := by decide +kernel
theorem dL_creditPart_23 : decode cL_creditPart 23 = .ok (.ireturn, 1) := by decide +kernel
theorem g_L_creditPart_0 {w : Nat} {x0 x1 x2 x3 x5 : Option Value} : Gp S N hp ML_creditPart T 0 [x0, x1, x2, x3, some (.ref w), x5] [] I J P ↔ Gp S N hp ML_creditPart T 2 [x0, x1, x2, x3, some (.ref w), x5] [.ref w] I J P := gp_lod (len := 2) rfl rfl rfl rfl dL_creditPart_0
theorem g_L_creditPart_2 {v0 : Nat} {x0 x1 x2 x3 x4 x5 : Option Value} : Gp S N hp ML_creditPart T 2 [x0, x1, x2, x3, x4, x5] [.ref v0] I J P ↔ Gp S N hp ML_creditPart T 3 [x0, x1, x2, x3, x4, x5] [.int 0, .ref v0] I J P := gp_iconst (by decide) dL_creditPart_2
theorem g_L_creditPart_3 {v0 : Int32} {v1 : Nat} {w : Nat} {x1 x2 x3 x4 x5 : Option Value} : Gp S N hp ML_creditPart T 3 [some (.ref w), x1, x2, x3, x4, x5] [.int v0, .ref v1] I J P ↔ Gp S N hp ML_creditPart T 4 [some (.ref w), x1, x2, x3, x4, x5] [.ref w, .int v0, .ref v1] I J P := gp_lod (len := 1) rfl rfl rfl rfl dL_creditPart_3
theorem g_L_creditPart_4 {v0 : Nat} {v1 : Int32} {v2 : Nat} {w : Int32} {x0 x2 x3 x4 x5 : Option Value} : Gp S N hp ML_creditPart T 4 [x0, some (.int w), x2, x3, x4, x5] [.ref v0, .int v1, .ref v2] I J P ↔ Gp S N hp ML_creditPart T 5 [x0, some (.int w), x2, x3, x4, x5] [.int w, .ref v0, .int v1, .ref v2] I J P := gp_lod (len := 1) rfl rfl rfl rfl dL_creditPart_4
theorem g_L_creditPart_5 {v0 : Int32} {v1 : Nat} {v2 : Int32} {v3 : Nat} {w : Int32} {x0 x1 x3 x4 x5 : Option Value} : Gp S N hp ML_creditPart T 5 [x0, x1, some (.int w), x3, x4, x5] [.int v0, .ref v1, .int v2, .ref v3] I J P ↔ Gp S N hp ML_creditPart T 6 [x0, x1, some (.int w), x3, x4, x5] [.int w, .int v0, .ref v1, .int v2, .ref v3] I J P := gp_lod (len := 1) rfl rfl rfl rfl dL_creditPart_5
theorem g_L_creditPart_6 {v0 : Int32} {v1 : Int32} {v2 : Nat} {v3 : Int32} {v4 : Nat} {w : Int32} {x0 x1 x2 x4 x5 : Option Value} : Gp S N hp ML_creditPart T 6 [x0, x1, x2, some (.int w), x4, x5] [.int v0, .int v1, .ref v2, .int v3, .ref v4] I J P ↔ Gp S N hp ML_creditPart T 7 [x0, x1, x2, some (.int w), x4, x5] [.int w, .int v0, .int v1, .ref v2, .int v3, .ref v4] I J P := gp_lod (len := 1) rfl rfl rfl rfl dL_creditPart_6
theorem gs_L_creditPart_7 {v0 : Int32} {v1 : Int32} {v2 : Int32} {v3 : Nat} {v4 : Int32} {v5 : Nat} {x0 x1 x2 x3 x4 x5 : Option Value} (h : T 7 [x0, x1, x2, x3, x4, x5] [.int v0, .int v1, .int v2, .ref v3, .int v4, .ref v5] I J P) : Gp S N hp ML_creditPart T 7 [x0, x1, x2, x3, x4, x5] [.int v0, .int v1, .int v2, .ref v3, .int v4, .ref v5] I J P := gp_stop dL_creditPart_7 (Or.inr (Or.inl rfl)) h
theorem g_L_creditPart_10 {v0 : Int64} {v1 : Int32} {v2 : Nat} {x0 x1 x2 x3 x4 x5 : Option Value} : Gp S N true ML_creditPart T 10 [x0, x1, x2, x3, x4, x5] [.long v0, .int v1, .ref v2] I J P ↔ (S v2 = 11 ∧ vp_in v1 (N v2)) ∧ Gp S N true ML_creditPart T 11 [x0, x1, x2, x3, x4, x5] [] I (u2 J v2 v1.toNatClampNeg v0) P := gp_ast rfl rfl dL_creditPart_10
theorem g_L_creditPart_11  {x0 x1 x2 x3 x4 x5 : Option Value} : Gp S N hp ML_creditPart T 11 [x0, x1, x2, x3, x4, x5] [] I J P ↔ Gp S N hp ML_creditPart T 22 [x0, x1, x2, x3, x4, x5] [] I J P := gp_go (len := 3) rfl (fun _ _ => rfl) rfl (by decide) dL_creditPart_11
theorem g_L_creditPart_14 {v0 : Nat} {x0 x1 x2 x3 x4 x5 : Option Value} : Gp S N hp ML_creditPart T 14 [x0, x1, x2, x3, x4, x5] [.ref v0] I J P ↔ Gp S N hp ML_creditPart T 16 [x0, x1, x2, x3, kl x4, some (.ref v0)] [] I J P := gp_sto (len := 2) rfl rfl rfl rfl (Nat.le_of_ble_eq_true rfl) rfl dL_creditPart_14
theorem g_L_creditPart_16  {x0 x1 x2 x3 x4 x5 : Option Value} : Gp S N hp ML_creditPart T 16 [x0, x1, x2, x3, x4, x5] [] I J P ↔ Gp S N hp ML_creditPart T 17 [x0, x1, x2, x3, x4, x5] [.int 1] I J P := gp_iconst (by decide) dL_creditPart_16
theorem gs_L_creditPart_17 {v0 : Int32} {x0 x1 x2 x3 x4 x5 : Option Value} (h : T 17 [x0, x1, x2, x3, x4, x5] [.int v0] I J P) : Gp S N hp ML_creditPart T 17 [x0, x1, x2, x3, x4, x5] [.int v0] I J P := gp_stop dL_creditPart_17 (Or.inl rfl) h
theorem g_L_creditPart_18 {v0 : Nat} {x0 x1 x2 x3 x4 x5 : Option Value} : Gp S N hp ML_creditPart T 18 [x0, x1, x2, x3, x4, x5] [.ref v0] I J P ↔ Gp S N hp ML_creditPart T 20 [x0, x1, x2, x3, kl x4, some (.ref v0)] [] I J P := gp_sto (len := 2) rfl rfl rfl rfl (Nat.le_of_ble_eq_true rfl) rfl dL_creditPart_18
theorem g_L_creditPart_20  {x0 x1 x2 x3 x4 x5 : Option Value} : Gp S N hp ML_creditPart T 20 [x0, x1, x2, x3, x4, x5] [] I J P ↔ Gp S N hp ML_creditPart T 21 [x0, x1, x2, x3, x4, x5] [.int 2] I J P := gp_iconst (by decide) dL_creditPart_20
theorem gs_L_creditPart_21 {v0 : Int32} {x0 x1 x2 x3 x4 x5 : Option Value} (h : T 21 [x0, x1, x2, x3, x4, x5] [.int v0] I J P) : Gp S N hp ML_creditPart T 21 [x0, x1, x2, x3, x4, x5] [.int v0] I J P := gp_stop dL_creditPart_21 (Or.inl rfl) h
theorem g_L_creditPart_22  {x0 x1 x2 x3 x4 x5 : Option Value} : Gp S N hp ML_creditPart T 22 [x0, x1, x2, x3, x4, x5] [] I J P ↔ Gp S N hp ML_creditPart T 23 [x0, x1, x2, x3, x4, x5] [.int 0] I J P := gp_iconst (by decide) dL_creditPart_22
theorem gs_L_creditPart_23 {v0 : Int32} {x0 x1 x2 x3 x4 x5 : Option Value} (h : T 23 [x0, x1, x2, x3, x4, x5] [.int v0] I J P) : Gp S N hp ML_creditPart T 23 [x0, x1, x2, x3, x4, x5] [.int v0] I J P := gp_stop dL_creditPart_23 (Or.inl rfl) h
theorem dL_carried_0 : decode cL_carried 0 = .ok (.aload_n 3, 1) := by decide +kernel
theorem dL_carried_1 : decode cL_carried 1 = .ok (.iconst 0, 1) := by decide +kernel
theorem dL_carried_2 : decode cL_carried 2 = .ok (.aload_n 0, 1) := by decide +kernel
theorem dL_carried_3 : decode cL_carried 3 = .ok (.iload_n 1, 1) := by decide +kernel
theorem dL_carried_4 : decode cL_carried 4 = .ok (.iload_n 2, 1) := by decide +kernel
theorem dL_carried_5 : decode cL_carried 5 = .ok (.invokevirtual 73, 3) := by decide +kernel
theorem dL_carried_8 : decode cL_carried 8 = .ok (.lastore, 1) := by decide +kernel
theorem dL_carried_9 : decode cL_carried 9 = .ok (.goto 7, 3) := by decide +kernel
theorem dL_carried_12 : decode cL_carried 12 = .ok (.astore 4, 2) := by decide +kernel
theorem dL_carried_14 : decode cL_carried 14 = .ok (.iconst 1, 1) := by decide +kernel
theorem dL_carried_15 : decode cL_carried 15 = .ok (.ireturn, 1) := by decide +kernel
theorem dL_carried_16 : decode cL_carried 16 = .ok (.iconst 0, 1) := by decide +kernel
theorem dL_carried_17 : decode cL_carried 17 = .ok (.ireturn, 1) := by decide +kernel
theorem g_L_carried_0 {w : Nat} {x0 x1 x2 x4 : Option Value} : Gp S N hp ML_carried T 0 [x0, x1, x2, some (.ref w), x4] [] I J P ↔ Gp S N hp ML_carried T 1 [x0, x1, x2, some (.ref w), x4] [.ref w] I J P := gp_lod (len := 1) rfl rfl rfl rfl dL_carried_0
theorem g_L_carried_1 {v0 : Nat} {x0 x1 x2 x3 x4 : Option Value} : Gp S N hp ML_carried T 1 [x0, x1, x2, x3, x4] [.ref v0] I J P ↔ Gp S N hp ML_carried T 2 [x0, x1, x2, x3, x4] [.int 0, .ref v0] I J P := gp_iconst (by decide) dL_carried_1
theorem g_L_carried_2 {v0 : Int32} {v1 : Nat} {w : Nat} {x1 x2 x3 x4 : Option Value} : Gp S N hp ML_carried T 2 [some (.ref w), x1, x2, x3, x4] [.int v0, .ref v1] I J P ↔ Gp S N hp ML_carried T 3 [some (.ref w), x1, x2, x3, x4] [.ref w, .int v0, .ref v1] I J P := gp_lod (len := 1) rfl rfl rfl rfl dL_carried_2
theorem g_L_carried_3 {v0 : Nat} {v1 : Int32} {v2 : Nat} {w : Int32} {x0 x2 x3 x4 : Option Value} : Gp S N hp ML_carried T 3 [x0, some (.int w), x2, x3, x4] [.ref v0, .int v1, .ref v2] I J P ↔ Gp S N hp ML_carried T 4 [x0, some (.int w), x2, x3, x4] [.int w, .ref v0, .int v1, .ref v2] I J P := gp_lod (len := 1) rfl rfl rfl rfl dL_carried_3
theorem g_L_carried_4 {v0 : Int32} {v1 : Nat} {v2 : Int32} {v3 : Nat} {w : Int32} {x0 x1 x3 x4 : Option Value} : Gp S N hp ML_carried T 4 [x0, x1, some (.int w), x3, x4] [.int v0, .ref v1, .int v2, .ref v3] I J P ↔ Gp S N hp ML_carried T 5 [x0, x1, some (.int w), x3, x4] [.int w, .int v0, .ref v1, .int v2, .ref v3] I J P := gp_lod (len := 1) rfl rfl rfl rfl dL_carried_4
theorem gs_L_carried_5 {v0 : Int32} {v1 : Int32} {v2 : Nat} {v3 : Int32} {v4 : Nat} {x0 x1 x2 x3 x4 : Option Value} (h : T 5 [x0, x1, x2, x3, x4] [.int v0, .int v1, .ref v2, .int v3, .ref v4] I J P) : Gp S N hp ML_carried T 5 [x0, x1, x2, x3, x4] [.int v0, .int v1, .ref v2, .int v3, .ref v4] I J P := gp_stop dL_carried_5 (Or.inr (Or.inl rfl)) h
theorem g_L_carried_8 {v0 : Int64} {v1 : Int32} {v2 : Nat} {x0 x1 x2 x3 x4 : Option Value} : Gp S N true ML_carried T 8 [x0, x1, x2, x3, x4] [.long v0, .int v1, .ref v2] I J P ↔ (S v2 = 11 ∧ vp_in v1 (N v2)) ∧ Gp S N true ML_carried T 9 [x0, x1, x2, x3, x4] [] I (u2 J v2 v1.toNatClampNeg v0) P := gp_ast rfl rfl dL_carried_8
theorem g_L_carried_9  {x0 x1 x2 x3 x4 : Option Value} : Gp S N hp ML_carried T 9 [x0, x1, x2, x3, x4] [] I J P ↔ Gp S N hp ML_carried T 16 [x0, x1, x2, x3, x4] [] I J P := gp_go (len := 3) rfl (fun _ _ => rfl) rfl (by decide) dL_carried_9
theorem g_L_carried_12 {v0 : Nat} {x0 x1 x2 x3 x4 : Option Value} : Gp S N hp ML_carried T 12 [x0, x1, x2, x3, x4] [.ref v0] I J P ↔ Gp S N hp ML_carried T 14 [x0, x1, x2, kl x3, some (.ref v0)] [] I J P := gp_sto (len := 2) rfl rfl rfl rfl (Nat.le_of_ble_eq_true rfl) rfl dL_carried_12
theorem g_L_carried_14  {x0 x1 x2 x3 x4 : Option Value} : Gp S N hp ML_carried T 14 [x0, x1, x2, x3, x4] [] I J P ↔ Gp S N hp ML_carried T 15 [x0, x1, x2, x3, x4] [.int 1] I J P := gp_iconst (by decide) dL_carried_14
theorem gs_L_carried_15 {v0 : Int32} {x0 x1 x2 x3 x4 : Option Value} (h : T 15 [x0, x1, x2, x3, x4] [.int v0] I J P) : Gp S N hp ML_carried T 15 [x0, x1, x2, x3, x4] [.int v0] I J P := gp_stop dL_carried_15 (Or.inl rfl) h
theorem g_L_carried_16  {x0 x1 x2 x3 x4 : Option Value} : Gp S N hp ML_carried T 16 [x0, x1, x2, x3, x4] [] I J P ↔ Gp S N hp ML_carried T 17 [x0, x1, x2, x3, x4] [.int 0] I J P := gp_iconst (by decide) dL_carried_16
theorem gs_L_carried_17 {v0 : Int32} {x0 x1 x2 x3 x4 : Option Value} (h : T 17 [x0, x1, x2, x3, x4] [.int v0] I J P) : Gp S N hp ML_carried T 17 [x0, x1, x2, x3, x4] [.int v0] I J P := gp_stop dL_carried_17 (Or.inl rfl) h
theorem dL_jointTax_0 : decode cL_jointTax 0 = .ok (.aload_n 2, 1) := by decide +kernel
theorem dL_jointTax_1 : decode cL_jointTax 1 = .ok (.iconst 0, 1) := by decide +kernel
theorem dL_jointTax_2 : decode cL_jointTax 2 = .ok (.aload_n 0, 1) := by decide +kernel
theorem dL_jointTax_3 : decode cL_jointTax 3 = .ok (.iload_n 1, 1) := by decide +kernel
theorem dL_jointTax_4 : decode cL_jointTax 4 = .ok (.invokevirtual 76, 3) := by decide +kernel
theorem dL_jointTax_7 : decode cL_jointTax 7 = .ok (.lastore, 1) := by decide +kernel
theorem dL_jointTax_8 : decode cL_jointTax 8 = .ok (.goto 9, 3) := by decide +kernel
theorem dL_jointTax_11 : decode cL_jointTax 11 = .ok (.astore_n 3, 1) := by decide +kernel
theorem dL_jointTax_12 : decode cL_jointTax 12 = .ok (.iconst 1, 1) := by decide +kernel
theorem dL_jointTax_13 : decode cL_jointTax 13 = .ok (.ireturn, 1) := by decide +kernel
theorem dL_jointTax_14 : decode cL_jointTax 14 = .ok (.astore_n 3, 1) := by decide +kernel
theorem dL_jointTax_15 : decode cL_jointTax 15 = .ok (.iconst 2, 1) := by decide +kernel
theorem dL_jointTax_16 : decode cL_jointTax 16 = .ok (.ireturn, 1) := by decide +kernel
theorem dL_jointTax_17 : decode cL_jointTax 17 = .ok (.iconst 0, 1) := by decide +kernel
theorem dL_jointTax_18 : decode cL_jointTax 18 = .ok (.ireturn, 1) := by decide +kernel
theorem g_L_jointTax_0 {w : Nat} {x0 x1 x3 : Option Value} : Gp S N hp ML_jointTax T 0 [x0, x1, some (.ref w), x3] [] I J P ↔ Gp S N hp ML_jointTax T 1 [x0, x1, some (.ref w), x3] [.ref w] I J P := gp_lod (len := 1) rfl rfl rfl rfl dL_jointTax_0
theorem g_L_jointTax_1 {v0 : Nat} {x0 x1 x2 x3 : Option Value} : Gp S N hp ML_jointTax T 1 [x0, x1, x2, x3] [.ref v0] I J P ↔ Gp S N hp ML_jointTax T 2 [x0, x1, x2, x3] [.int 0, .ref v0] I J P := gp_iconst (by decide) dL_jointTax_1
theorem g_L_jointTax_2 {v0 : Int32} {v1 : Nat} {w : Nat} {x1 x2 x3 : Option Value} : Gp S N hp ML_jointTax T 2 [some (.ref w), x1, x2, x3] [.int v0, .ref v1] I J P ↔ Gp S N hp ML_jointTax T 3 [some (.ref w), x1, x2, x3] [.ref w, .int v0, .ref v1] I J P := gp_lod (len := 1) rfl rfl rfl rfl dL_jointTax_2
theorem g_L_jointTax_3 {v0 : Nat} {v1 : Int32} {v2 : Nat} {w : Int32} {x0 x2 x3 : Option Value} : Gp S N hp ML_jointTax T 3 [x0, some (.int w), x2, x3] [.ref v0, .int v1, .ref v2] I J P ↔ Gp S N hp ML_jointTax T 4 [x0, some (.int w), x2, x3] [.int w, .ref v0, .int v1, .ref v2] I J P := gp_lod (len := 1) rfl rfl rfl rfl dL_jointTax_3
theorem gs_L_jointTax_4 {v0 : Int32} {v1 : Nat} {v2 : Int32} {v3 : Nat} {x0 x1 x2 x3 : Option Value} (h : T 4 [x0, x1, x2, x3] [.int v0, .ref v1, .int v2, .ref v3] I J P) : Gp S N hp ML_jointTax T 4 [x0, x1, x2, x3] [.int v0, .ref v1, .int v2, .ref v3] I J P := gp_stop dL_jointTax_4 (Or.inr (Or.inl rfl)) h
theorem g_L_jointTax_7 {v0 : Int64} {v1 : Int32} {v2 : Nat} {x0 x1 x2 x3 : Option Value} : Gp S N true ML_jointTax T 7 [x0, x1, x2, x3] [.long v0, .int v1, .ref v2] I J P ↔ (S v2 = 11 ∧ vp_in v1 (N v2)) ∧ Gp S N true ML_jointTax T 8 [x0, x1, x2, x3] [] I (u2 J v2 v1.toNatClampNeg v0) P := gp_ast rfl rfl dL_jointTax_7
theorem g_L_jointTax_8  {x0 x1 x2 x3 : Option Value} : Gp S N hp ML_jointTax T 8 [x0, x1, x2, x3] [] I J P ↔ Gp S N hp ML_jointTax T 17 [x0, x1, x2, x3] [] I J P := gp_go (len := 3) rfl (fun _ _ => rfl) rfl (by decide) dL_jointTax_8
theorem g_L_jointTax_11 {v0 : Nat} {x0 x1 x2 x3 : Option Value} : Gp S N hp ML_jointTax T 11 [x0, x1, x2, x3] [.ref v0] I J P ↔ Gp S N hp ML_jointTax T 12 [x0, x1, kl x2, some (.ref v0)] [] I J P := gp_sto (len := 1) rfl rfl rfl rfl (Nat.le_of_ble_eq_true rfl) rfl dL_jointTax_11
theorem g_L_jointTax_12  {x0 x1 x2 x3 : Option Value} : Gp S N hp ML_jointTax T 12 [x0, x1, x2, x3] [] I J P ↔ Gp S N hp ML_jointTax T 13 [x0, x1, x2, x3] [.int 1] I J P := gp_iconst (by decide) dL_jointTax_12
theorem gs_L_jointTax_13 {v0 : Int32} {x0 x1 x2 x3 : Option Value} (h : T 13 [x0, x1, x2, x3] [.int v0] I J P) : Gp S N hp ML_jointTax T 13 [x0, x1, x2, x3] [.int v0] I J P := gp_stop dL_jointTax_13 (Or.inl rfl) h
theorem g_L_jointTax_14 {v0 : Nat} {x0 x1 x2 x3 : Option Value} : Gp S N hp ML_jointTax T 14 [x0, x1, x2, x3] [.ref v0] I J P ↔ Gp S N hp ML_jointTax T 15 [x0, x1, kl x2, some (.ref v0)] [] I J P := gp_sto (len := 1) rfl rfl rfl rfl (Nat.le_of_ble_eq_true rfl) rfl dL_jointTax_14
theorem g_L_jointTax_15  {x0 x1 x2 x3 : Option Value} : Gp S N hp ML_jointTax T 15 [x0, x1, x2, x3] [] I J P ↔ Gp S N hp ML_jointTax T 16 [x0, x1, x2, x3] [.int 2] I J P := gp_iconst (by decide) dL_jointTax_15
theorem gs_L_jointTax_16 {v0 : Int32} {x0 x1 x2 x3 : Option Value} (h : T 16 [x0, x1, x2, x3] [.int v0] I J P) : Gp S N hp ML_jointTax T 16 [x0, x1, x2, x3] [.int v0] I J P := gp_stop dL_jointTax_16 (Or.inl rfl) h
theorem g_L_jointTax_17  {x0 x1 x2 x3 : Option Value} : Gp S N hp ML_jointTax T 17 [x0, x1, x2, x3] [] I J P ↔ Gp S N hp ML_jointTax T 18 [x0, x1, x2, x3] [.int 0] I J P := gp_iconst (by decide) dL_jointTax_17
theorem gs_L_jointTax_18 {v0 : Int32} {x0 x1 x2 x3 : Option Value} (h : T 18 [x0, x1, x2, x3] [.int v0] I J P) : Gp S N hp ML_jointTax T 18 [x0, x1, x2, x3] [.int v0] I J P := gp_stop dL_jointTax_18 (Or.inl rfl) h
theorem dL_separateTax_0 : decode cL_separateTax 0 = .ok (.aload_n 2, 1) := by decide +kernel
theorem dL_separateTax_1 : decode cL_separateTax 1 = .ok (.iconst 0, 1) := by decide +kernel
theorem dL_separateTax_2 : decode cL_separateTax 2 = .ok (.aload_n 0, 1) := by decide +kernel
theorem dL_separateTax_3 : decode cL_separateTax 3 = .ok (.iload_n 1, 1) := by decide +kernel
theorem dL_separateTax_4 : decode cL_separateTax 4 = .ok (.invokevirtual 79, 3) := by decide +kernel
theorem dL_separateTax_7 : decode cL_separateTax 7 = .ok (.lastore, 1) := by decide +kernel
theorem dL_separateTax_8 : decode cL_separateTax 8 = .ok (.goto 9, 3) := by decide +kernel
theorem dL_separateTax_11 : decode cL_separateTax 11 = .ok (.astore_n 3, 1) := by decide +kernel
theorem dL_separateTax_12 : decode cL_separateTax 12 = .ok (.iconst 1, 1) := by decide +kernel
theorem dL_separateTax_13 : decode cL_separateTax 13 = .ok (.ireturn, 1) := by decide +kernel
theorem dL_separateTax_14 : decode cL_separateTax 14 = .ok (.astore_n 3, 1) := by decide +kernel
theorem dL_separateTax_15 : decode cL_separateTax 15 = .ok (.iconst 2, 1) := by decide +kernel
theorem dL_separateTax_16 : decode cL_separateTax 16 = .ok (.ireturn, 1) := by decide +kernel
theorem dL_separateTax_17 : decode cL_separateTax 17 = .ok (.iconst 0, 1) := by decide +kernel
theorem dL_separateTax_18 : decode cL_separateTax 18 = .ok (.ireturn, 1) := by decide +kernel
theorem g_L_separateTax_0 {w : Nat} {x0 x1 x3 : Option Value} : Gp S N hp ML_separateTax T 0 [x0, x1, some (.ref w), x3] [] I J P ↔ Gp S N hp ML_separateTax T 1 [x0, x1, some (.ref w), x3] [.ref w] I J P := gp_lod (len := 1) rfl rfl rfl rfl dL_separateTax_0
theorem g_L_separateTax_1 {v0 : Nat} {x0 x1 x2 x3 : Option Value} : Gp S N hp ML_separateTax T 1 [x0, x1, x2, x3] [.ref v0] I J P ↔ Gp S N hp ML_separateTax T 2 [x0, x1, x2, x3] [.int 0, .ref v0] I J P := gp_iconst (by decide) dL_separateTax_1
theorem g_L_separateTax_2 {v0 : Int32} {v1 : Nat} {w : Nat} {x1 x2 x3 : Option Value} : Gp S N hp ML_separateTax T 2 [some (.ref w), x1, x2, x3] [.int v0, .ref v1] I J P ↔ Gp S N hp ML_separateTax T 3 [some (.ref w), x1, x2, x3] [.ref w, .int v0, .ref v1] I J P := gp_lod (len := 1) rfl rfl rfl rfl dL_separateTax_2
theorem g_L_separateTax_3 {v0 : Nat} {v1 : Int32} {v2 : Nat} {w : Int32} {x0 x2 x3 : Option Value} : Gp S N hp ML_separateTax T 3 [x0, some (.int w), x2, x3] [.ref v0, .int v1, .ref v2] I J P ↔ Gp S N hp ML_separateTax T 4 [x0, some (.int w), x2, x3] [.int w, .ref v0, .int v1, .ref v2] I J P := gp_lod (len := 1) rfl rfl rfl rfl dL_separateTax_3
theorem gs_L_separateTax_4 {v0 : Int32} {v1 : Nat} {v2 : Int32} {v3 : Nat} {x0 x1 x2 x3 : Option Value} (h : T 4 [x0, x1, x2, x3] [.int v0, .ref v1, .int v2, .ref v3] I J P) : Gp S N hp ML_separateTax T 4 [x0, x1, x2, x3] [.int v0, .ref v1, .int v2, .ref v3] I J P := gp_stop dL_separateTax_4 (Or.inr (Or.inl rfl)) h
theorem g_L_separateTax_7 {v0 : Int64} {v1 : Int32} {v2 : Nat} {x0 x1 x2 x3 : Option Value} : Gp S N true ML_separateTax T 7 [x0, x1, x2, x3] [.long v0, .int v1, .ref v2] I J P ↔ (S v2 = 11 ∧ vp_in v1 (N v2)) ∧ Gp S N true ML_separateTax T 8 [x0, x1, x2, x3] [] I (u2 J v2 v1.toNatClampNeg v0) P := gp_ast rfl rfl dL_separateTax_7
theorem g_L_separateTax_8  {x0 x1 x2 x3 : Option Value} : Gp S N hp ML_separateTax T 8 [x0, x1, x2, x3] [] I J P ↔ Gp S N hp ML_separateTax T 17 [x0, x1, x2, x3] [] I J P := gp_go (len := 3) rfl (fun _ _ => rfl) rfl (by decide) dL_separateTax_8
theorem g_L_separateTax_11 {v0 : Nat} {x0 x1 x2 x3 : Option Value} : Gp S N hp ML_separateTax T 11 [x0, x1, x2, x3] [.ref v0] I J P ↔ Gp S N hp ML_separateTax T 12 [x0, x1, kl x2, some (.ref v0)] [] I J P := gp_sto (len := 1) rfl rfl rfl rfl (Nat.le_of_ble_eq_true rfl) rfl dL_separateTax_11
theorem g_L_separateTax_12  {x0 x1 x2 x3 : Option Value} : Gp S N hp ML_separateTax T 12 [x0, x1, x2, x3] [] I J P ↔ Gp S N hp ML_separateTax T 13 [x0, x1, x2, x3] [.int 1] I J P := gp_iconst (by decide) dL_separateTax_12
theorem gs_L_separateTax_13 {v0 : Int32} {x0 x1 x2 x3 : Option Value} (h : T 13 [x0, x1, x2, x3] [.int v0] I J P) : Gp S N hp ML_separateTax T 13 [x0, x1, x2, x3] [.int v0] I J P := gp_stop dL_separateTax_13 (Or.inl rfl) h
theorem g_L_separateTax_14 {v0 : Nat} {x0 x1 x2 x3 : Option Value} : Gp S N hp ML_separateTax T 14 [x0, x1, x2, x3] [.ref v0] I J P ↔ Gp S N hp ML_separateTax T 15 [x0, x1, kl x2, some (.ref v0)] [] I J P := gp_sto (len := 1) rfl rfl rfl rfl (Nat.le_of_ble_eq_true rfl) rfl dL_separateTax_14
theorem g_L_separateTax_15  {x0 x1 x2 x3 : Option Value} : Gp S N hp ML_separateTax T 15 [x0, x1, x2, x3] [] I J P ↔ Gp S N hp ML_separateTax T 16 [x0, x1, x2, x3] [.int 2] I J P := gp_iconst (by decide) dL_separateTax_15
theorem gs_L_separateTax_16 {v0 : Int32} {x0 x1 x2 x3 : Option Value} (h : T 16 [x0, x1, x2, x3] [.int v0] I J P) : Gp S N hp ML_separateTax T 16 [x0, x1, x2, x3] [.int v0] I J P := gp_stop dL_separateTax_16 (Or.inl rfl) h
theorem g_L_separateTax_17  {x0 x1 x2 x3 : Option Value} : Gp S N hp ML_separateTax T 17 [x0, x1, x2, x3] [] I J P ↔ Gp S N hp ML_separateTax T 18 [x0, x1, x2, x3] [.int 0] I J P := gp_iconst (by decide) dL_separateTax_17
theorem gs_L_separateTax_18 {v0 : Int32} {x0 x1 x2 x3 : Option Value} (h : T 18 [x0, x1, x2, x3] [.int v0] I J P) : Gp S N hp ML_separateTax T 18 [x0, x1, x2, x3] [.int v0] I J P := gp_stop dL_separateTax_18 (Or.inl rfl) h
theorem dL_division_0 : decode cL_division 0 = .ok (.aload_n 2, 1) := by decide +kernel
theorem dL_division_1 : decode cL_division 1 = .ok (.iconst 0, 1) := by decide +kernel
theorem dL_division_2 : decode cL_division 2 = .ok (.aload_n 0, 1) := by decide +kernel
theorem dL_division_3 : decode cL_division 3 = .ok (.iload_n 1, 1) := by decide +kernel
theorem dL_division_4 : decode cL_division 4 = .ok (.invokevirtual 82, 3) := by decide +kernel
theorem dL_division_7 : decode cL_division 7 = .ok (.i2l, 1) := by decide +kernel
theorem dL_division_8 : decode cL_division 8 = .ok (.lastore, 1) := by decide +kernel
theorem dL_division_9 : decode cL_division 9 = .ok (.goto 9, 3) := by decide +kernel
theorem dL_division_12 : decode cL_division 12 = .ok (.astore_n 3, 1) := by decide +kernel
theorem dL_division_13 : decode cL_division 13 = .ok (.iconst 1, 1) := by decide +kernel
theorem dL_division_14 : decode cL_division 14 = .ok (.ireturn, 1) := by decide +kernel
theorem dL_division_15 : decode cL_division 15 = .ok (.astore_n 3, 1) := by decide +kernel
theorem dL_division_16 : decode cL_division 16 = .ok (.iconst 2, 1) := by decide +kernel
theorem dL_division_17 : decode cL_division 17 = .ok (.ireturn, 1) := by decide +kernel
theorem dL_division_18 : decode cL_division 18 = .ok (.iconst 0, 1) := by decide +kernel
theorem dL_division_19 : decode cL_division 19 = .ok (.ireturn, 1) := by decide +kernel
theorem g_L_division_0 {w : Nat} {x0 x1 x3 : Option Value} : Gp S N hp ML_division T 0 [x0, x1, some (.ref w), x3] [] I J P ↔ Gp S N hp ML_division T 1 [x0, x1, some (.ref w), x3] [.ref w] I J P := gp_lod (len := 1) rfl rfl rfl rfl dL_division_0
theorem g_L_division_1 {v0 : Nat} {x0 x1 x2 x3 : Option Value} : Gp S N hp ML_division T 1 [x0, x1, x2, x3] [.ref v0] I J P ↔ Gp S N hp ML_division T 2 [x0, x1, x2, x3] [.int 0, .ref v0] I J P := gp_iconst (by decide) dL_division_1
theorem g_L_division_2 {v0 : Int32} {v1 : Nat} {w : Nat} {x1 x2 x3 : Option Value} : Gp S N hp ML_division T 2 [some (.ref w), x1, x2, x3] [.int v0, .ref v1] I J P ↔ Gp S N hp ML_division T 3 [some (.ref w), x1, x2, x3] [.ref w, .int v0, .ref v1] I J P := gp_lod (len := 1) rfl rfl rfl rfl dL_division_2
theorem g_L_division_3 {v0 : Nat} {v1 : Int32} {v2 : Nat} {w : Int32} {x0 x2 x3 : Option Value} : Gp S N hp ML_division T 3 [x0, some (.int w), x2, x3] [.ref v0, .int v1, .ref v2] I J P ↔ Gp S N hp ML_division T 4 [x0, some (.int w), x2, x3] [.int w, .ref v0, .int v1, .ref v2] I J P := gp_lod (len := 1) rfl rfl rfl rfl dL_division_3
theorem gs_L_division_4 {v0 : Int32} {v1 : Nat} {v2 : Int32} {v3 : Nat} {x0 x1 x2 x3 : Option Value} (h : T 4 [x0, x1, x2, x3] [.int v0, .ref v1, .int v2, .ref v3] I J P) : Gp S N hp ML_division T 4 [x0, x1, x2, x3] [.int v0, .ref v1, .int v2, .ref v3] I J P := gp_stop dL_division_4 (Or.inr (Or.inl rfl)) h
theorem g_L_division_7 {v0 : Int32} {v1 : Int32} {v2 : Nat} {x0 x1 x2 x3 : Option Value} : Gp S N hp ML_division T 7 [x0, x1, x2, x3] [.int v0, .int v1, .ref v2] I J P ↔ Gp S N hp ML_division T 8 [x0, x1, x2, x3] [.long v0.toInt64, .int v1, .ref v2] I J P := gp_alu (len := 1) rfl rfl rfl dL_division_7
theorem g_L_division_8 {v0 : Int64} {v1 : Int32} {v2 : Nat} {x0 x1 x2 x3 : Option Value} : Gp S N true ML_division T 8 [x0, x1, x2, x3] [.long v0, .int v1, .ref v2] I J P ↔ (S v2 = 11 ∧ vp_in v1 (N v2)) ∧ Gp S N true ML_division T 9 [x0, x1, x2, x3] [] I (u2 J v2 v1.toNatClampNeg v0) P := gp_ast rfl rfl dL_division_8
theorem g_L_division_9  {x0 x1 x2 x3 : Option Value} : Gp S N hp ML_division T 9 [x0, x1, x2, x3] [] I J P ↔ Gp S N hp ML_division T 18 [x0, x1, x2, x3] [] I J P := gp_go (len := 3) rfl (fun _ _ => rfl) rfl (by decide) dL_division_9
theorem g_L_division_12 {v0 : Nat} {x0 x1 x2 x3 : Option Value} : Gp S N hp ML_division T 12 [x0, x1, x2, x3] [.ref v0] I J P ↔ Gp S N hp ML_division T 13 [x0, x1, kl x2, some (.ref v0)] [] I J P := gp_sto (len := 1) rfl rfl rfl rfl (Nat.le_of_ble_eq_true rfl) rfl dL_division_12
theorem g_L_division_13  {x0 x1 x2 x3 : Option Value} : Gp S N hp ML_division T 13 [x0, x1, x2, x3] [] I J P ↔ Gp S N hp ML_division T 14 [x0, x1, x2, x3] [.int 1] I J P := gp_iconst (by decide) dL_division_13
theorem gs_L_division_14 {v0 : Int32} {x0 x1 x2 x3 : Option Value} (h : T 14 [x0, x1, x2, x3] [.int v0] I J P) : Gp S N hp ML_division T 14 [x0, x1, x2, x3] [.int v0] I J P := gp_stop dL_division_14 (Or.inl rfl) h
theorem g_L_division_15 {v0 : Nat} {x0 x1 x2 x3 : Option Value} : Gp S N hp ML_division T 15 [x0, x1, x2, x3] [.ref v0] I J P ↔ Gp S N hp ML_division T 16 [x0, x1, kl x2, some (.ref v0)] [] I J P := gp_sto (len := 1) rfl rfl rfl rfl (Nat.le_of_ble_eq_true rfl) rfl dL_division_15
theorem g_L_division_16  {x0 x1 x2 x3 : Option Value} : Gp S N hp ML_division T 16 [x0, x1, x2, x3] [] I J P ↔ Gp S N hp ML_division T 17 [x0, x1, x2, x3] [.int 2] I J P := gp_iconst (by decide) dL_division_16
theorem gs_L_division_17 {v0 : Int32} {x0 x1 x2 x3 : Option Value} (h : T 17 [x0, x1, x2, x3] [.int v0] I J P) : Gp S N hp ML_division T 17 [x0, x1, x2, x3] [.int v0] I J P := gp_stop dL_division_17 (Or.inl rfl) h
theorem g_L_division_18  {x0 x1 x2 x3 : Option Value} : Gp S N hp ML_division T 18 [x0, x1, x2, x3] [] I J P ↔ Gp S N hp ML_division T 19 [x0, x1, x2, x3] [.int 0] I J P := gp_iconst (by decide) dL_division_18
theorem gs_L_division_19 {v0 : Int32} {x0 x1 x2 x3 : Option Value} (h : T 19 [x0, x1, x2, x3] [.int v0] I J P) : Gp S N hp ML_division T 19 [x0, x1, x2, x3] [.int v0] I J P := gp_stop dL_division_19 (Or.inl rfl) h
theorem dL_choosesJoint_0 : decode cL_choosesJoint 0 = .ok (.aload_n 2, 1) := by decide +kernel
theorem dL_choosesJoint_1 : decode cL_choosesJoint 1 = .ok (.iconst 0, 1) := by decide +kernel
theorem dL_choosesJoint_2 : decode cL_choosesJoint 2 = .ok (.aload_n 0, 1) := by decide +kernel
theorem dL_choosesJoint_3 : decode cL_choosesJoint 3 = .ok (.iload_n 1, 1) := by decide +kernel
theorem dL_choosesJoint_4 : decode cL_choosesJoint 4 = .ok (.invokevirtual 85, 3) := by decide +kernel
theorem dL_choosesJoint_7 : decode cL_choosesJoint 7 = .ok (.ifCond .eq 7, 3) := by decide +kernel
theorem dL_choosesJoint_10 : decode cL_choosesJoint 10 = .ok (.lconst 1, 1) := by decide +kernel
theorem dL_choosesJoint_11 : decode cL_choosesJoint 11 = .ok (.goto 4, 3) := by decide +kernel
theorem dL_choosesJoint_14 : decode cL_choosesJoint 14 = .ok (.lconst 0, 1) := by decide +kernel
theorem dL_choosesJoint_15 : decode cL_choosesJoint 15 = .ok (.lastore, 1) := by decide +kernel
theorem dL_choosesJoint_16 : decode cL_choosesJoint 16 = .ok (.goto 9, 3) := by decide +kernel
theorem dL_choosesJoint_19 : decode cL_choosesJoint 19 = .ok (.astore_n 3, 1) := by decide +kernel
theorem dL_choosesJoint_20 : decode cL_choosesJoint 20 = .ok (.iconst 1, 1) := by decide +kernel
theorem dL_choosesJoint_21 : decode cL_choosesJoint 21 = .ok (.ireturn, 1) := by decide +kernel
theorem dL_choosesJoint_22 : decode cL_choosesJoint 22 = .ok (.astore_n 3, 1) := by decide +kernel
theorem dL_choosesJoint_23 : decode cL_choosesJoint 23 = .ok (.iconst 2, 1) := by decide +kernel
theorem dL_choosesJoint_24 : decode cL_choosesJoint 24 = .ok (.ireturn, 1) := by decide +kernel
theorem dL_choosesJoint_25 : decode cL_choosesJoint 25 = .ok (.iconst 0, 1) := by decide +kernel
theorem dL_choosesJoint_26 : decode cL_choosesJoint 26 = .ok (.ireturn, 1) := by decide +kernel
theorem g_L_choosesJoint_0 {w : Nat} {x0 x1 x3 : Option Value} : Gp S N hp ML_choosesJoint T 0 [x0, x1, some (.ref w), x3] [] I J P ↔ Gp S N hp ML_choosesJoint T 1 [x0, x1, some (.ref w), x3] [.ref w] I J P := gp_lod (len := 1) rfl rfl rfl rfl dL_choosesJoint_0
theorem g_L_choosesJoint_1 {v0 : Nat} {x0 x1 x2 x3 : Option Value} : Gp S N hp ML_choosesJoint T 1 [x0, x1, x2, x3] [.ref v0] I J P ↔ Gp S N hp ML_choosesJoint T 2 [x0, x1, x2, x3] [.int 0, .ref v0] I J P := gp_iconst (by decide) dL_choosesJoint_1
theorem g_L_choosesJoint_2 {v0 : Int32} {v1 : Nat} {w : Nat} {x1 x2 x3 : Option Value} : Gp S N hp ML_choosesJoint T 2 [some (.ref w), x1, x2, x3] [.int v0, .ref v1] I J P ↔ Gp S N hp ML_choosesJoint T 3 [some (.ref w), x1, x2, x3] [.ref w, .int v0, .ref v1] I J P := gp_lod (len := 1) rfl rfl rfl rfl dL_choosesJoint_2
theorem g_L_choosesJoint_3 {v0 : Nat} {v1 : Int32} {v2 : Nat} {w : Int32} {x0 x2 x3 : Option Value} : Gp S N hp ML_choosesJoint T 3 [x0, some (.int w), x2, x3] [.ref v0, .int v1, .ref v2] I J P ↔ Gp S N hp ML_choosesJoint T 4 [x0, some (.int w), x2, x3] [.int w, .ref v0, .int v1, .ref v2] I J P := gp_lod (len := 1) rfl rfl rfl rfl dL_choosesJoint_3
theorem gs_L_choosesJoint_4 {v0 : Int32} {v1 : Nat} {v2 : Int32} {v3 : Nat} {x0 x1 x2 x3 : Option Value} (h : T 4 [x0, x1, x2, x3] [.int v0, .ref v1, .int v2, .ref v3] I J P) : Gp S N hp ML_choosesJoint T 4 [x0, x1, x2, x3] [.int v0, .ref v1, .int v2, .ref v3] I J P := gp_stop dL_choosesJoint_4 (Or.inr (Or.inl rfl)) h
theorem g_L_choosesJoint_7 {v0 : Int32} {v1 : Int32} {v2 : Nat} {x0 x1 x2 x3 : Option Value} : Gp S N hp ML_choosesJoint T 7 [x0, x1, x2, x3] [.int v0, .int v1, .ref v2] I J P ↔ (v0 = 0 → Gp S N hp ML_choosesJoint T 14 [x0, x1, x2, x3] [.int v1, .ref v2] I J P) ∧ (¬ v0 = 0 → Gp S N hp ML_choosesJoint T 10 [x0, x1, x2, x3] [.int v1, .ref v2] I J P) := gp_br rfl rfl (by decide) dL_choosesJoint_7
theorem g_L_choosesJoint_10 {v0 : Int32} {v1 : Nat} {x0 x1 x2 x3 : Option Value} : Gp S N hp ML_choosesJoint T 10 [x0, x1, x2, x3] [.int v0, .ref v1] I J P ↔ Gp S N hp ML_choosesJoint T 11 [x0, x1, x2, x3] [.long 1, .int v0, .ref v1] I J P := gp_lconst (by decide) dL_choosesJoint_10
theorem g_L_choosesJoint_11 {v0 : Int64} {v1 : Int32} {v2 : Nat} {x0 x1 x2 x3 : Option Value} : Gp S N hp ML_choosesJoint T 11 [x0, x1, x2, x3] [.long v0, .int v1, .ref v2] I J P ↔ Gp S N hp ML_choosesJoint T 15 [x0, x1, x2, x3] [.long v0, .int v1, .ref v2] I J P := gp_go (len := 3) rfl (fun _ _ => rfl) rfl (by decide) dL_choosesJoint_11
theorem g_L_choosesJoint_14 {v0 : Int32} {v1 : Nat} {x0 x1 x2 x3 : Option Value} : Gp S N hp ML_choosesJoint T 14 [x0, x1, x2, x3] [.int v0, .ref v1] I J P ↔ Gp S N hp ML_choosesJoint T 15 [x0, x1, x2, x3] [.long 0, .int v0, .ref v1] I J P := gp_lconst (by decide) dL_choosesJoint_14
theorem g_L_choosesJoint_15 {v0 : Int64} {v1 : Int32} {v2 : Nat} {x0 x1 x2 x3 : Option Value} : Gp S N true ML_choosesJoint T 15 [x0, x1, x2, x3] [.long v0, .int v1, .ref v2] I J P ↔ (S v2 = 11 ∧ vp_in v1 (N v2)) ∧ Gp S N true ML_choosesJoint T 16 [x0, x1, x2, x3] [] I (u2 J v2 v1.toNatClampNeg v0) P := gp_ast rfl rfl dL_choosesJoint_15
theorem g_L_choosesJoint_16  {x0 x1 x2 x3 : Option Value} : Gp S N hp ML_choosesJoint T 16 [x0, x1, x2, x3] [] I J P ↔ Gp S N hp ML_choosesJoint T 25 [x0, x1, x2, x3] [] I J P := gp_go (len := 3) rfl (fun _ _ => rfl) rfl (by decide) dL_choosesJoint_16
theorem g_L_choosesJoint_19 {v0 : Nat} {x0 x1 x2 x3 : Option Value} : Gp S N hp ML_choosesJoint T 19 [x0, x1, x2, x3] [.ref v0] I J P ↔ Gp S N hp ML_choosesJoint T 20 [x0, x1, kl x2, some (.ref v0)] [] I J P := gp_sto (len := 1) rfl rfl rfl rfl (Nat.le_of_ble_eq_true rfl) rfl dL_choosesJoint_19
theorem g_L_choosesJoint_20  {x0 x1 x2 x3 : Option Value} : Gp S N hp ML_choosesJoint T 20 [x0, x1, x2, x3] [] I J P ↔ Gp S N hp ML_choosesJoint T 21 [x0, x1, x2, x3] [.int 1] I J P := gp_iconst (by decide) dL_choosesJoint_20
theorem gs_L_choosesJoint_21 {v0 : Int32} {x0 x1 x2 x3 : Option Value} (h : T 21 [x0, x1, x2, x3] [.int v0] I J P) : Gp S N hp ML_choosesJoint T 21 [x0, x1, x2, x3] [.int v0] I J P := gp_stop dL_choosesJoint_21 (Or.inl rfl) h
theorem g_L_choosesJoint_22 {v0 : Nat} {x0 x1 x2 x3 : Option Value} : Gp S N hp ML_choosesJoint T 22 [x0, x1, x2, x3] [.ref v0] I J P ↔ Gp S N hp ML_choosesJoint T 23 [x0, x1, kl x2, some (.ref v0)] [] I J P := gp_sto (len := 1) rfl rfl rfl rfl (Nat.le_of_ble_eq_true rfl) rfl dL_choosesJoint_22
theorem g_L_choosesJoint_23  {x0 x1 x2 x3 : Option Value} : Gp S N hp ML_choosesJoint T 23 [x0, x1, x2, x3] [] I J P ↔ Gp S N hp ML_choosesJoint T 24 [x0, x1, x2, x3] [.int 2] I J P := gp_iconst (by decide) dL_choosesJoint_23
theorem gs_L_choosesJoint_24 {v0 : Int32} {x0 x1 x2 x3 : Option Value} (h : T 24 [x0, x1, x2, x3] [.int v0] I J P) : Gp S N hp ML_choosesJoint T 24 [x0, x1, x2, x3] [.int v0] I J P := gp_stop dL_choosesJoint_24 (Or.inl rfl) h
theorem g_L_choosesJoint_25  {x0 x1 x2 x3 : Option Value} : Gp S N hp ML_choosesJoint T 25 [x0, x1, x2, x3] [] I J P ↔ Gp S N hp ML_choosesJoint T 26 [x0, x1, x2, x3] [.int 0] I J P := gp_iconst (by decide) dL_choosesJoint_25
theorem gs_L_choosesJoint_26 {v0 : Int32} {x0 x1 x2 x3 : Option Value} (h : T 26 [x0, x1, x2, x3] [.int v0] I J P) : Gp S N hp ML_choosesJoint T 26 [x0, x1, x2, x3] [.int v0] I J P := gp_stop dL_choosesJoint_26 (Or.inl rfl) h
theorem dL_householdTax_0 : decode cL_householdTax 0 = .ok (.aload_n 2, 1) := by decide +kernel
theorem dL_householdTax_1 : decode cL_householdTax 1 = .ok (.iconst 0, 1) := by decide +kernel
theorem dL_householdTax_2 : decode cL_householdTax 2 = .ok (.aload_n 0, 1) := by decide +kernel
theorem dL_householdTax_3 : decode cL_householdTax 3 = .ok (.iload_n 1, 1) := by decide +kernel
theorem dL_householdTax_4 : decode cL_householdTax 4 = .ok (.invokevirtual 89, 3) := by decide +kernel
theorem dL_householdTax_7 : decode cL_householdTax 7 = .ok (.lastore, 1) := by decide +kernel
theorem dL_householdTax_8 : decode cL_householdTax 8 = .ok (.goto 6, 3) := by decide +kernel
theorem dL_householdTax_11 : decode cL_householdTax 11 = .ok (.astore_n 3, 1) := by decide +kernel
theorem dL_householdTax_12 : decode cL_householdTax 12 = .ok (.iconst 1, 1) := by decide +kernel
theorem dL_householdTax_13 : decode cL_householdTax 13 = .ok (.ireturn, 1) := by decide +kernel
theorem dL_householdTax_14 : decode cL_householdTax 14 = .ok (.iconst 0, 1) := by decide +kernel
theorem dL_householdTax_15 : decode cL_householdTax 15 = .ok (.ireturn, 1) := by decide +kernel
theorem g_L_householdTax_0 {w : Nat} {x0 x1 x3 : Option Value} : Gp S N hp ML_householdTax T 0 [x0, x1, some (.ref w), x3] [] I J P ↔ Gp S N hp ML_householdTax T 1 [x0, x1, some (.ref w), x3] [.ref w] I J P := gp_lod (len := 1) rfl rfl rfl rfl dL_householdTax_0
theorem g_L_householdTax_1 {v0 : Nat} {x0 x1 x2 x3 : Option Value} : Gp S N hp ML_householdTax T 1 [x0, x1, x2, x3] [.ref v0] I J P ↔ Gp S N hp ML_householdTax T 2 [x0, x1, x2, x3] [.int 0, .ref v0] I J P := gp_iconst (by decide) dL_householdTax_1
theorem g_L_householdTax_2 {v0 : Int32} {v1 : Nat} {w : Nat} {x1 x2 x3 : Option Value} : Gp S N hp ML_householdTax T 2 [some (.ref w), x1, x2, x3] [.int v0, .ref v1] I J P ↔ Gp S N hp ML_householdTax T 3 [some (.ref w), x1, x2, x3] [.ref w, .int v0, .ref v1] I J P := gp_lod (len := 1) rfl rfl rfl rfl dL_householdTax_2
theorem g_L_householdTax_3 {v0 : Nat} {v1 : Int32} {v2 : Nat} {w : Int32} {x0 x2 x3 : Option Value} : Gp S N hp ML_householdTax T 3 [x0, some (.int w), x2, x3] [.ref v0, .int v1, .ref v2] I J P ↔ Gp S N hp ML_householdTax T 4 [x0, some (.int w), x2, x3] [.int w, .ref v0, .int v1, .ref v2] I J P := gp_lod (len := 1) rfl rfl rfl rfl dL_householdTax_3
theorem gs_L_householdTax_4 {v0 : Int32} {v1 : Nat} {v2 : Int32} {v3 : Nat} {x0 x1 x2 x3 : Option Value} (h : T 4 [x0, x1, x2, x3] [.int v0, .ref v1, .int v2, .ref v3] I J P) : Gp S N hp ML_householdTax T 4 [x0, x1, x2, x3] [.int v0, .ref v1, .int v2, .ref v3] I J P := gp_stop dL_householdTax_4 (Or.inr (Or.inl rfl)) h
theorem g_L_householdTax_7 {v0 : Int64} {v1 : Int32} {v2 : Nat} {x0 x1 x2 x3 : Option Value} : Gp S N true ML_householdTax T 7 [x0, x1, x2, x3] [.long v0, .int v1, .ref v2] I J P ↔ (S v2 = 11 ∧ vp_in v1 (N v2)) ∧ Gp S N true ML_householdTax T 8 [x0, x1, x2, x3] [] I (u2 J v2 v1.toNatClampNeg v0) P := gp_ast rfl rfl dL_householdTax_7
theorem g_L_householdTax_8  {x0 x1 x2 x3 : Option Value} : Gp S N hp ML_householdTax T 8 [x0, x1, x2, x3] [] I J P ↔ Gp S N hp ML_householdTax T 14 [x0, x1, x2, x3] [] I J P := gp_go (len := 3) rfl (fun _ _ => rfl) rfl (by decide) dL_householdTax_8
theorem g_L_householdTax_11 {v0 : Nat} {x0 x1 x2 x3 : Option Value} : Gp S N hp ML_householdTax T 11 [x0, x1, x2, x3] [.ref v0] I J P ↔ Gp S N hp ML_householdTax T 12 [x0, x1, kl x2, some (.ref v0)] [] I J P := gp_sto (len := 1) rfl rfl rfl rfl (Nat.le_of_ble_eq_true rfl) rfl dL_householdTax_11
theorem g_L_householdTax_12  {x0 x1 x2 x3 : Option Value} : Gp S N hp ML_householdTax T 12 [x0, x1, x2, x3] [] I J P ↔ Gp S N hp ML_householdTax T 13 [x0, x1, x2, x3] [.int 1] I J P := gp_iconst (by decide) dL_householdTax_12
theorem gs_L_householdTax_13 {v0 : Int32} {x0 x1 x2 x3 : Option Value} (h : T 13 [x0, x1, x2, x3] [.int v0] I J P) : Gp S N hp ML_householdTax T 13 [x0, x1, x2, x3] [.int v0] I J P := gp_stop dL_householdTax_13 (Or.inl rfl) h
theorem g_L_householdTax_14  {x0 x1 x2 x3 : Option Value} : Gp S N hp ML_householdTax T 14 [x0, x1, x2, x3] [] I J P ↔ Gp S N hp ML_householdTax T 15 [x0, x1, x2, x3] [.int 0] I J P := gp_iconst (by decide) dL_householdTax_14
theorem gs_L_householdTax_15 {v0 : Int32} {x0 x1 x2 x3 : Option Value} (h : T 15 [x0, x1, x2, x3] [.int v0] I J P) : Gp S N hp ML_householdTax T 15 [x0, x1, x2, x3] [.int v0] I J P := gp_stop dL_householdTax_15 (Or.inl rfl) h
theorem dL_curve_0 : decode cL_curve 0 = .ok (.aload_n 3, 1) := by decide +kernel
theorem dL_curve_1 : decode cL_curve 1 = .ok (.iconst 0, 1) := by decide +kernel
theorem dL_curve_2 : decode cL_curve 2 = .ok (.aload_n 0, 1) := by decide +kernel
theorem dL_curve_3 : decode cL_curve 3 = .ok (.iload_n 1, 1) := by decide +kernel
theorem dL_curve_4 : decode cL_curve 4 = .ok (.iload_n 2, 1) := by decide +kernel
theorem dL_curve_5 : decode cL_curve 5 = .ok (.invokevirtual 92, 3) := by decide +kernel
theorem dL_curve_8 : decode cL_curve 8 = .ok (.lastore, 1) := by decide +kernel
theorem dL_curve_9 : decode cL_curve 9 = .ok (.goto 11, 3) := by decide +kernel
theorem dL_curve_12 : decode cL_curve 12 = .ok (.astore 4, 2) := by decide +kernel
theorem dL_curve_14 : decode cL_curve 14 = .ok (.iconst 1, 1) := by decide +kernel
theorem dL_curve_15 : decode cL_curve 15 = .ok (.ireturn, 1) := by decide +kernel
theorem dL_curve_16 : decode cL_curve 16 = .ok (.astore 4, 2) := by decide +kernel
theorem dL_curve_18 : decode cL_curve 18 = .ok (.iconst 2, 1) := by decide +kernel
theorem dL_curve_19 : decode cL_curve 19 = .ok (.ireturn, 1) := by decide +kernel
theorem dL_curve_20 : decode cL_curve 20 = .ok (.iconst 0, 1) := by decide +kernel
theorem dL_curve_21 : decode cL_curve 21 = .ok (.ireturn, 1) := by decide +kernel
theorem g_L_curve_0 {w : Nat} {x0 x1 x2 x4 : Option Value} : Gp S N hp ML_curve T 0 [x0, x1, x2, some (.ref w), x4] [] I J P ↔ Gp S N hp ML_curve T 1 [x0, x1, x2, some (.ref w), x4] [.ref w] I J P := gp_lod (len := 1) rfl rfl rfl rfl dL_curve_0
theorem g_L_curve_1 {v0 : Nat} {x0 x1 x2 x3 x4 : Option Value} : Gp S N hp ML_curve T 1 [x0, x1, x2, x3, x4] [.ref v0] I J P ↔ Gp S N hp ML_curve T 2 [x0, x1, x2, x3, x4] [.int 0, .ref v0] I J P := gp_iconst (by decide) dL_curve_1
theorem g_L_curve_2 {v0 : Int32} {v1 : Nat} {w : Nat} {x1 x2 x3 x4 : Option Value} : Gp S N hp ML_curve T 2 [some (.ref w), x1, x2, x3, x4] [.int v0, .ref v1] I J P ↔ Gp S N hp ML_curve T 3 [some (.ref w), x1, x2, x3, x4] [.ref w, .int v0, .ref v1] I J P := gp_lod (len := 1) rfl rfl rfl rfl dL_curve_2
theorem g_L_curve_3 {v0 : Nat} {v1 : Int32} {v2 : Nat} {w : Int32} {x0 x2 x3 x4 : Option Value} : Gp S N hp ML_curve T 3 [x0, some (.int w), x2, x3, x4] [.ref v0, .int v1, .ref v2] I J P ↔ Gp S N hp ML_curve T 4 [x0, some (.int w), x2, x3, x4] [.int w, .ref v0, .int v1, .ref v2] I J P := gp_lod (len := 1) rfl rfl rfl rfl dL_curve_3
theorem g_L_curve_4 {v0 : Int32} {v1 : Nat} {v2 : Int32} {v3 : Nat} {w : Int32} {x0 x1 x3 x4 : Option Value} : Gp S N hp ML_curve T 4 [x0, x1, some (.int w), x3, x4] [.int v0, .ref v1, .int v2, .ref v3] I J P ↔ Gp S N hp ML_curve T 5 [x0, x1, some (.int w), x3, x4] [.int w, .int v0, .ref v1, .int v2, .ref v3] I J P := gp_lod (len := 1) rfl rfl rfl rfl dL_curve_4
theorem gs_L_curve_5 {v0 : Int32} {v1 : Int32} {v2 : Nat} {v3 : Int32} {v4 : Nat} {x0 x1 x2 x3 x4 : Option Value} (h : T 5 [x0, x1, x2, x3, x4] [.int v0, .int v1, .ref v2, .int v3, .ref v4] I J P) : Gp S N hp ML_curve T 5 [x0, x1, x2, x3, x4] [.int v0, .int v1, .ref v2, .int v3, .ref v4] I J P := gp_stop dL_curve_5 (Or.inr (Or.inl rfl)) h
theorem g_L_curve_8 {v0 : Int64} {v1 : Int32} {v2 : Nat} {x0 x1 x2 x3 x4 : Option Value} : Gp S N true ML_curve T 8 [x0, x1, x2, x3, x4] [.long v0, .int v1, .ref v2] I J P ↔ (S v2 = 11 ∧ vp_in v1 (N v2)) ∧ Gp S N true ML_curve T 9 [x0, x1, x2, x3, x4] [] I (u2 J v2 v1.toNatClampNeg v0) P := gp_ast rfl rfl dL_curve_8
theorem g_L_curve_9  {x0 x1 x2 x3 x4 : Option Value} : Gp S N hp ML_curve T 9 [x0, x1, x2, x3, x4] [] I J P ↔ Gp S N hp ML_curve T 20 [x0, x1, x2, x3, x4] [] I J P := gp_go (len := 3) rfl (fun _ _ => rfl) rfl (by decide) dL_curve_9
theorem g_L_curve_12 {v0 : Nat} {x0 x1 x2 x3 x4 : Option Value} : Gp S N hp ML_curve T 12 [x0, x1, x2, x3, x4] [.ref v0] I J P ↔ Gp S N hp ML_curve T 14 [x0, x1, x2, kl x3, some (.ref v0)] [] I J P := gp_sto (len := 2) rfl rfl rfl rfl (Nat.le_of_ble_eq_true rfl) rfl dL_curve_12
theorem g_L_curve_14  {x0 x1 x2 x3 x4 : Option Value} : Gp S N hp ML_curve T 14 [x0, x1, x2, x3, x4] [] I J P ↔ Gp S N hp ML_curve T 15 [x0, x1, x2, x3, x4] [.int 1] I J P := gp_iconst (by decide) dL_curve_14
theorem gs_L_curve_15 {v0 : Int32} {x0 x1 x2 x3 x4 : Option Value} (h : T 15 [x0, x1, x2, x3, x4] [.int v0] I J P) : Gp S N hp ML_curve T 15 [x0, x1, x2, x3, x4] [.int v0] I J P := gp_stop dL_curve_15 (Or.inl rfl) h
theorem g_L_curve_16 {v0 : Nat} {x0 x1 x2 x3 x4 : Option Value} : Gp S N hp ML_curve T 16 [x0, x1, x2, x3, x4] [.ref v0] I J P ↔ Gp S N hp ML_curve T 18 [x0, x1, x2, kl x3, some (.ref v0)] [] I J P := gp_sto (len := 2) rfl rfl rfl rfl (Nat.le_of_ble_eq_true rfl) rfl dL_curve_16
theorem g_L_curve_18  {x0 x1 x2 x3 x4 : Option Value} : Gp S N hp ML_curve T 18 [x0, x1, x2, x3, x4] [] I J P ↔ Gp S N hp ML_curve T 19 [x0, x1, x2, x3, x4] [.int 2] I J P := gp_iconst (by decide) dL_curve_18
theorem gs_L_curve_19 {v0 : Int32} {x0 x1 x2 x3 x4 : Option Value} (h : T 19 [x0, x1, x2, x3, x4] [.int v0] I J P) : Gp S N hp ML_curve T 19 [x0, x1, x2, x3, x4] [.int v0] I J P := gp_stop dL_curve_19 (Or.inl rfl) h
theorem g_L_curve_20  {x0 x1 x2 x3 x4 : Option Value} : Gp S N hp ML_curve T 20 [x0, x1, x2, x3, x4] [] I J P ↔ Gp S N hp ML_curve T 21 [x0, x1, x2, x3, x4] [.int 0] I J P := gp_iconst (by decide) dL_curve_20
theorem gs_L_curve_21 {v0 : Int32} {x0 x1 x2 x3 x4 : Option Value} (h : T 21 [x0, x1, x2, x3, x4] [.int v0] I J P) : Gp S N hp ML_curve T 21 [x0, x1, x2, x3, x4] [.int v0] I J P := gp_stop dL_curve_21 (Or.inl rfl) h
theorem dL_marginalRate_0 : decode cL_marginalRate 0 = .ok (.aload_n 3, 1) := by decide +kernel
theorem dL_marginalRate_1 : decode cL_marginalRate 1 = .ok (.iconst 0, 1) := by decide +kernel
theorem dL_marginalRate_2 : decode cL_marginalRate 2 = .ok (.aload_n 0, 1) := by decide +kernel
theorem dL_marginalRate_3 : decode cL_marginalRate 3 = .ok (.iload_n 1, 1) := by decide +kernel
theorem dL_marginalRate_4 : decode cL_marginalRate 4 = .ok (.iload_n 2, 1) := by decide +kernel
theorem dL_marginalRate_5 : decode cL_marginalRate 5 = .ok (.invokevirtual 95, 3) := by decide +kernel
theorem dL_marginalRate_8 : decode cL_marginalRate 8 = .ok (.lastore, 1) := by decide +kernel
theorem dL_marginalRate_9 : decode cL_marginalRate 9 = .ok (.goto 11, 3) := by decide +kernel
theorem dL_marginalRate_12 : decode cL_marginalRate 12 = .ok (.astore 4, 2) := by decide +kernel
theorem dL_marginalRate_14 : decode cL_marginalRate 14 = .ok (.iconst 1, 1) := by decide +kernel
theorem dL_marginalRate_15 : decode cL_marginalRate 15 = .ok (.ireturn, 1) := by decide +kernel
theorem dL_marginalRate_16 : decode cL_marginalRate 16 = .ok (.astore 4, 2) := by decide +kernel
theorem dL_marginalRate_18 : decode cL_marginalRate 18 = .ok (.iconst 2, 1) := by decide +kernel
theorem dL_marginalRate_19 : decode cL_marginalRate 19 = .ok (.ireturn, 1) := by decide +kernel
theorem dL_marginalRate_20 : decode cL_marginalRate 20 = .ok (.iconst 0, 1) := by decide +kernel
theorem dL_marginalRate_21 : decode cL_marginalRate 21 = .ok (.ireturn, 1) := by decide +kernel
theorem g_L_marginalRate_0 {w : Nat} {x0 x1 x2 x4 : Option Value} : Gp S N hp ML_marginalRate T 0 [x0, x1, x2, some (.ref w), x4] [] I J P ↔ Gp S N hp ML_marginalRate T 1 [x0, x1, x2, some (.ref w), x4] [.ref w] I J P := gp_lod (len := 1) rfl rfl rfl rfl dL_marginalRate_0
theorem g_L_marginalRate_1 {v0 : Nat} {x0 x1 x2 x3 x4 : Option Value} : Gp S N hp ML_marginalRate T 1 [x0, x1, x2, x3, x4] [.ref v0] I J P ↔ Gp S N hp ML_marginalRate T 2 [x0, x1, x2, x3, x4] [.int 0, .ref v0] I J P := gp_iconst (by decide) dL_marginalRate_1
theorem g_L_marginalRate_2 {v0 : Int32} {v1 : Nat} {w : Nat} {x1 x2 x3 x4 : Option Value} : Gp S N hp ML_marginalRate T 2 [some (.ref w), x1, x2, x3, x4] [.int v0, .ref v1] I J P ↔ Gp S N hp ML_marginalRate T 3 [some (.ref w), x1, x2, x3, x4] [.ref w, .int v0, .ref v1] I J P := gp_lod (len := 1) rfl rfl rfl rfl dL_marginalRate_2
theorem g_L_marginalRate_3 {v0 : Nat} {v1 : Int32} {v2 : Nat} {w : Int32} {x0 x2 x3 x4 : Option Value} : Gp S N hp ML_marginalRate T 3 [x0, some (.int w), x2, x3, x4] [.ref v0, .int v1, .ref v2] I J P ↔ Gp S N hp ML_marginalRate T 4 [x0, some (.int w), x2, x3, x4] [.int w, .ref v0, .int v1, .ref v2] I J P := gp_lod (len := 1) rfl rfl rfl rfl dL_marginalRate_3
theorem g_L_marginalRate_4 {v0 : Int32} {v1 : Nat} {v2 : Int32} {v3 : Nat} {w : Int32} {x0 x1 x3 x4 : Option Value} : Gp S N hp ML_marginalRate T 4 [x0, x1, some (.int w), x3, x4] [.int v0, .ref v1, .int v2, .ref v3] I J P ↔ Gp S N hp ML_marginalRate T 5 [x0, x1, some (.int w), x3, x4] [.int w, .int v0, .ref v1, .int v2, .ref v3] I J P := gp_lod (len := 1) rfl rfl rfl rfl dL_marginalRate_4
theorem gs_L_marginalRate_5 {v0 : Int32} {v1 : Int32} {v2 : Nat} {v3 : Int32} {v4 : Nat} {x0 x1 x2 x3 x4 : Option Value} (h : T 5 [x0, x1, x2, x3, x4] [.int v0, .int v1, .ref v2, .int v3, .ref v4] I J P) : Gp S N hp ML_marginalRate T 5 [x0, x1, x2, x3, x4] [.int v0, .int v1, .ref v2, .int v3, .ref v4] I J P := gp_stop dL_marginalRate_5 (Or.inr (Or.inl rfl)) h
theorem g_L_marginalRate_8 {v0 : Int64} {v1 : Int32} {v2 : Nat} {x0 x1 x2 x3 x4 : Option Value} : Gp S N true ML_marginalRate T 8 [x0, x1, x2, x3, x4] [.long v0, .int v1, .ref v2] I J P ↔ (S v2 = 11 ∧ vp_in v1 (N v2)) ∧ Gp S N true ML_marginalRate T 9 [x0, x1, x2, x3, x4] [] I (u2 J v2 v1.toNatClampNeg v0) P := gp_ast rfl rfl dL_marginalRate_8
theorem g_L_marginalRate_9  {x0 x1 x2 x3 x4 : Option Value} : Gp S N hp ML_marginalRate T 9 [x0, x1, x2, x3, x4] [] I J P ↔ Gp S N hp ML_marginalRate T 20 [x0, x1, x2, x3, x4] [] I J P := gp_go (len := 3) rfl (fun _ _ => rfl) rfl (by decide) dL_marginalRate_9
theorem g_L_marginalRate_12 {v0 : Nat} {x0 x1 x2 x3 x4 : Option Value} : Gp S N hp ML_marginalRate T 12 [x0, x1, x2, x3, x4] [.ref v0] I J P ↔ Gp S N hp ML_marginalRate T 14 [x0, x1, x2, kl x3, some (.ref v0)] [] I J P := gp_sto (len := 2) rfl rfl rfl rfl (Nat.le_of_ble_eq_true rfl) rfl dL_marginalRate_12
theorem g_L_marginalRate_14  {x0 x1 x2 x3 x4 : Option Value} : Gp S N hp ML_marginalRate T 14 [x0, x1, x2, x3, x4] [] I J P ↔ Gp S N hp ML_marginalRate T 15 [x0, x1, x2, x3, x4] [.int 1] I J P := gp_iconst (by decide) dL_marginalRate_14
theorem gs_L_marginalRate_15 {v0 : Int32} {x0 x1 x2 x3 x4 : Option Value} (h : T 15 [x0, x1, x2, x3, x4] [.int v0] I J P) : Gp S N hp ML_marginalRate T 15 [x0, x1, x2, x3, x4] [.int v0] I J P := gp_stop dL_marginalRate_15 (Or.inl rfl) h
theorem g_L_marginalRate_16 {v0 : Nat} {x0 x1 x2 x3 x4 : Option Value} : Gp S N hp ML_marginalRate T 16 [x0, x1, x2, x3, x4] [.ref v0] I J P ↔ Gp S N hp ML_marginalRate T 18 [x0, x1, x2, kl x3, some (.ref v0)] [] I J P := gp_sto (len := 2) rfl rfl rfl rfl (Nat.le_of_ble_eq_true rfl) rfl dL_marginalRate_16
theorem g_L_marginalRate_18  {x0 x1 x2 x3 x4 : Option Value} : Gp S N hp ML_marginalRate T 18 [x0, x1, x2, x3, x4] [] I J P ↔ Gp S N hp ML_marginalRate T 19 [x0, x1, x2, x3, x4] [.int 2] I J P := gp_iconst (by decide) dL_marginalRate_18
theorem gs_L_marginalRate_19 {v0 : Int32} {x0 x1 x2 x3 x4 : Option Value} (h : T 19 [x0, x1, x2, x3, x4] [.int v0] I J P) : Gp S N hp ML_marginalRate T 19 [x0, x1, x2, x3, x4] [.int v0] I J P := gp_stop dL_marginalRate_19 (Or.inl rfl) h
theorem g_L_marginalRate_20  {x0 x1 x2 x3 x4 : Option Value} : Gp S N hp ML_marginalRate T 20 [x0, x1, x2, x3, x4] [] I J P ↔ Gp S N hp ML_marginalRate T 21 [x0, x1, x2, x3, x4] [.int 0] I J P := gp_iconst (by decide) dL_marginalRate_20
theorem gs_L_marginalRate_21 {v0 : Int32} {x0 x1 x2 x3 x4 : Option Value} (h : T 21 [x0, x1, x2, x3, x4] [.int v0] I J P) : Gp S N hp ML_marginalRate T 21 [x0, x1, x2, x3, x4] [.int v0] I J P := gp_stop dL_marginalRate_21 (Or.inl rfl) h
theorem dL_kinks_0 : decode cL_kinks 0 = .ok (.aload_n 2, 1) := by decide +kernel
theorem dL_kinks_1 : decode cL_kinks 1 = .ok (.iconst 0, 1) := by decide +kernel
theorem dL_kinks_2 : decode cL_kinks 2 = .ok (.aload_n 0, 1) := by decide +kernel
theorem dL_kinks_3 : decode cL_kinks 3 = .ok (.iload_n 1, 1) := by decide +kernel
theorem dL_kinks_4 : decode cL_kinks 4 = .ok (.invokevirtual 98, 3) := by decide +kernel
theorem dL_kinks_7 : decode cL_kinks 7 = .ok (.i2l, 1) := by decide +kernel
theorem dL_kinks_8 : decode cL_kinks 8 = .ok (.lastore, 1) := by decide +kernel
theorem dL_kinks_9 : decode cL_kinks 9 = .ok (.goto 6, 3) := by decide +kernel
theorem dL_kinks_12 : decode cL_kinks 12 = .ok (.astore_n 3, 1) := by decide +kernel
theorem dL_kinks_13 : decode cL_kinks 13 = .ok (.iconst 1, 1) := by decide +kernel
theorem dL_kinks_14 : decode cL_kinks 14 = .ok (.ireturn, 1) := by decide +kernel
theorem dL_kinks_15 : decode cL_kinks 15 = .ok (.iconst 0, 1) := by decide +kernel
theorem dL_kinks_16 : decode cL_kinks 16 = .ok (.ireturn, 1) := by decide +kernel
theorem g_L_kinks_0 {w : Nat} {x0 x1 x3 : Option Value} : Gp S N hp ML_kinks T 0 [x0, x1, some (.ref w), x3] [] I J P ↔ Gp S N hp ML_kinks T 1 [x0, x1, some (.ref w), x3] [.ref w] I J P := gp_lod (len := 1) rfl rfl rfl rfl dL_kinks_0
theorem g_L_kinks_1 {v0 : Nat} {x0 x1 x2 x3 : Option Value} : Gp S N hp ML_kinks T 1 [x0, x1, x2, x3] [.ref v0] I J P ↔ Gp S N hp ML_kinks T 2 [x0, x1, x2, x3] [.int 0, .ref v0] I J P := gp_iconst (by decide) dL_kinks_1
theorem g_L_kinks_2 {v0 : Int32} {v1 : Nat} {w : Nat} {x1 x2 x3 : Option Value} : Gp S N hp ML_kinks T 2 [some (.ref w), x1, x2, x3] [.int v0, .ref v1] I J P ↔ Gp S N hp ML_kinks T 3 [some (.ref w), x1, x2, x3] [.ref w, .int v0, .ref v1] I J P := gp_lod (len := 1) rfl rfl rfl rfl dL_kinks_2
theorem g_L_kinks_3 {v0 : Nat} {v1 : Int32} {v2 : Nat} {w : Int32} {x0 x2 x3 : Option Value} : Gp S N hp ML_kinks T 3 [x0, some (.int w), x2, x3] [.ref v0, .int v1, .ref v2] I J P ↔ Gp S N hp ML_kinks T 4 [x0, some (.int w), x2, x3] [.int w, .ref v0, .int v1, .ref v2] I J P := gp_lod (len := 1) rfl rfl rfl rfl dL_kinks_3
theorem gs_L_kinks_4 {v0 : Int32} {v1 : Nat} {v2 : Int32} {v3 : Nat} {x0 x1 x2 x3 : Option Value} (h : T 4 [x0, x1, x2, x3] [.int v0, .ref v1, .int v2, .ref v3] I J P) : Gp S N hp ML_kinks T 4 [x0, x1, x2, x3] [.int v0, .ref v1, .int v2, .ref v3] I J P := gp_stop dL_kinks_4 (Or.inr (Or.inl rfl)) h
theorem g_L_kinks_7 {v0 : Int32} {v1 : Int32} {v2 : Nat} {x0 x1 x2 x3 : Option Value} : Gp S N hp ML_kinks T 7 [x0, x1, x2, x3] [.int v0, .int v1, .ref v2] I J P ↔ Gp S N hp ML_kinks T 8 [x0, x1, x2, x3] [.long v0.toInt64, .int v1, .ref v2] I J P := gp_alu (len := 1) rfl rfl rfl dL_kinks_7
theorem g_L_kinks_8 {v0 : Int64} {v1 : Int32} {v2 : Nat} {x0 x1 x2 x3 : Option Value} : Gp S N true ML_kinks T 8 [x0, x1, x2, x3] [.long v0, .int v1, .ref v2] I J P ↔ (S v2 = 11 ∧ vp_in v1 (N v2)) ∧ Gp S N true ML_kinks T 9 [x0, x1, x2, x3] [] I (u2 J v2 v1.toNatClampNeg v0) P := gp_ast rfl rfl dL_kinks_8
theorem g_L_kinks_9  {x0 x1 x2 x3 : Option Value} : Gp S N hp ML_kinks T 9 [x0, x1, x2, x3] [] I J P ↔ Gp S N hp ML_kinks T 15 [x0, x1, x2, x3] [] I J P := gp_go (len := 3) rfl (fun _ _ => rfl) rfl (by decide) dL_kinks_9
theorem g_L_kinks_12 {v0 : Nat} {x0 x1 x2 x3 : Option Value} : Gp S N hp ML_kinks T 12 [x0, x1, x2, x3] [.ref v0] I J P ↔ Gp S N hp ML_kinks T 13 [x0, x1, kl x2, some (.ref v0)] [] I J P := gp_sto (len := 1) rfl rfl rfl rfl (Nat.le_of_ble_eq_true rfl) rfl dL_kinks_12
theorem g_L_kinks_13  {x0 x1 x2 x3 : Option Value} : Gp S N hp ML_kinks T 13 [x0, x1, x2, x3] [] I J P ↔ Gp S N hp ML_kinks T 14 [x0, x1, x2, x3] [.int 1] I J P := gp_iconst (by decide) dL_kinks_13
theorem gs_L_kinks_14 {v0 : Int32} {x0 x1 x2 x3 : Option Value} (h : T 14 [x0, x1, x2, x3] [.int v0] I J P) : Gp S N hp ML_kinks T 14 [x0, x1, x2, x3] [.int v0] I J P := gp_stop dL_kinks_14 (Or.inl rfl) h
theorem g_L_kinks_15  {x0 x1 x2 x3 : Option Value} : Gp S N hp ML_kinks T 15 [x0, x1, x2, x3] [] I J P ↔ Gp S N hp ML_kinks T 16 [x0, x1, x2, x3] [.int 0] I J P := gp_iconst (by decide) dL_kinks_15
theorem gs_L_kinks_16 {v0 : Int32} {x0 x1 x2 x3 : Option Value} (h : T 16 [x0, x1, x2, x3] [.int v0] I J P) : Gp S N hp ML_kinks T 16 [x0, x1, x2, x3] [.int v0] I J P := gp_stop dL_kinks_16 (Or.inl rfl) h
theorem dL_nextKink_0 : decode cL_nextKink 0 = .ok (.aload_n 3, 1) := by decide +kernel
theorem dL_nextKink_1 : decode cL_nextKink 1 = .ok (.iconst 0, 1) := by decide +kernel
theorem dL_nextKink_2 : decode cL_nextKink 2 = .ok (.aload_n 0, 1) := by decide +kernel
theorem dL_nextKink_3 : decode cL_nextKink 3 = .ok (.iload_n 1, 1) := by decide +kernel
theorem dL_nextKink_4 : decode cL_nextKink 4 = .ok (.iload_n 2, 1) := by decide +kernel
theorem dL_nextKink_5 : decode cL_nextKink 5 = .ok (.invokevirtual 101, 3) := by decide +kernel
theorem dL_nextKink_8 : decode cL_nextKink 8 = .ok (.i2l, 1) := by decide +kernel
theorem dL_nextKink_9 : decode cL_nextKink 9 = .ok (.lastore, 1) := by decide +kernel
theorem dL_nextKink_10 : decode cL_nextKink 10 = .ok (.goto 11, 3) := by decide +kernel
theorem dL_nextKink_13 : decode cL_nextKink 13 = .ok (.astore 4, 2) := by decide +kernel
theorem dL_nextKink_15 : decode cL_nextKink 15 = .ok (.iconst 1, 1) := by decide +kernel
theorem dL_nextKink_16 : decode cL_nextKink 16 = .ok (.ireturn, 1) := by decide +kernel
theorem dL_nextKink_17 : decode cL_nextKink 17 = .ok (.astore 4, 2) := by decide +kernel
theorem dL_nextKink_19 : decode cL_nextKink 19 = .ok (.iconst 2, 1) := by decide +kernel
theorem dL_nextKink_20 : decode cL_nextKink 20 = .ok (.ireturn, 1) := by decide +kernel
theorem dL_nextKink_21 : decode cL_nextKink 21 = .ok (.iconst 0, 1) := by decide +kernel
theorem dL_nextKink_22 : decode cL_nextKink 22 = .ok (.ireturn, 1) := by decide +kernel
theorem g_L_nextKink_0 {w : Nat} {x0 x1 x2 x4 : Option Value} : Gp S N hp ML_nextKink T 0 [x0, x1, x2, some (.ref w), x4] [] I J P ↔ Gp S N hp ML_nextKink T 1 [x0, x1, x2, some (.ref w), x4] [.ref w] I J P := gp_lod (len := 1) rfl rfl rfl rfl dL_nextKink_0
theorem g_L_nextKink_1 {v0 : Nat} {x0 x1 x2 x3 x4 : Option Value} : Gp S N hp ML_nextKink T 1 [x0, x1, x2, x3, x4] [.ref v0] I J P ↔ Gp S N hp ML_nextKink T 2 [x0, x1, x2, x3, x4] [.int 0, .ref v0] I J P := gp_iconst (by decide) dL_nextKink_1
theorem g_L_nextKink_2 {v0 : Int32} {v1 : Nat} {w : Nat} {x1 x2 x3 x4 : Option Value} : Gp S N hp ML_nextKink T 2 [some (.ref w), x1, x2, x3, x4] [.int v0, .ref v1] I J P ↔ Gp S N hp ML_nextKink T 3 [some (.ref w), x1, x2, x3, x4] [.ref w, .int v0, .ref v1] I J P := gp_lod (len := 1) rfl rfl rfl rfl dL_nextKink_2
theorem g_L_nextKink_3 {v0 : Nat} {v1 : Int32} {v2 : Nat} {w : Int32} {x0 x2 x3 x4 : Option Value} : Gp S N hp ML_nextKink T 3 [x0, some (.int w), x2, x3, x4] [.ref v0, .int v1, .ref v2] I J P ↔ Gp S N hp ML_nextKink T 4 [x0, some (.int w), x2, x3, x4] [.int w, .ref v0, .int v1, .ref v2] I J P := gp_lod (len := 1) rfl rfl rfl rfl dL_nextKink_3
theorem g_L_nextKink_4 {v0 : Int32} {v1 : Nat} {v2 : Int32} {v3 : Nat} {w : Int32} {x0 x1 x3 x4 : Option Value} : Gp S N hp ML_nextKink T 4 [x0, x1, some (.int w), x3, x4] [.int v0, .ref v1, .int v2, .ref v3] I J P ↔ Gp S N hp ML_nextKink T 5 [x0, x1, some (.int w), x3, x4] [.int w, .int v0, .ref v1, .int v2, .ref v3] I J P := gp_lod (len := 1) rfl rfl rfl rfl dL_nextKink_4
theorem gs_L_nextKink_5 {v0 : Int32} {v1 : Int32} {v2 : Nat} {v3 : Int32} {v4 : Nat} {x0 x1 x2 x3 x4 : Option Value} (h : T 5 [x0, x1, x2, x3, x4] [.int v0, .int v1, .ref v2, .int v3, .ref v4] I J P) : Gp S N hp ML_nextKink T 5 [x0, x1, x2, x3, x4] [.int v0, .int v1, .ref v2, .int v3, .ref v4] I J P := gp_stop dL_nextKink_5 (Or.inr (Or.inl rfl)) h
theorem g_L_nextKink_8 {v0 : Int32} {v1 : Int32} {v2 : Nat} {x0 x1 x2 x3 x4 : Option Value} : Gp S N hp ML_nextKink T 8 [x0, x1, x2, x3, x4] [.int v0, .int v1, .ref v2] I J P ↔ Gp S N hp ML_nextKink T 9 [x0, x1, x2, x3, x4] [.long v0.toInt64, .int v1, .ref v2] I J P := gp_alu (len := 1) rfl rfl rfl dL_nextKink_8
theorem g_L_nextKink_9 {v0 : Int64} {v1 : Int32} {v2 : Nat} {x0 x1 x2 x3 x4 : Option Value} : Gp S N true ML_nextKink T 9 [x0, x1, x2, x3, x4] [.long v0, .int v1, .ref v2] I J P ↔ (S v2 = 11 ∧ vp_in v1 (N v2)) ∧ Gp S N true ML_nextKink T 10 [x0, x1, x2, x3, x4] [] I (u2 J v2 v1.toNatClampNeg v0) P := gp_ast rfl rfl dL_nextKink_9
theorem g_L_nextKink_10  {x0 x1 x2 x3 x4 : Option Value} : Gp S N hp ML_nextKink T 10 [x0, x1, x2, x3, x4] [] I J P ↔ Gp S N hp ML_nextKink T 21 [x0, x1, x2, x3, x4] [] I J P := gp_go (len := 3) rfl (fun _ _ => rfl) rfl (by decide) dL_nextKink_10
theorem g_L_nextKink_13 {v0 : Nat} {x0 x1 x2 x3 x4 : Option Value} : Gp S N hp ML_nextKink T 13 [x0, x1, x2, x3, x4] [.ref v0] I J P ↔ Gp S N hp ML_nextKink T 15 [x0, x1, x2, kl x3, some (.ref v0)] [] I J P := gp_sto (len := 2) rfl rfl rfl rfl (Nat.le_of_ble_eq_true rfl) rfl dL_nextKink_13
theorem g_L_nextKink_15  {x0 x1 x2 x3 x4 : Option Value} : Gp S N hp ML_nextKink T 15 [x0, x1, x2, x3, x4] [] I J P ↔ Gp S N hp ML_nextKink T 16 [x0, x1, x2, x3, x4] [.int 1] I J P := gp_iconst (by decide) dL_nextKink_15
theorem gs_L_nextKink_16 {v0 : Int32} {x0 x1 x2 x3 x4 : Option Value} (h : T 16 [x0, x1, x2, x3, x4] [.int v0] I J P) : Gp S N hp ML_nextKink T 16 [x0, x1, x2, x3, x4] [.int v0] I J P := gp_stop dL_nextKink_16 (Or.inl rfl) h
theorem g_L_nextKink_17 {v0 : Nat} {x0 x1 x2 x3 x4 : Option Value} : Gp S N hp ML_nextKink T 17 [x0, x1, x2, x3, x4] [.ref v0] I J P ↔ Gp S N hp ML_nextKink T 19 [x0, x1, x2, kl x3, some (.ref v0)] [] I J P := gp_sto (len := 2) rfl rfl rfl rfl (Nat.le_of_ble_eq_true rfl) rfl dL_nextKink_17
theorem g_L_nextKink_19  {x0 x1 x2 x3 x4 : Option Value} : Gp S N hp ML_nextKink T 19 [x0, x1, x2, x3, x4] [] I J P ↔ Gp S N hp ML_nextKink T 20 [x0, x1, x2, x3, x4] [.int 2] I J P := gp_iconst (by decide) dL_nextKink_19
theorem gs_L_nextKink_20 {v0 : Int32} {x0 x1 x2 x3 x4 : Option Value} (h : T 20 [x0, x1, x2, x3, x4] [.int v0] I J P) : Gp S N hp ML_nextKink T 20 [x0, x1, x2, x3, x4] [.int v0] I J P := gp_stop dL_nextKink_20 (Or.inl rfl) h
theorem g_L_nextKink_21  {x0 x1 x2 x3 x4 : Option Value} : Gp S N hp ML_nextKink T 21 [x0, x1, x2, x3, x4] [] I J P ↔ Gp S N hp ML_nextKink T 22 [x0, x1, x2, x3, x4] [.int 0] I J P := gp_iconst (by decide) dL_nextKink_21
theorem gs_L_nextKink_22 {v0 : Int32} {x0 x1 x2 x3 x4 : Option Value} (h : T 22 [x0, x1, x2, x3, x4] [.int v0] I J P) : Gp S N hp ML_nextKink T 22 [x0, x1, x2, x3, x4] [.int v0] I J P := gp_stop dL_nextKink_22 (Or.inl rfl) h
theorem dL_kinkCause_0 : decode cL_kinkCause 0 = .ok (.aload_n 3, 1) := by decide +kernel
theorem dL_kinkCause_1 : decode cL_kinkCause 1 = .ok (.iconst 0, 1) := by decide +kernel
theorem dL_kinkCause_2 : decode cL_kinkCause 2 = .ok (.aload_n 0, 1) := by decide +kernel
theorem dL_kinkCause_3 : decode cL_kinkCause 3 = .ok (.iload_n 1, 1) := by decide +kernel
theorem dL_kinkCause_4 : decode cL_kinkCause 4 = .ok (.iload_n 2, 1) := by decide +kernel
theorem dL_kinkCause_5 : decode cL_kinkCause 5 = .ok (.invokevirtual 104, 3) := by decide +kernel
theorem dL_kinkCause_8 : decode cL_kinkCause 8 = .ok (.i2l, 1) := by decide +kernel
theorem dL_kinkCause_9 : decode cL_kinkCause 9 = .ok (.lastore, 1) := by decide +kernel
theorem dL_kinkCause_10 : decode cL_kinkCause 10 = .ok (.goto 11, 3) := by decide +kernel
theorem dL_kinkCause_13 : decode cL_kinkCause 13 = .ok (.astore 4, 2) := by decide +kernel
theorem dL_kinkCause_15 : decode cL_kinkCause 15 = .ok (.iconst 1, 1) := by decide +kernel
theorem dL_kinkCause_16 : decode cL_kinkCause 16 = .ok (.ireturn, 1) := by decide +kernel
theorem dL_kinkCause_17 : decode cL_kinkCause 17 = .ok (.astore 4, 2) := by decide +kernel
theorem dL_kinkCause_19 : decode cL_kinkCause 19 = .ok (.iconst 2, 1) := by decide +kernel
theorem dL_kinkCause_20 : decode cL_kinkCause 20 = .ok (.ireturn, 1) := by decide +kernel
theorem dL_kinkCause_21 : decode cL_kinkCause 21 = .ok (.iconst 0, 1) := by decide +kernel
theorem dL_kinkCause_22 : decode cL_kinkCause 22 = .ok (.ireturn, 1) := by decide +kernel
theorem g_L_kinkCause_0 {w : Nat} {x0 x1 x2 x4 : Option Value} : Gp S N hp ML_kinkCause T 0 [x0, x1, x2, some (.ref w), x4] [] I J P ↔ Gp S N hp ML_kinkCause T 1 [x0, x1, x2, some (.ref w), x4] [.ref w] I J P := gp_lod (len := 1) rfl rfl rfl rfl dL_kinkCause_0
theorem g_L_kinkCause_1 {v0 : Nat} {x0 x1 x2 x3 x4 : Option Value} : Gp S N hp ML_kinkCause T 1 [x0, x1, x2, x3, x4] [.ref v0] I J P ↔ Gp S N hp ML_kinkCause T 2 [x0, x1, x2, x3, x4] [.int 0, .ref v0] I J P := gp_iconst (by decide) dL_kinkCause_1
theorem g_L_kinkCause_2 {v0 : Int32} {v1 : Nat} {w : Nat} {x1 x2 x3 x4 : Option Value} : Gp S N hp ML_kinkCause T 2 [some (.ref w), x1, x2, x3, x4] [.int v0, .ref v1] I J P ↔ Gp S N hp ML_kinkCause T 3 [some (.ref w), x1, x2, x3, x4] [.ref w, .int v0, .ref v1] I J P := gp_lod (len := 1) rfl rfl rfl rfl dL_kinkCause_2
theorem g_L_kinkCause_3 {v0 : Nat} {v1 : Int32} {v2 : Nat} {w : Int32} {x0 x2 x3 x4 : Option Value} : Gp S N hp ML_kinkCause T 3 [x0, some (.int w), x2, x3, x4] [.ref v0, .int v1, .ref v2] I J P ↔ Gp S N hp ML_kinkCause T 4 [x0, some (.int w), x2, x3, x4] [.int w, .ref v0, .int v1, .ref v2] I J P := gp_lod (len := 1) rfl rfl rfl rfl dL_kinkCause_3
theorem g_L_kinkCause_4 {v0 : Int32} {v1 : Nat} {v2 : Int32} {v3 : Nat} {w : Int32} {x0 x1 x3 x4 : Option Value} : Gp S N hp ML_kinkCause T 4 [x0, x1, some (.int w), x3, x4] [.int v0, .ref v1, .int v2, .ref v3] I J P ↔ Gp S N hp ML_kinkCause T 5 [x0, x1, some (.int w), x3, x4] [.int w, .int v0, .ref v1, .int v2, .ref v3] I J P := gp_lod (len := 1) rfl rfl rfl rfl dL_kinkCause_4
theorem gs_L_kinkCause_5 {v0 : Int32} {v1 : Int32} {v2 : Nat} {v3 : Int32} {v4 : Nat} {x0 x1 x2 x3 x4 : Option Value} (h : T 5 [x0, x1, x2, x3, x4] [.int v0, .int v1, .ref v2, .int v3, .ref v4] I J P) : Gp S N hp ML_kinkCause T 5 [x0, x1, x2, x3, x4] [.int v0, .int v1, .ref v2, .int v3, .ref v4] I J P := gp_stop dL_kinkCause_5 (Or.inr (Or.inl rfl)) h
theorem g_L_kinkCause_8 {v0 : Int32} {v1 : Int32} {v2 : Nat} {x0 x1 x2 x3 x4 : Option Value} : Gp S N hp ML_kinkCause T 8 [x0, x1, x2, x3, x4] [.int v0, .int v1, .ref v2] I J P ↔ Gp S N hp ML_kinkCause T 9 [x0, x1, x2, x3, x4] [.long v0.toInt64, .int v1, .ref v2] I J P := gp_alu (len := 1) rfl rfl rfl dL_kinkCause_8
theorem g_L_kinkCause_9 {v0 : Int64} {v1 : Int32} {v2 : Nat} {x0 x1 x2 x3 x4 : Option Value} : Gp S N true ML_kinkCause T 9 [x0, x1, x2, x3, x4] [.long v0, .int v1, .ref v2] I J P ↔ (S v2 = 11 ∧ vp_in v1 (N v2)) ∧ Gp S N true ML_kinkCause T 10 [x0, x1, x2, x3, x4] [] I (u2 J v2 v1.toNatClampNeg v0) P := gp_ast rfl rfl dL_kinkCause_9
theorem g_L_kinkCause_10  {x0 x1 x2 x3 x4 : Option Value} : Gp S N hp ML_kinkCause T 10 [x0, x1, x2, x3, x4] [] I J P ↔ Gp S N hp ML_kinkCause T 21 [x0, x1, x2, x3, x4] [] I J P := gp_go (len := 3) rfl (fun _ _ => rfl) rfl (by decide) dL_kinkCause_10
theorem g_L_kinkCause_13 {v0 : Nat} {x0 x1 x2 x3 x4 : Option Value} : Gp S N hp ML_kinkCause T 13 [x0, x1, x2, x3, x4] [.ref v0] I J P ↔ Gp S N hp ML_kinkCause T 15 [x0, x1, x2, kl x3, some (.ref v0)] [] I J P := gp_sto (len := 2) rfl rfl rfl rfl (Nat.le_of_ble_eq_true rfl) rfl dL_kinkCause_13
theorem g_L_kinkCause_15  {x0 x1 x2 x3 x4 : Option Value} : Gp S N hp ML_kinkCause T 15 [x0, x1, x2, x3, x4] [] I J P ↔ Gp S N hp ML_kinkCause T 16 [x0, x1, x2, x3, x4] [.int 1] I J P := gp_iconst (by decide) dL_kinkCause_15
theorem gs_L_kinkCause_16 {v0 : Int32} {x0 x1 x2 x3 x4 : Option Value} (h : T 16 [x0, x1, x2, x3, x4] [.int v0] I J P) : Gp S N hp ML_kinkCause T 16 [x0, x1, x2, x3, x4] [.int v0] I J P := gp_stop dL_kinkCause_16 (Or.inl rfl) h
theorem g_L_kinkCause_17 {v0 : Nat} {x0 x1 x2 x3 x4 : Option Value} : Gp S N hp ML_kinkCause T 17 [x0, x1, x2, x3, x4] [.ref v0] I J P ↔ Gp S N hp ML_kinkCause T 19 [x0, x1, x2, kl x3, some (.ref v0)] [] I J P := gp_sto (len := 2) rfl rfl rfl rfl (Nat.le_of_ble_eq_true rfl) rfl dL_kinkCause_17
theorem g_L_kinkCause_19  {x0 x1 x2 x3 x4 : Option Value} : Gp S N hp ML_kinkCause T 19 [x0, x1, x2, x3, x4] [] I J P ↔ Gp S N hp ML_kinkCause T 20 [x0, x1, x2, x3, x4] [.int 2] I J P := gp_iconst (by decide) dL_kinkCause_19
theorem gs_L_kinkCause_20 {v0 : Int32} {x0 x1 x2 x3 x4 : Option Value} (h : T 20 [x0, x1, x2, x3, x4] [.int v0] I J P) : Gp S N hp ML_kinkCause T 20 [x0, x1, x2, x3, x4] [.int v0] I J P := gp_stop dL_kinkCause_20 (Or.inl rfl) h
theorem g_L_kinkCause_21  {x0 x1 x2 x3 x4 : Option Value} : Gp S N hp ML_kinkCause T 21 [x0, x1, x2, x3, x4] [] I J P ↔ Gp S N hp ML_kinkCause T 22 [x0, x1, x2, x3, x4] [.int 0] I J P := gp_iconst (by decide) dL_kinkCause_21
theorem gs_L_kinkCause_22 {v0 : Int32} {x0 x1 x2 x3 x4 : Option Value} (h : T 22 [x0, x1, x2, x3, x4] [.int v0] I J P) : Gp S N hp ML_kinkCause T 22 [x0, x1, x2, x3, x4] [.int v0] I J P := gp_stop dL_kinkCause_22 (Or.inl rfl) h
theorem dL_steepest_0 : decode cL_steepest 0 = .ok (.aload_n 2, 1) := by decide +kernel
theorem dL_steepest_1 : decode cL_steepest 1 = .ok (.iconst 0, 1) := by decide +kernel
theorem dL_steepest_2 : decode cL_steepest 2 = .ok (.aload_n 0, 1) := by decide +kernel
theorem dL_steepest_3 : decode cL_steepest 3 = .ok (.iload_n 1, 1) := by decide +kernel
theorem dL_steepest_4 : decode cL_steepest 4 = .ok (.invokevirtual 107, 3) := by decide +kernel
theorem dL_steepest_7 : decode cL_steepest 7 = .ok (.i2l, 1) := by decide +kernel
theorem dL_steepest_8 : decode cL_steepest 8 = .ok (.lastore, 1) := by decide +kernel
theorem dL_steepest_9 : decode cL_steepest 9 = .ok (.goto 6, 3) := by decide +kernel
theorem dL_steepest_12 : decode cL_steepest 12 = .ok (.astore_n 3, 1) := by decide +kernel
theorem dL_steepest_13 : decode cL_steepest 13 = .ok (.iconst 1, 1) := by decide +kernel
theorem dL_steepest_14 : decode cL_steepest 14 = .ok (.ireturn, 1) := by decide +kernel
theorem dL_steepest_15 : decode cL_steepest 15 = .ok (.iconst 0, 1) := by decide +kernel
theorem dL_steepest_16 : decode cL_steepest 16 = .ok (.ireturn, 1) := by decide +kernel
theorem g_L_steepest_0 {w : Nat} {x0 x1 x3 : Option Value} : Gp S N hp ML_steepest T 0 [x0, x1, some (.ref w), x3] [] I J P ↔ Gp S N hp ML_steepest T 1 [x0, x1, some (.ref w), x3] [.ref w] I J P := gp_lod (len := 1) rfl rfl rfl rfl dL_steepest_0
theorem g_L_steepest_1 {v0 : Nat} {x0 x1 x2 x3 : Option Value} : Gp S N hp ML_steepest T 1 [x0, x1, x2, x3] [.ref v0] I J P ↔ Gp S N hp ML_steepest T 2 [x0, x1, x2, x3] [.int 0, .ref v0] I J P := gp_iconst (by decide) dL_steepest_1
theorem g_L_steepest_2 {v0 : Int32} {v1 : Nat} {w : Nat} {x1 x2 x3 : Option Value} : Gp S N hp ML_steepest T 2 [some (.ref w), x1, x2, x3] [.int v0, .ref v1] I J P ↔ Gp S N hp ML_steepest T 3 [some (.ref w), x1, x2, x3] [.ref w, .int v0, .ref v1] I J P := gp_lod (len := 1) rfl rfl rfl rfl dL_steepest_2
theorem g_L_steepest_3 {v0 : Nat} {v1 : Int32} {v2 : Nat} {w : Int32} {x0 x2 x3 : Option Value} : Gp S N hp ML_steepest T 3 [x0, some (.int w), x2, x3] [.ref v0, .int v1, .ref v2] I J P ↔ Gp S N hp ML_steepest T 4 [x0, some (.int w), x2, x3] [.int w, .ref v0, .int v1, .ref v2] I J P := gp_lod (len := 1) rfl rfl rfl rfl dL_steepest_3
theorem gs_L_steepest_4 {v0 : Int32} {v1 : Nat} {v2 : Int32} {v3 : Nat} {x0 x1 x2 x3 : Option Value} (h : T 4 [x0, x1, x2, x3] [.int v0, .ref v1, .int v2, .ref v3] I J P) : Gp S N hp ML_steepest T 4 [x0, x1, x2, x3] [.int v0, .ref v1, .int v2, .ref v3] I J P := gp_stop dL_steepest_4 (Or.inr (Or.inl rfl)) h
theorem g_L_steepest_7 {v0 : Int32} {v1 : Int32} {v2 : Nat} {x0 x1 x2 x3 : Option Value} : Gp S N hp ML_steepest T 7 [x0, x1, x2, x3] [.int v0, .int v1, .ref v2] I J P ↔ Gp S N hp ML_steepest T 8 [x0, x1, x2, x3] [.long v0.toInt64, .int v1, .ref v2] I J P := gp_alu (len := 1) rfl rfl rfl dL_steepest_7
theorem g_L_steepest_8 {v0 : Int64} {v1 : Int32} {v2 : Nat} {x0 x1 x2 x3 : Option Value} : Gp S N true ML_steepest T 8 [x0, x1, x2, x3] [.long v0, .int v1, .ref v2] I J P ↔ (S v2 = 11 ∧ vp_in v1 (N v2)) ∧ Gp S N true ML_steepest T 9 [x0, x1, x2, x3] [] I (u2 J v2 v1.toNatClampNeg v0) P := gp_ast rfl rfl dL_steepest_8
theorem g_L_steepest_9  {x0 x1 x2 x3 : Option Value} : Gp S N hp ML_steepest T 9 [x0, x1, x2, x3] [] I J P ↔ Gp S N hp ML_steepest T 15 [x0, x1, x2, x3] [] I J P := gp_go (len := 3) rfl (fun _ _ => rfl) rfl (by decide) dL_steepest_9
theorem g_L_steepest_12 {v0 : Nat} {x0 x1 x2 x3 : Option Value} : Gp S N hp ML_steepest T 12 [x0, x1, x2, x3] [.ref v0] I J P ↔ Gp S N hp ML_steepest T 13 [x0, x1, kl x2, some (.ref v0)] [] I J P := gp_sto (len := 1) rfl rfl rfl rfl (Nat.le_of_ble_eq_true rfl) rfl dL_steepest_12
theorem g_L_steepest_13  {x0 x1 x2 x3 : Option Value} : Gp S N hp ML_steepest T 13 [x0, x1, x2, x3] [] I J P ↔ Gp S N hp ML_steepest T 14 [x0, x1, x2, x3] [.int 1] I J P := gp_iconst (by decide) dL_steepest_13
theorem gs_L_steepest_14 {v0 : Int32} {x0 x1 x2 x3 : Option Value} (h : T 14 [x0, x1, x2, x3] [.int v0] I J P) : Gp S N hp ML_steepest T 14 [x0, x1, x2, x3] [.int v0] I J P := gp_stop dL_steepest_14 (Or.inl rfl) h
theorem g_L_steepest_15  {x0 x1 x2 x3 : Option Value} : Gp S N hp ML_steepest T 15 [x0, x1, x2, x3] [] I J P ↔ Gp S N hp ML_steepest T 16 [x0, x1, x2, x3] [.int 0] I J P := gp_iconst (by decide) dL_steepest_15
theorem gs_L_steepest_16 {v0 : Int32} {x0 x1 x2 x3 : Option Value} (h : T 16 [x0, x1, x2, x3] [.int v0] I J P) : Gp S N hp ML_steepest T 16 [x0, x1, x2, x3] [.int v0] I J P := gp_stop dL_steepest_16 (Or.inl rfl) h
theorem dL_averageRate_0 : decode cL_averageRate 0 = .ok (.aload_n 2, 1) := by decide +kernel
theorem dL_averageRate_1 : decode cL_averageRate 1 = .ok (.iconst 0, 1) := by decide +kernel
theorem dL_averageRate_2 : decode cL_averageRate 2 = .ok (.aload_n 0, 1) := by decide +kernel
theorem dL_averageRate_3 : decode cL_averageRate 3 = .ok (.iload_n 1, 1) := by decide +kernel
theorem dL_averageRate_4 : decode cL_averageRate 4 = .ok (.invokevirtual 110, 3) := by decide +kernel
theorem dL_averageRate_7 : decode cL_averageRate 7 = .ok (.dastore, 1) := by decide +kernel
theorem dL_averageRate_8 : decode cL_averageRate 8 = .ok (.goto 9, 3) := by decide +kernel
theorem dL_averageRate_11 : decode cL_averageRate 11 = .ok (.astore_n 3, 1) := by decide +kernel
theorem dL_averageRate_12 : decode cL_averageRate 12 = .ok (.iconst 1, 1) := by decide +kernel
theorem dL_averageRate_13 : decode cL_averageRate 13 = .ok (.ireturn, 1) := by decide +kernel
theorem dL_averageRate_14 : decode cL_averageRate 14 = .ok (.astore_n 3, 1) := by decide +kernel
theorem dL_averageRate_15 : decode cL_averageRate 15 = .ok (.iconst 2, 1) := by decide +kernel
theorem dL_averageRate_16 : decode cL_averageRate 16 = .ok (.ireturn, 1) := by decide +kernel
theorem dL_averageRate_17 : decode cL_averageRate 17 = .ok (.iconst 0, 1) := by decide +kernel
theorem dL_averageRate_18 : decode cL_averageRate 18 = .ok (.ireturn, 1) := by decide +kernel
theorem g_L_averageRate_0 {w : Nat} {x0 x1 x3 : Option Value} : Gp S N hp ML_averageRate T 0 [x0, x1, some (.ref w), x3] [] I J P ↔ Gp S N hp ML_averageRate T 1 [x0, x1, some (.ref w), x3] [.ref w] I J P := gp_lod (len := 1) rfl rfl rfl rfl dL_averageRate_0
theorem g_L_averageRate_1 {v0 : Nat} {x0 x1 x2 x3 : Option Value} : Gp S N hp ML_averageRate T 1 [x0, x1, x2, x3] [.ref v0] I J P ↔ Gp S N hp ML_averageRate T 2 [x0, x1, x2, x3] [.int 0, .ref v0] I J P := gp_iconst (by decide) dL_averageRate_1
theorem g_L_averageRate_2 {v0 : Int32} {v1 : Nat} {w : Nat} {x1 x2 x3 : Option Value} : Gp S N hp ML_averageRate T 2 [some (.ref w), x1, x2, x3] [.int v0, .ref v1] I J P ↔ Gp S N hp ML_averageRate T 3 [some (.ref w), x1, x2, x3] [.ref w, .int v0, .ref v1] I J P := gp_lod (len := 1) rfl rfl rfl rfl dL_averageRate_2
theorem g_L_averageRate_3 {v0 : Nat} {v1 : Int32} {v2 : Nat} {w : Int32} {x0 x2 x3 : Option Value} : Gp S N hp ML_averageRate T 3 [x0, some (.int w), x2, x3] [.ref v0, .int v1, .ref v2] I J P ↔ Gp S N hp ML_averageRate T 4 [x0, some (.int w), x2, x3] [.int w, .ref v0, .int v1, .ref v2] I J P := gp_lod (len := 1) rfl rfl rfl rfl dL_averageRate_3
theorem gs_L_averageRate_4 {v0 : Int32} {v1 : Nat} {v2 : Int32} {v3 : Nat} {x0 x1 x2 x3 : Option Value} (h : T 4 [x0, x1, x2, x3] [.int v0, .ref v1, .int v2, .ref v3] I J P) : Gp S N hp ML_averageRate T 4 [x0, x1, x2, x3] [.int v0, .ref v1, .int v2, .ref v3] I J P := gp_stop dL_averageRate_4 (Or.inr (Or.inl rfl)) h
theorem g_L_averageRate_11 {v0 : Nat} {x0 x1 x2 x3 : Option Value} : Gp S N hp ML_averageRate T 11 [x0, x1, x2, x3] [.ref v0] I J P ↔ Gp S N hp ML_averageRate T 12 [x0, x1, kl x2, some (.ref v0)] [] I J P := gp_sto (len := 1) rfl rfl rfl rfl (Nat.le_of_ble_eq_true rfl) rfl dL_averageRate_11
theorem g_L_averageRate_12  {x0 x1 x2 x3 : Option Value} : Gp S N hp ML_averageRate T 12 [x0, x1, x2, x3] [] I J P ↔ Gp S N hp ML_averageRate T 13 [x0, x1, x2, x3] [.int 1] I J P := gp_iconst (by decide) dL_averageRate_12
theorem gs_L_averageRate_13 {v0 : Int32} {x0 x1 x2 x3 : Option Value} (h : T 13 [x0, x1, x2, x3] [.int v0] I J P) : Gp S N hp ML_averageRate T 13 [x0, x1, x2, x3] [.int v0] I J P := gp_stop dL_averageRate_13 (Or.inl rfl) h
theorem g_L_averageRate_14 {v0 : Nat} {x0 x1 x2 x3 : Option Value} : Gp S N hp ML_averageRate T 14 [x0, x1, x2, x3] [.ref v0] I J P ↔ Gp S N hp ML_averageRate T 15 [x0, x1, kl x2, some (.ref v0)] [] I J P := gp_sto (len := 1) rfl rfl rfl rfl (Nat.le_of_ble_eq_true rfl) rfl dL_averageRate_14
theorem g_L_averageRate_15  {x0 x1 x2 x3 : Option Value} : Gp S N hp ML_averageRate T 15 [x0, x1, x2, x3] [] I J P ↔ Gp S N hp ML_averageRate T 16 [x0, x1, x2, x3] [.int 2] I J P := gp_iconst (by decide) dL_averageRate_15
theorem gs_L_averageRate_16 {v0 : Int32} {x0 x1 x2 x3 : Option Value} (h : T 16 [x0, x1, x2, x3] [.int v0] I J P) : Gp S N hp ML_averageRate T 16 [x0, x1, x2, x3] [.int v0] I J P := gp_stop dL_averageRate_16 (Or.inl rfl) h
theorem dL_undo_0 : decode cL_undo 0 = .ok (.aload_n 1, 1) := by decide +kernel
theorem dL_undo_1 : decode cL_undo 1 = .ok (.iconst 0, 1) := by decide +kernel
theorem dL_undo_2 : decode cL_undo 2 = .ok (.aload_n 0, 1) := by decide +kernel
theorem dL_undo_3 : decode cL_undo 3 = .ok (.invokevirtual 116, 3) := by decide +kernel
theorem dL_undo_6 : decode cL_undo 6 = .ok (.i2l, 1) := by decide +kernel
theorem dL_undo_7 : decode cL_undo 7 = .ok (.lastore, 1) := by decide +kernel
theorem dL_undo_8 : decode cL_undo 8 = .ok (.goto 6, 3) := by decide +kernel
theorem dL_undo_11 : decode cL_undo 11 = .ok (.astore_n 2, 1) := by decide +kernel
theorem dL_undo_12 : decode cL_undo 12 = .ok (.iconst 1, 1) := by decide +kernel
theorem dL_undo_13 : decode cL_undo 13 = .ok (.ireturn, 1) := by decide +kernel
theorem dL_undo_14 : decode cL_undo 14 = .ok (.iconst 0, 1) := by decide +kernel
theorem dL_undo_15 : decode cL_undo 15 = .ok (.ireturn, 1) := by decide +kernel
theorem g_L_undo_0 {w : Nat} {x0 x2 : Option Value} : Gp S N hp ML_undo T 0 [x0, some (.ref w), x2] [] I J P ↔ Gp S N hp ML_undo T 1 [x0, some (.ref w), x2] [.ref w] I J P := gp_lod (len := 1) rfl rfl rfl rfl dL_undo_0
theorem g_L_undo_1 {v0 : Nat} {x0 x1 x2 : Option Value} : Gp S N hp ML_undo T 1 [x0, x1, x2] [.ref v0] I J P ↔ Gp S N hp ML_undo T 2 [x0, x1, x2] [.int 0, .ref v0] I J P := gp_iconst (by decide) dL_undo_1
theorem g_L_undo_2 {v0 : Int32} {v1 : Nat} {w : Nat} {x1 x2 : Option Value} : Gp S N hp ML_undo T 2 [some (.ref w), x1, x2] [.int v0, .ref v1] I J P ↔ Gp S N hp ML_undo T 3 [some (.ref w), x1, x2] [.ref w, .int v0, .ref v1] I J P := gp_lod (len := 1) rfl rfl rfl rfl dL_undo_2
theorem gs_L_undo_3 {v0 : Nat} {v1 : Int32} {v2 : Nat} {x0 x1 x2 : Option Value} (h : T 3 [x0, x1, x2] [.ref v0, .int v1, .ref v2] I J P) : Gp S N hp ML_undo T 3 [x0, x1, x2] [.ref v0, .int v1, .ref v2] I J P := gp_stop dL_undo_3 (Or.inr (Or.inl rfl)) h
theorem g_L_undo_6 {v0 : Int32} {v1 : Int32} {v2 : Nat} {x0 x1 x2 : Option Value} : Gp S N hp ML_undo T 6 [x0, x1, x2] [.int v0, .int v1, .ref v2] I J P ↔ Gp S N hp ML_undo T 7 [x0, x1, x2] [.long v0.toInt64, .int v1, .ref v2] I J P := gp_alu (len := 1) rfl rfl rfl dL_undo_6
theorem g_L_undo_7 {v0 : Int64} {v1 : Int32} {v2 : Nat} {x0 x1 x2 : Option Value} : Gp S N true ML_undo T 7 [x0, x1, x2] [.long v0, .int v1, .ref v2] I J P ↔ (S v2 = 11 ∧ vp_in v1 (N v2)) ∧ Gp S N true ML_undo T 8 [x0, x1, x2] [] I (u2 J v2 v1.toNatClampNeg v0) P := gp_ast rfl rfl dL_undo_7
theorem g_L_undo_8  {x0 x1 x2 : Option Value} : Gp S N hp ML_undo T 8 [x0, x1, x2] [] I J P ↔ Gp S N hp ML_undo T 14 [x0, x1, x2] [] I J P := gp_go (len := 3) rfl (fun _ _ => rfl) rfl (by decide) dL_undo_8
theorem g_L_undo_11 {v0 : Nat} {x0 x1 x2 : Option Value} : Gp S N hp ML_undo T 11 [x0, x1, x2] [.ref v0] I J P ↔ Gp S N hp ML_undo T 12 [x0, kl x1, some (.ref v0)] [] I J P := gp_sto (len := 1) rfl rfl rfl rfl (Nat.le_of_ble_eq_true rfl) rfl dL_undo_11
theorem g_L_undo_12  {x0 x1 x2 : Option Value} : Gp S N hp ML_undo T 12 [x0, x1, x2] [] I J P ↔ Gp S N hp ML_undo T 13 [x0, x1, x2] [.int 1] I J P := gp_iconst (by decide) dL_undo_12
theorem gs_L_undo_13 {v0 : Int32} {x0 x1 x2 : Option Value} (h : T 13 [x0, x1, x2] [.int v0] I J P) : Gp S N hp ML_undo T 13 [x0, x1, x2] [.int v0] I J P := gp_stop dL_undo_13 (Or.inl rfl) h
theorem g_L_undo_14  {x0 x1 x2 : Option Value} : Gp S N hp ML_undo T 14 [x0, x1, x2] [] I J P ↔ Gp S N hp ML_undo T 15 [x0, x1, x2] [.int 0] I J P := gp_iconst (by decide) dL_undo_14
theorem gs_L_undo_15 {v0 : Int32} {x0 x1 x2 : Option Value} (h : T 15 [x0, x1, x2] [.int v0] I J P) : Gp S N hp ML_undo T 15 [x0, x1, x2] [.int v0] I J P := gp_stop dL_undo_15 (Or.inl rfl) h
theorem dL_restore_0 : decode cL_restore 0 = .ok (.aload_n 0, 1) := by decide +kernel
theorem dL_restore_1 : decode cL_restore 1 = .ok (.invokevirtual 119, 3) := by decide +kernel
theorem dL_restore_4 : decode cL_restore 4 = .ok (.goto 6, 3) := by decide +kernel
theorem dL_restore_7 : decode cL_restore 7 = .ok (.astore_n 1, 1) := by decide +kernel
theorem dL_restore_8 : decode cL_restore 8 = .ok (.iconst 1, 1) := by decide +kernel
theorem dL_restore_9 : decode cL_restore 9 = .ok (.ireturn, 1) := by decide +kernel
theorem dL_restore_10 : decode cL_restore 10 = .ok (.iconst 0, 1) := by decide +kernel
theorem dL_restore_11 : decode cL_restore 11 = .ok (.ireturn, 1) := by decide +kernel
theorem g_L_restore_0 {w : Nat} {x1 : Option Value} : Gp S N hp ML_restore T 0 [some (.ref w), x1] [] I J P ↔ Gp S N hp ML_restore T 1 [some (.ref w), x1] [.ref w] I J P := gp_lod (len := 1) rfl rfl rfl rfl dL_restore_0
theorem gs_L_restore_1 {v0 : Nat} {x0 x1 : Option Value} (h : T 1 [x0, x1] [.ref v0] I J P) : Gp S N hp ML_restore T 1 [x0, x1] [.ref v0] I J P := gp_stop dL_restore_1 (Or.inr (Or.inl rfl)) h
theorem g_L_restore_4  {x0 x1 : Option Value} : Gp S N hp ML_restore T 4 [x0, x1] [] I J P ↔ Gp S N hp ML_restore T 10 [x0, x1] [] I J P := gp_go (len := 3) rfl (fun _ _ => rfl) rfl (by decide) dL_restore_4
theorem g_L_restore_7 {v0 : Nat} {x0 x1 : Option Value} : Gp S N hp ML_restore T 7 [x0, x1] [.ref v0] I J P ↔ Gp S N hp ML_restore T 8 [kl x0, some (.ref v0)] [] I J P := gp_sto (len := 1) rfl rfl rfl rfl (Nat.le_of_ble_eq_true rfl) rfl dL_restore_7
theorem g_L_restore_8  {x0 x1 : Option Value} : Gp S N hp ML_restore T 8 [x0, x1] [] I J P ↔ Gp S N hp ML_restore T 9 [x0, x1] [.int 1] I J P := gp_iconst (by decide) dL_restore_8
theorem gs_L_restore_9 {v0 : Int32} {x0 x1 : Option Value} (h : T 9 [x0, x1] [.int v0] I J P) : Gp S N hp ML_restore T 9 [x0, x1] [.int v0] I J P := gp_stop dL_restore_9 (Or.inl rfl) h
theorem g_L_restore_10  {x0 x1 : Option Value} : Gp S N hp ML_restore T 10 [x0, x1] [] I J P ↔ Gp S N hp ML_restore T 11 [x0, x1] [.int 0] I J P := gp_iconst (by decide) dL_restore_10
theorem gs_L_restore_11 {v0 : Int32} {x0 x1 : Option Value} (h : T 11 [x0, x1] [.int v0] I J P) : Gp S N hp ML_restore T 11 [x0, x1] [.int v0] I J P := gp_stop dL_restore_11 (Or.inl rfl) h
end ER

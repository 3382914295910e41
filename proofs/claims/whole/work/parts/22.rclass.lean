/-! the instructions' rules: X[0-7]_ -/
section ER
variable {S N : Nat → Nat} {d : Nat} {I : IM} {J : JM} {P : PM} {Q : Option Value → IM → JM → PM → Prop}
theorem dX0_takeAlone_0 : decode cX0_takeAlone 0 = .ok (.aload_n 0, 1) := by decide +kernel
theorem dX0_takeAlone_1 : decode cX0_takeAlone 1 = .ok (.aload_n 1, 1) := by decide +kernel
theorem dX0_takeAlone_2 : decode cX0_takeAlone 2 = .ok (.getfield 23, 3) := by decide +kernel
theorem dX0_takeAlone_5 : decode cX0_takeAlone 5 = .ok (.iload_n 2, 1) := by decide +kernel
theorem dX0_takeAlone_6 : decode cX0_takeAlone 6 = .ok (.iaload, 1) := by decide +kernel
theorem dX0_takeAlone_7 : decode cX0_takeAlone 7 = .ok (.putfield 29, 3) := by decide +kernel
theorem dX0_takeAlone_10 : decode cX0_takeAlone 10 = .ok (.aload_n 0, 1) := by decide +kernel
theorem dX0_takeAlone_11 : decode cX0_takeAlone 11 = .ok (.aload_n 1, 1) := by decide +kernel
theorem dX0_takeAlone_12 : decode cX0_takeAlone 12 = .ok (.getfield 23, 3) := by decide +kernel
theorem dX0_takeAlone_15 : decode cX0_takeAlone 15 = .ok (.iload_n 2, 1) := by decide +kernel
theorem dX0_takeAlone_16 : decode cX0_takeAlone 16 = .ok (.iaload, 1) := by decide +kernel
theorem dX0_takeAlone_17 : decode cX0_takeAlone 17 = .ok (.aload_n 1, 1) := by decide +kernel
theorem dX0_takeAlone_18 : decode cX0_takeAlone 18 = .ok (.getfield 33, 3) := by decide +kernel
theorem dX0_takeAlone_21 : decode cX0_takeAlone 21 = .ok (.iload_n 2, 1) := by decide +kernel
theorem dX0_takeAlone_22 : decode cX0_takeAlone 22 = .ok (.iaload, 1) := by decide +kernel
theorem dX0_takeAlone_23 : decode cX0_takeAlone 23 = .ok (.iadd, 1) := by decide +kernel
theorem dX0_takeAlone_24 : decode cX0_takeAlone 24 = .ok (.putfield 36, 3) := by decide +kernel
theorem dX0_takeAlone_27 : decode cX0_takeAlone 27 = .ok (.aload_n 0, 1) := by decide +kernel
theorem dX0_takeAlone_28 : decode cX0_takeAlone 28 = .ok (.iload_n 3, 1) := by decide +kernel
theorem dX0_takeAlone_29 : decode cX0_takeAlone 29 = .ok (.putfield 39, 3) := by decide +kernel
theorem dX0_takeAlone_32 : decode cX0_takeAlone 32 = .ok (.aload_n 0, 1) := by decide +kernel
theorem dX0_takeAlone_33 : decode cX0_takeAlone 33 = .ok (.iconst 1, 1) := by decide +kernel
theorem dX0_takeAlone_34 : decode cX0_takeAlone 34 = .ok (.putfield 42, 3) := by decide +kernel
theorem dX0_takeAlone_37 : decode cX0_takeAlone 37 = .ok (.iconst 0, 1) := by decide +kernel
theorem dX0_takeAlone_38 : decode cX0_takeAlone 38 = .ok (.istore 4, 2) := by decide +kernel
theorem dX0_takeAlone_40 : decode cX0_takeAlone 40 = .ok (.iload 4, 2) := by decide +kernel
theorem dX0_takeAlone_42 : decode cX0_takeAlone 42 = .ok (.bipush 6, 2) := by decide +kernel
theorem dX0_takeAlone_44 : decode cX0_takeAlone 44 = .ok (.if_icmp .ge 31, 3) := by decide +kernel
theorem dX0_takeAlone_47 : decode cX0_takeAlone 47 = .ok (.aload_n 0, 1) := by decide +kernel
theorem dX0_takeAlone_48 : decode cX0_takeAlone 48 = .ok (.getfield 9, 3) := by decide +kernel
theorem dX0_takeAlone_51 : decode cX0_takeAlone 51 = .ok (.iload 4, 2) := by decide +kernel
theorem dX0_takeAlone_53 : decode cX0_takeAlone 53 = .ok (.aload_n 1, 1) := by decide +kernel
theorem dX0_takeAlone_54 : decode cX0_takeAlone 54 = .ok (.getfield 45, 3) := by decide +kernel
theorem dX0_takeAlone_57 : decode cX0_takeAlone 57 = .ok (.getfield 49, 3) := by decide +kernel
theorem dX0_takeAlone_60 : decode cX0_takeAlone 60 = .ok (.iload 4, 2) := by decide +kernel
theorem dX0_takeAlone_62 : decode cX0_takeAlone 62 = .ok (.aaload, 1) := by decide +kernel
theorem dX0_takeAlone_63 : decode cX0_takeAlone 63 = .ok (.getfield 55, 3) := by decide +kernel
theorem dX0_takeAlone_66 : decode cX0_takeAlone 66 = .ok (.iload_n 2, 1) := by decide +kernel
theorem dX0_takeAlone_67 : decode cX0_takeAlone 67 = .ok (.laload, 1) := by decide +kernel
theorem dX0_takeAlone_68 : decode cX0_takeAlone 68 = .ok (.lastore, 1) := by decide +kernel
theorem dX0_takeAlone_69 : decode cX0_takeAlone 69 = .ok (.iinc 4 1, 3) := by decide +kernel
theorem dX0_takeAlone_72 : decode cX0_takeAlone 72 = .ok (.goto (-32), 3) := by decide +kernel
theorem dX0_takeAlone_75 : decode cX0_takeAlone 75 = .ok (.return_, 1) := by decide +kernel
theorem c_X0_takeAlone {a0 : Nat} {a1 : Nat} {a2 : Int32} {a3 : Int32} : CWp S N d MX0_takeAlone [.ref a0, .ref a1, .int a2, .int a3] I J P Q ↔ Wp S N d MX0_takeAlone 0 [some (.ref a0), some (.ref a1), some (.int a2), some (.int a3), none] [] I J P Q := by
  rw [cwp_iff]
  exact ⟨fun h => h.2, fun h => ⟨Nat.le_of_ble_eq_true rfl, h⟩⟩
theorem e_X0_takeAlone_0 {w : Nat} {x1 x2 x3 x4 : Option Value} : Wp S N d MX0_takeAlone 0 [some (.ref w), x1, x2, x3, x4] [] I J P Q ↔ Wp S N d MX0_takeAlone 1 [some (.ref w), x1, x2, x3, x4] [.ref w] I J P Q := wp_lod (len := 1) rfl rfl rfl rfl dX0_takeAlone_0
theorem e_X0_takeAlone_1 {v0 : Nat} {w : Nat} {x0 x2 x3 x4 : Option Value} : Wp S N d MX0_takeAlone 1 [x0, some (.ref w), x2, x3, x4] [.ref v0] I J P Q ↔ Wp S N d MX0_takeAlone 2 [x0, some (.ref w), x2, x3, x4] [.ref w, .ref v0] I J P Q := wp_lod (len := 1) rfl rfl rfl rfl dX0_takeAlone_1
theorem e_X0_takeAlone_2 {v0 : Nat} {v1 : Nat} {x0 x1 x2 x3 x4 : Option Value} : Wp S N d MX0_takeAlone 2 [x0, x1, x2, x3, x4] [.ref v0, .ref v1] I J P Q ↔ S v0 = 5 ∧ Wp S N d MX0_takeAlone 5 [x0, x1, x2, x3, x4] [va_rf (P v0 1), .ref v1] I J P Q := wp_getf rfl rfl rfl rfl dX0_takeAlone_2
theorem e_X0_takeAlone_5 {v0 : Nat} {v1 : Nat} {w : Int32} {x0 x1 x3 x4 : Option Value} : Wp S N d MX0_takeAlone 5 [x0, x1, some (.int w), x3, x4] [.ref v0, .ref v1] I J P Q ↔ Wp S N d MX0_takeAlone 6 [x0, x1, some (.int w), x3, x4] [.int w, .ref v0, .ref v1] I J P Q := wp_lod (len := 1) rfl rfl rfl rfl dX0_takeAlone_5
theorem e_X0_takeAlone_6 {v0 : Int32} {v1 : Nat} {v2 : Nat} {x0 x1 x2 x3 x4 : Option Value} : Wp S N d MX0_takeAlone 6 [x0, x1, x2, x3, x4] [.int v0, .ref v1, .ref v2] I J P Q ↔ (S v1 = 10 ∧ vp_in v0 (N v1)) ∧ Wp S N d MX0_takeAlone 7 [x0, x1, x2, x3, x4] [.int (I v1 v0.toNatClampNeg), .ref v2] I J P Q := wp_ald rfl rfl dX0_takeAlone_6
theorem e_X0_takeAlone_7 {v0 : Int32} {v1 : Nat} {x0 x1 x2 x3 x4 : Option Value} : Wp S N d MX0_takeAlone 7 [x0, x1, x2, x3, x4] [.int v0, .ref v1] I J P Q ↔ S v1 = 0 ∧ Wp S N d MX0_takeAlone 10 [x0, x1, x2, x3, x4] [] (u2 I v1 0 v0) J P Q := wp_putI rfl rfl rfl rfl dX0_takeAlone_7
theorem e_X0_takeAlone_10 {w : Nat} {x1 x2 x3 x4 : Option Value} : Wp S N d MX0_takeAlone 10 [some (.ref w), x1, x2, x3, x4] [] I J P Q ↔ Wp S N d MX0_takeAlone 11 [some (.ref w), x1, x2, x3, x4] [.ref w] I J P Q := wp_lod (len := 1) rfl rfl rfl rfl dX0_takeAlone_10
theorem e_X0_takeAlone_11 {v0 : Nat} {w : Nat} {x0 x2 x3 x4 : Option Value} : Wp S N d MX0_takeAlone 11 [x0, some (.ref w), x2, x3, x4] [.ref v0] I J P Q ↔ Wp S N d MX0_takeAlone 12 [x0, some (.ref w), x2, x3, x4] [.ref w, .ref v0] I J P Q := wp_lod (len := 1) rfl rfl rfl rfl dX0_takeAlone_11
theorem e_X0_takeAlone_12 {v0 : Nat} {v1 : Nat} {x0 x1 x2 x3 x4 : Option Value} : Wp S N d MX0_takeAlone 12 [x0, x1, x2, x3, x4] [.ref v0, .ref v1] I J P Q ↔ S v0 = 5 ∧ Wp S N d MX0_takeAlone 15 [x0, x1, x2, x3, x4] [va_rf (P v0 1), .ref v1] I J P Q := wp_getf rfl rfl rfl rfl dX0_takeAlone_12
theorem e_X0_takeAlone_15 {v0 : Nat} {v1 : Nat} {w : Int32} {x0 x1 x3 x4 : Option Value} : Wp S N d MX0_takeAlone 15 [x0, x1, some (.int w), x3, x4] [.ref v0, .ref v1] I J P Q ↔ Wp S N d MX0_takeAlone 16 [x0, x1, some (.int w), x3, x4] [.int w, .ref v0, .ref v1] I J P Q := wp_lod (len := 1) rfl rfl rfl rfl dX0_takeAlone_15
theorem e_X0_takeAlone_16 {v0 : Int32} {v1 : Nat} {v2 : Nat} {x0 x1 x2 x3 x4 : Option Value} : Wp S N d MX0_takeAlone 16 [x0, x1, x2, x3, x4] [.int v0, .ref v1, .ref v2] I J P Q ↔ (S v1 = 10 ∧ vp_in v0 (N v1)) ∧ Wp S N d MX0_takeAlone 17 [x0, x1, x2, x3, x4] [.int (I v1 v0.toNatClampNeg), .ref v2] I J P Q := wp_ald rfl rfl dX0_takeAlone_16
theorem e_X0_takeAlone_17 {v0 : Int32} {v1 : Nat} {w : Nat} {x0 x2 x3 x4 : Option Value} : Wp S N d MX0_takeAlone 17 [x0, some (.ref w), x2, x3, x4] [.int v0, .ref v1] I J P Q ↔ Wp S N d MX0_takeAlone 18 [x0, some (.ref w), x2, x3, x4] [.ref w, .int v0, .ref v1] I J P Q := wp_lod (len := 1) rfl rfl rfl rfl dX0_takeAlone_17
theorem e_X0_takeAlone_18 {v0 : Nat} {v1 : Int32} {v2 : Nat} {x0 x1 x2 x3 x4 : Option Value} : Wp S N d MX0_takeAlone 18 [x0, x1, x2, x3, x4] [.ref v0, .int v1, .ref v2] I J P Q ↔ S v0 = 5 ∧ Wp S N d MX0_takeAlone 21 [x0, x1, x2, x3, x4] [va_rf (P v0 2), .int v1, .ref v2] I J P Q := wp_getf rfl rfl rfl rfl dX0_takeAlone_18
theorem e_X0_takeAlone_21 {v0 : Nat} {v1 : Int32} {v2 : Nat} {w : Int32} {x0 x1 x3 x4 : Option Value} : Wp S N d MX0_takeAlone 21 [x0, x1, some (.int w), x3, x4] [.ref v0, .int v1, .ref v2] I J P Q ↔ Wp S N d MX0_takeAlone 22 [x0, x1, some (.int w), x3, x4] [.int w, .ref v0, .int v1, .ref v2] I J P Q := wp_lod (len := 1) rfl rfl rfl rfl dX0_takeAlone_21
theorem e_X0_takeAlone_22 {v0 : Int32} {v1 : Nat} {v2 : Int32} {v3 : Nat} {x0 x1 x2 x3 x4 : Option Value} : Wp S N d MX0_takeAlone 22 [x0, x1, x2, x3, x4] [.int v0, .ref v1, .int v2, .ref v3] I J P Q ↔ (S v1 = 10 ∧ vp_in v0 (N v1)) ∧ Wp S N d MX0_takeAlone 23 [x0, x1, x2, x3, x4] [.int (I v1 v0.toNatClampNeg), .int v2, .ref v3] I J P Q := wp_ald rfl rfl dX0_takeAlone_22
theorem e_X0_takeAlone_23 {v0 : Int32} {v1 : Int32} {v2 : Nat} {x0 x1 x2 x3 x4 : Option Value} : Wp S N d MX0_takeAlone 23 [x0, x1, x2, x3, x4] [.int v0, .int v1, .ref v2] I J P Q ↔ Wp S N d MX0_takeAlone 24 [x0, x1, x2, x3, x4] [.int (v1 + v0), .ref v2] I J P Q := wp_alu (len := 1) rfl rfl rfl dX0_takeAlone_23
theorem e_X0_takeAlone_24 {v0 : Int32} {v1 : Nat} {x0 x1 x2 x3 x4 : Option Value} : Wp S N d MX0_takeAlone 24 [x0, x1, x2, x3, x4] [.int v0, .ref v1] I J P Q ↔ S v1 = 0 ∧ Wp S N d MX0_takeAlone 27 [x0, x1, x2, x3, x4] [] (u2 I v1 1 v0) J P Q := wp_putI rfl rfl rfl rfl dX0_takeAlone_24
theorem e_X0_takeAlone_27 {w : Nat} {x1 x2 x3 x4 : Option Value} : Wp S N d MX0_takeAlone 27 [some (.ref w), x1, x2, x3, x4] [] I J P Q ↔ Wp S N d MX0_takeAlone 28 [some (.ref w), x1, x2, x3, x4] [.ref w] I J P Q := wp_lod (len := 1) rfl rfl rfl rfl dX0_takeAlone_27
theorem e_X0_takeAlone_28 {v0 : Nat} {w : Int32} {x0 x1 x2 x4 : Option Value} : Wp S N d MX0_takeAlone 28 [x0, x1, x2, some (.int w), x4] [.ref v0] I J P Q ↔ Wp S N d MX0_takeAlone 29 [x0, x1, x2, some (.int w), x4] [.int w, .ref v0] I J P Q := wp_lod (len := 1) rfl rfl rfl rfl dX0_takeAlone_28
theorem e_X0_takeAlone_29 {v0 : Int32} {v1 : Nat} {x0 x1 x2 x3 x4 : Option Value} : Wp S N d MX0_takeAlone 29 [x0, x1, x2, x3, x4] [.int v0, .ref v1] I J P Q ↔ S v1 = 0 ∧ Wp S N d MX0_takeAlone 32 [x0, x1, x2, x3, x4] [] (u2 I v1 2 v0) J P Q := wp_putI rfl rfl rfl rfl dX0_takeAlone_29
theorem e_X0_takeAlone_32 {w : Nat} {x1 x2 x3 x4 : Option Value} : Wp S N d MX0_takeAlone 32 [some (.ref w), x1, x2, x3, x4] [] I J P Q ↔ Wp S N d MX0_takeAlone 33 [some (.ref w), x1, x2, x3, x4] [.ref w] I J P Q := wp_lod (len := 1) rfl rfl rfl rfl dX0_takeAlone_32
theorem e_X0_takeAlone_33 {v0 : Nat} {x0 x1 x2 x3 x4 : Option Value} : Wp S N d MX0_takeAlone 33 [x0, x1, x2, x3, x4] [.ref v0] I J P Q ↔ Wp S N d MX0_takeAlone 34 [x0, x1, x2, x3, x4] [.int 1, .ref v0] I J P Q := wp_iconst (by decide) dX0_takeAlone_33
theorem e_X0_takeAlone_34 {v0 : Int32} {v1 : Nat} {x0 x1 x2 x3 x4 : Option Value} : Wp S N d MX0_takeAlone 34 [x0, x1, x2, x3, x4] [.int v0, .ref v1] I J P Q ↔ S v1 = 0 ∧ Wp S N d MX0_takeAlone 37 [x0, x1, x2, x3, x4] [] (u2 I v1 3 v0) J P Q := wp_putI rfl rfl rfl rfl dX0_takeAlone_34
theorem e_X0_takeAlone_37  {x0 x1 x2 x3 x4 : Option Value} : Wp S N d MX0_takeAlone 37 [x0, x1, x2, x3, x4] [] I J P Q ↔ Wp S N d MX0_takeAlone 38 [x0, x1, x2, x3, x4] [.int 0] I J P Q := wp_iconst (by decide) dX0_takeAlone_37
theorem e_X0_takeAlone_38 {v0 : Int32} {x0 x1 x2 x3 x4 : Option Value} : Wp S N d MX0_takeAlone 38 [x0, x1, x2, x3, x4] [.int v0] I J P Q ↔ Wp S N d MX0_takeAlone 40 [x0, x1, x2, kl x3, some (.int v0)] [] I J P Q := wp_sto (len := 2) rfl rfl rfl rfl (Nat.le_of_ble_eq_true rfl) rfl dX0_takeAlone_38
theorem e_X0_takeAlone_40 {w : Int32} {x0 x1 x2 x3 : Option Value} : Wp S N d MX0_takeAlone 40 [x0, x1, x2, x3, some (.int w)] [] I J P Q ↔ Wp S N d MX0_takeAlone 42 [x0, x1, x2, x3, some (.int w)] [.int w] I J P Q := wp_lod (len := 2) rfl rfl rfl rfl dX0_takeAlone_40
theorem e_X0_takeAlone_42 {v0 : Int32} {x0 x1 x2 x3 x4 : Option Value} : Wp S N d MX0_takeAlone 42 [x0, x1, x2, x3, x4] [.int v0] I J P Q ↔ Wp S N d MX0_takeAlone 44 [x0, x1, x2, x3, x4] [.int 6, .int v0] I J P Q := wp_bipush (by decide) dX0_takeAlone_42
theorem e_X0_takeAlone_44 {v0 : Int32} {v1 : Int32} {x0 x1 x2 x3 x4 : Option Value} : Wp S N d MX0_takeAlone 44 [x0, x1, x2, x3, x4] [.int v0, .int v1] I J P Q ↔ (v0 ≤ v1 → Wp S N d MX0_takeAlone 75 [x0, x1, x2, x3, x4] [] I J P Q) ∧ (¬ v0 ≤ v1 → Wp S N d MX0_takeAlone 47 [x0, x1, x2, x3, x4] [] I J P Q) := wp_br rfl rfl (by decide) dX0_takeAlone_44
theorem e_X0_takeAlone_47 {w : Nat} {x1 x2 x3 x4 : Option Value} : Wp S N d MX0_takeAlone 47 [some (.ref w), x1, x2, x3, x4] [] I J P Q ↔ Wp S N d MX0_takeAlone 48 [some (.ref w), x1, x2, x3, x4] [.ref w] I J P Q := wp_lod (len := 1) rfl rfl rfl rfl dX0_takeAlone_47
theorem e_X0_takeAlone_48 {v0 : Nat} {x0 x1 x2 x3 x4 : Option Value} : Wp S N d MX0_takeAlone 48 [x0, x1, x2, x3, x4] [.ref v0] I J P Q ↔ S v0 = 0 ∧ Wp S N d MX0_takeAlone 51 [x0, x1, x2, x3, x4] [va_rf (P v0 4)] I J P Q := wp_getf rfl rfl rfl rfl dX0_takeAlone_48
theorem e_X0_takeAlone_51 {v0 : Nat} {w : Int32} {x0 x1 x2 x3 : Option Value} : Wp S N d MX0_takeAlone 51 [x0, x1, x2, x3, some (.int w)] [.ref v0] I J P Q ↔ Wp S N d MX0_takeAlone 53 [x0, x1, x2, x3, some (.int w)] [.int w, .ref v0] I J P Q := wp_lod (len := 2) rfl rfl rfl rfl dX0_takeAlone_51
theorem e_X0_takeAlone_53 {v0 : Int32} {v1 : Nat} {w : Nat} {x0 x2 x3 x4 : Option Value} : Wp S N d MX0_takeAlone 53 [x0, some (.ref w), x2, x3, x4] [.int v0, .ref v1] I J P Q ↔ Wp S N d MX0_takeAlone 54 [x0, some (.ref w), x2, x3, x4] [.ref w, .int v0, .ref v1] I J P Q := wp_lod (len := 1) rfl rfl rfl rfl dX0_takeAlone_53
theorem e_X0_takeAlone_54 {v0 : Nat} {v1 : Int32} {v2 : Nat} {x0 x1 x2 x3 x4 : Option Value} : Wp S N d MX0_takeAlone 54 [x0, x1, x2, x3, x4] [.ref v0, .int v1, .ref v2] I J P Q ↔ S v0 = 5 ∧ Wp S N d MX0_takeAlone 57 [x0, x1, x2, x3, x4] [va_rf (P v0 0), .int v1, .ref v2] I J P Q := wp_getf rfl rfl rfl rfl dX0_takeAlone_54
theorem e_X0_takeAlone_57 {v0 : Nat} {v1 : Int32} {v2 : Nat} {x0 x1 x2 x3 x4 : Option Value} : Wp S N d MX0_takeAlone 57 [x0, x1, x2, x3, x4] [.ref v0, .int v1, .ref v2] I J P Q ↔ S v0 = 7 ∧ Wp S N d MX0_takeAlone 60 [x0, x1, x2, x3, x4] [va_rf (P v0 8), .int v1, .ref v2] I J P Q := wp_getf rfl rfl rfl rfl dX0_takeAlone_57
theorem e_X0_takeAlone_60 {v0 : Nat} {v1 : Int32} {v2 : Nat} {w : Int32} {x0 x1 x2 x3 : Option Value} : Wp S N d MX0_takeAlone 60 [x0, x1, x2, x3, some (.int w)] [.ref v0, .int v1, .ref v2] I J P Q ↔ Wp S N d MX0_takeAlone 62 [x0, x1, x2, x3, some (.int w)] [.int w, .ref v0, .int v1, .ref v2] I J P Q := wp_lod (len := 2) rfl rfl rfl rfl dX0_takeAlone_60
theorem e_X0_takeAlone_62 {v0 : Int32} {v1 : Nat} {v2 : Int32} {v3 : Nat} {x0 x1 x2 x3 x4 : Option Value} : Wp S N d MX0_takeAlone 62 [x0, x1, x2, x3, x4] [.int v0, .ref v1, .int v2, .ref v3] I J P Q ↔ ((S v1 = 12 ∨ S v1 = 13 ∨ S v1 = 14) ∧ vp_in v0 (N v1)) ∧ Wp S N d MX0_takeAlone 63 [x0, x1, x2, x3, x4] [va_rf (P v1 v0.toNatClampNeg), .int v2, .ref v3] I J P Q := wp_ald rfl rfl dX0_takeAlone_62
theorem e_X0_takeAlone_63 {v0 : Nat} {v1 : Int32} {v2 : Nat} {x0 x1 x2 x3 x4 : Option Value} : Wp S N d MX0_takeAlone 63 [x0, x1, x2, x3, x4] [.ref v0, .int v1, .ref v2] I J P Q ↔ S v0 = 2 ∧ Wp S N d MX0_takeAlone 66 [x0, x1, x2, x3, x4] [va_rf (P v0 1), .int v1, .ref v2] I J P Q := wp_getf rfl rfl rfl rfl dX0_takeAlone_63
theorem e_X0_takeAlone_66 {v0 : Nat} {v1 : Int32} {v2 : Nat} {w : Int32} {x0 x1 x3 x4 : Option Value} : Wp S N d MX0_takeAlone 66 [x0, x1, some (.int w), x3, x4] [.ref v0, .int v1, .ref v2] I J P Q ↔ Wp S N d MX0_takeAlone 67 [x0, x1, some (.int w), x3, x4] [.int w, .ref v0, .int v1, .ref v2] I J P Q := wp_lod (len := 1) rfl rfl rfl rfl dX0_takeAlone_66
theorem e_X0_takeAlone_67 {v0 : Int32} {v1 : Nat} {v2 : Int32} {v3 : Nat} {x0 x1 x2 x3 x4 : Option Value} : Wp S N d MX0_takeAlone 67 [x0, x1, x2, x3, x4] [.int v0, .ref v1, .int v2, .ref v3] I J P Q ↔ (S v1 = 11 ∧ vp_in v0 (N v1)) ∧ Wp S N d MX0_takeAlone 68 [x0, x1, x2, x3, x4] [.long (J v1 v0.toNatClampNeg), .int v2, .ref v3] I J P Q := wp_ald rfl rfl dX0_takeAlone_67
theorem e_X0_takeAlone_68 {v0 : Int64} {v1 : Int32} {v2 : Nat} {x0 x1 x2 x3 x4 : Option Value} : Wp S N d MX0_takeAlone 68 [x0, x1, x2, x3, x4] [.long v0, .int v1, .ref v2] I J P Q ↔ (S v2 = 11 ∧ vp_in v1 (N v2)) ∧ Wp S N d MX0_takeAlone 69 [x0, x1, x2, x3, x4] [] I (u2 J v2 v1.toNatClampNeg v0) P Q := wp_ast rfl rfl dX0_takeAlone_68
theorem e_X0_takeAlone_69 {w : Int32} {x0 x1 x2 x3 : Option Value} : Wp S N d MX0_takeAlone 69 [x0, x1, x2, x3, some (.int w)] [] I J P Q ↔ Wp S N d MX0_takeAlone 72 [x0, x1, x2, kl x3, some (.int (w + 1))] [] I J P Q := wp_inc rfl rfl dX0_takeAlone_69
theorem e_X0_takeAlone_72  {x0 x1 x2 x3 x4 : Option Value} : Wp S N d MX0_takeAlone 72 [x0, x1, x2, x3, x4] [] I J P Q ↔ Wp S N d MX0_takeAlone 40 [x0, x1, x2, x3, x4] [] I J P Q := wp_go (len := 3) rfl (fun _ _ => rfl) rfl (by decide) dX0_takeAlone_72
theorem e_X0_takeAlone_75  {x0 x1 x2 x3 x4 : Option Value} : Wp S N d MX0_takeAlone 75 [x0, x1, x2, x3, x4] [] I J P Q ↔ Q none I J P := wp_vret rfl dX0_takeAlone_75
theorem dX0_takeTogether_0 : decode cX0_takeTogether 0 = .ok (.aload_n 0, 1) := by decide +kernel
theorem dX0_takeTogether_1 : decode cX0_takeTogether 1 = .ok (.aload_n 1, 1) := by decide +kernel
theorem dX0_takeTogether_2 : decode cX0_takeTogether 2 = .ok (.iload_n 2, 1) := by decide +kernel
theorem dX0_takeTogether_3 : decode cX0_takeTogether 3 = .ok (.aload_n 1, 1) := by decide +kernel
theorem dX0_takeTogether_4 : decode cX0_takeTogether 4 = .ok (.getfield 60, 3) := by decide +kernel
theorem dX0_takeTogether_7 : decode cX0_takeTogether 7 = .ok (.iload_n 2, 1) := by decide +kernel
theorem dX0_takeTogether_8 : decode cX0_takeTogether 8 = .ok (.iaload, 1) := by decide +kernel
theorem dX0_takeTogether_9 : decode cX0_takeTogether 9 = .ok (.aload_n 1, 1) := by decide +kernel
theorem dX0_takeTogether_10 : decode cX0_takeTogether 10 = .ok (.getfield 60, 3) := by decide +kernel
theorem dX0_takeTogether_13 : decode cX0_takeTogether 13 = .ok (.iload_n 3, 1) := by decide +kernel
theorem dX0_takeTogether_14 : decode cX0_takeTogether 14 = .ok (.iaload, 1) := by decide +kernel
theorem dX0_takeTogether_15 : decode cX0_takeTogether 15 = .ok (.iadd, 1) := by decide +kernel
theorem dX0_takeTogether_16 : decode cX0_takeTogether 16 = .ok (.invokevirtual 62, 3) := by decide +kernel
theorem dX0_takeTogether_19 : decode cX0_takeTogether 19 = .ok (.aload_n 0, 1) := by decide +kernel
theorem dX0_takeTogether_20 : decode cX0_takeTogether 20 = .ok (.dup, 1) := by decide +kernel
theorem dX0_takeTogether_21 : decode cX0_takeTogether 21 = .ok (.getfield 29, 3) := by decide +kernel
theorem dX0_takeTogether_24 : decode cX0_takeTogether 24 = .ok (.aload_n 1, 1) := by decide +kernel
theorem dX0_takeTogether_25 : decode cX0_takeTogether 25 = .ok (.getfield 23, 3) := by decide +kernel
theorem dX0_takeTogether_28 : decode cX0_takeTogether 28 = .ok (.iload_n 3, 1) := by decide +kernel
theorem dX0_takeTogether_29 : decode cX0_takeTogether 29 = .ok (.iaload, 1) := by decide +kernel
theorem dX0_takeTogether_30 : decode cX0_takeTogether 30 = .ok (.iadd, 1) := by decide +kernel
theorem dX0_takeTogether_31 : decode cX0_takeTogether 31 = .ok (.putfield 29, 3) := by decide +kernel
theorem dX0_takeTogether_34 : decode cX0_takeTogether 34 = .ok (.aload_n 0, 1) := by decide +kernel
theorem dX0_takeTogether_35 : decode cX0_takeTogether 35 = .ok (.dup, 1) := by decide +kernel
theorem dX0_takeTogether_36 : decode cX0_takeTogether 36 = .ok (.getfield 36, 3) := by decide +kernel
theorem dX0_takeTogether_39 : decode cX0_takeTogether 39 = .ok (.aload_n 1, 1) := by decide +kernel
theorem dX0_takeTogether_40 : decode cX0_takeTogether 40 = .ok (.getfield 23, 3) := by decide +kernel
theorem dX0_takeTogether_43 : decode cX0_takeTogether 43 = .ok (.iload_n 3, 1) := by decide +kernel
theorem dX0_takeTogether_44 : decode cX0_takeTogether 44 = .ok (.iaload, 1) := by decide +kernel
theorem dX0_takeTogether_45 : decode cX0_takeTogether 45 = .ok (.aload_n 1, 1) := by decide +kernel
theorem dX0_takeTogether_46 : decode cX0_takeTogether 46 = .ok (.getfield 33, 3) := by decide +kernel
theorem dX0_takeTogether_49 : decode cX0_takeTogether 49 = .ok (.iload_n 3, 1) := by decide +kernel
theorem dX0_takeTogether_50 : decode cX0_takeTogether 50 = .ok (.iaload, 1) := by decide +kernel
theorem dX0_takeTogether_51 : decode cX0_takeTogether 51 = .ok (.iadd, 1) := by decide +kernel
theorem dX0_takeTogether_52 : decode cX0_takeTogether 52 = .ok (.iadd, 1) := by decide +kernel
theorem dX0_takeTogether_53 : decode cX0_takeTogether 53 = .ok (.putfield 36, 3) := by decide +kernel
theorem dX0_takeTogether_56 : decode cX0_takeTogether 56 = .ok (.aload_n 0, 1) := by decide +kernel
theorem dX0_takeTogether_57 : decode cX0_takeTogether 57 = .ok (.iconst 2, 1) := by decide +kernel
theorem dX0_takeTogether_58 : decode cX0_takeTogether 58 = .ok (.putfield 42, 3) := by decide +kernel
theorem dX0_takeTogether_61 : decode cX0_takeTogether 61 = .ok (.iconst 0, 1) := by decide +kernel
theorem dX0_takeTogether_62 : decode cX0_takeTogether 62 = .ok (.istore 4, 2) := by decide +kernel
theorem dX0_takeTogether_64 : decode cX0_takeTogether 64 = .ok (.iload 4, 2) := by decide +kernel
theorem dX0_takeTogether_66 : decode cX0_takeTogether 66 = .ok (.bipush 6, 2) := by decide +kernel
theorem dX0_takeTogether_68 : decode cX0_takeTogether 68 = .ok (.if_icmp .ge 34, 3) := by decide +kernel
theorem dX0_takeTogether_71 : decode cX0_takeTogether 71 = .ok (.aload_n 0, 1) := by decide +kernel
theorem dX0_takeTogether_72 : decode cX0_takeTogether 72 = .ok (.getfield 9, 3) := by decide +kernel
theorem dX0_takeTogether_75 : decode cX0_takeTogether 75 = .ok (.iload 4, 2) := by decide +kernel
theorem dX0_takeTogether_77 : decode cX0_takeTogether 77 = .ok (.dup2, 1) := by decide +kernel
theorem dX0_takeTogether_78 : decode cX0_takeTogether 78 = .ok (.laload, 1) := by decide +kernel
theorem dX0_takeTogether_79 : decode cX0_takeTogether 79 = .ok (.aload_n 1, 1) := by decide +kernel
theorem dX0_takeTogether_80 : decode cX0_takeTogether 80 = .ok (.getfield 45, 3) := by decide +kernel
theorem dX0_takeTogether_83 : decode cX0_takeTogether 83 = .ok (.getfield 49, 3) := by decide +kernel
theorem dX0_takeTogether_86 : decode cX0_takeTogether 86 = .ok (.iload 4, 2) := by decide +kernel
theorem dX0_takeTogether_88 : decode cX0_takeTogether 88 = .ok (.aaload, 1) := by decide +kernel
theorem dX0_takeTogether_89 : decode cX0_takeTogether 89 = .ok (.getfield 55, 3) := by decide +kernel
theorem dX0_takeTogether_92 : decode cX0_takeTogether 92 = .ok (.iload_n 3, 1) := by decide +kernel
theorem dX0_takeTogether_93 : decode cX0_takeTogether 93 = .ok (.laload, 1) := by decide +kernel
theorem dX0_takeTogether_94 : decode cX0_takeTogether 94 = .ok (.ladd, 1) := by decide +kernel
theorem dX0_takeTogether_95 : decode cX0_takeTogether 95 = .ok (.lastore, 1) := by decide +kernel
theorem dX0_takeTogether_96 : decode cX0_takeTogether 96 = .ok (.iinc 4 1, 3) := by decide +kernel
theorem dX0_takeTogether_99 : decode cX0_takeTogether 99 = .ok (.goto (-35), 3) := by decide +kernel
theorem dX0_takeTogether_102 : decode cX0_takeTogether 102 = .ok (.return_, 1) := by decide +kernel
theorem c_X0_takeTogether {a0 : Nat} {a1 : Nat} {a2 : Int32} {a3 : Int32} : CWp S N d MX0_takeTogether [.ref a0, .ref a1, .int a2, .int a3] I J P Q ↔ Wp S N d MX0_takeTogether 0 [some (.ref a0), some (.ref a1), some (.int a2), some (.int a3), none] [] I J P Q := by
  rw [cwp_iff]
  exact ⟨fun h => h.2, fun h => ⟨Nat.le_of_ble_eq_true rfl, h⟩⟩
theorem e_X0_takeTogether_0 {w : Nat} {x1 x2 x3 x4 : Option Value} : Wp S N d MX0_takeTogether 0 [some (.ref w), x1, x2, x3, x4] [] I J P Q ↔ Wp S N d MX0_takeTogether 1 [some (.ref w), x1, x2, x3, x4] [.ref w] I J P Q := wp_lod (len := 1) rfl rfl rfl rfl dX0_takeTogether_0
theorem e_X0_takeTogether_1 {v0 : Nat} {w : Nat} {x0 x2 x3 x4 : Option Value} : Wp S N d MX0_takeTogether 1 [x0, some (.ref w), x2, x3, x4] [.ref v0] I J P Q ↔ Wp S N d MX0_takeTogether 2 [x0, some (.ref w), x2, x3, x4] [.ref w, .ref v0] I J P Q := wp_lod (len := 1) rfl rfl rfl rfl dX0_takeTogether_1
theorem e_X0_takeTogether_2 {v0 : Nat} {v1 : Nat} {w : Int32} {x0 x1 x3 x4 : Option Value} : Wp S N d MX0_takeTogether 2 [x0, x1, some (.int w), x3, x4] [.ref v0, .ref v1] I J P Q ↔ Wp S N d MX0_takeTogether 3 [x0, x1, some (.int w), x3, x4] [.int w, .ref v0, .ref v1] I J P Q := wp_lod (len := 1) rfl rfl rfl rfl dX0_takeTogether_2
theorem e_X0_takeTogether_3 {v0 : Int32} {v1 : Nat} {v2 : Nat} {w : Nat} {x0 x2 x3 x4 : Option Value} : Wp S N d MX0_takeTogether 3 [x0, some (.ref w), x2, x3, x4] [.int v0, .ref v1, .ref v2] I J P Q ↔ Wp S N d MX0_takeTogether 4 [x0, some (.ref w), x2, x3, x4] [.ref w, .int v0, .ref v1, .ref v2] I J P Q := wp_lod (len := 1) rfl rfl rfl rfl dX0_takeTogether_3
theorem e_X0_takeTogether_4 {v0 : Nat} {v1 : Int32} {v2 : Nat} {v3 : Nat} {x0 x1 x2 x3 x4 : Option Value} : Wp S N d MX0_takeTogether 4 [x0, x1, x2, x3, x4] [.ref v0, .int v1, .ref v2, .ref v3] I J P Q ↔ S v0 = 5 ∧ Wp S N d MX0_takeTogether 7 [x0, x1, x2, x3, x4] [va_rf (P v0 3), .int v1, .ref v2, .ref v3] I J P Q := wp_getf rfl rfl rfl rfl dX0_takeTogether_4
theorem e_X0_takeTogether_7 {v0 : Nat} {v1 : Int32} {v2 : Nat} {v3 : Nat} {w : Int32} {x0 x1 x3 x4 : Option Value} : Wp S N d MX0_takeTogether 7 [x0, x1, some (.int w), x3, x4] [.ref v0, .int v1, .ref v2, .ref v3] I J P Q ↔ Wp S N d MX0_takeTogether 8 [x0, x1, some (.int w), x3, x4] [.int w, .ref v0, .int v1, .ref v2, .ref v3] I J P Q := wp_lod (len := 1) rfl rfl rfl rfl dX0_takeTogether_7
theorem e_X0_takeTogether_8 {v0 : Int32} {v1 : Nat} {v2 : Int32} {v3 : Nat} {v4 : Nat} {x0 x1 x2 x3 x4 : Option Value} : Wp S N d MX0_takeTogether 8 [x0, x1, x2, x3, x4] [.int v0, .ref v1, .int v2, .ref v3, .ref v4] I J P Q ↔ (S v1 = 10 ∧ vp_in v0 (N v1)) ∧ Wp S N d MX0_takeTogether 9 [x0, x1, x2, x3, x4] [.int (I v1 v0.toNatClampNeg), .int v2, .ref v3, .ref v4] I J P Q := wp_ald rfl rfl dX0_takeTogether_8
theorem e_X0_takeTogether_9 {v0 : Int32} {v1 : Int32} {v2 : Nat} {v3 : Nat} {w : Nat} {x0 x2 x3 x4 : Option Value} : Wp S N d MX0_takeTogether 9 [x0, some (.ref w), x2, x3, x4] [.int v0, .int v1, .ref v2, .ref v3] I J P Q ↔ Wp S N d MX0_takeTogether 10 [x0, some (.ref w), x2, x3, x4] [.ref w, .int v0, .int v1, .ref v2, .ref v3] I J P Q := wp_lod (len := 1) rfl rfl rfl rfl dX0_takeTogether_9
theorem e_X0_takeTogether_10 {v0 : Nat} {v1 : Int32} {v2 : Int32} {v3 : Nat} {v4 : Nat} {x0 x1 x2 x3 x4 : Option Value} : Wp S N d MX0_takeTogether 10 [x0, x1, x2, x3, x4] [.ref v0, .int v1, .int v2, .ref v3, .ref v4] I J P Q ↔ S v0 = 5 ∧ Wp S N d MX0_takeTogether 13 [x0, x1, x2, x3, x4] [va_rf (P v0 3), .int v1, .int v2, .ref v3, .ref v4] I J P Q := wp_getf rfl rfl rfl rfl dX0_takeTogether_10
theorem e_X0_takeTogether_13 {v0 : Nat} {v1 : Int32} {v2 : Int32} {v3 : Nat} {v4 : Nat} {w : Int32} {x0 x1 x2 x4 : Option Value} : Wp S N d MX0_takeTogether 13 [x0, x1, x2, some (.int w), x4] [.ref v0, .int v1, .int v2, .ref v3, .ref v4] I J P Q ↔ Wp S N d MX0_takeTogether 14 [x0, x1, x2, some (.int w), x4] [.int w, .ref v0, .int v1, .int v2, .ref v3, .ref v4] I J P Q := wp_lod (len := 1) rfl rfl rfl rfl dX0_takeTogether_13
theorem e_X0_takeTogether_14 {v0 : Int32} {v1 : Nat} {v2 : Int32} {v3 : Int32} {v4 : Nat} {v5 : Nat} {x0 x1 x2 x3 x4 : Option Value} : Wp S N d MX0_takeTogether 14 [x0, x1, x2, x3, x4] [.int v0, .ref v1, .int v2, .int v3, .ref v4, .ref v5] I J P Q ↔ (S v1 = 10 ∧ vp_in v0 (N v1)) ∧ Wp S N d MX0_takeTogether 15 [x0, x1, x2, x3, x4] [.int (I v1 v0.toNatClampNeg), .int v2, .int v3, .ref v4, .ref v5] I J P Q := wp_ald rfl rfl dX0_takeTogether_14
theorem e_X0_takeTogether_15 {v0 : Int32} {v1 : Int32} {v2 : Int32} {v3 : Nat} {v4 : Nat} {x0 x1 x2 x3 x4 : Option Value} : Wp S N d MX0_takeTogether 15 [x0, x1, x2, x3, x4] [.int v0, .int v1, .int v2, .ref v3, .ref v4] I J P Q ↔ Wp S N d MX0_takeTogether 16 [x0, x1, x2, x3, x4] [.int (v1 + v0), .int v2, .ref v3, .ref v4] I J P Q := wp_alu (len := 1) rfl rfl rfl dX0_takeTogether_15
theorem e_X0_takeTogether_16 {v0 : Int32} {v1 : Int32} {v2 : Nat} {v3 : Nat} {x0 x1 x2 x3 x4 : Option Value} : Wp S N (d + 1) MX0_takeTogether 16 [x0, x1, x2, x3, x4] [.int v0, .int v1, .ref v2, .ref v3] I J P Q ↔ S v3 = 0 ∧ CWp S N d MX0_takeAlone [.ref v3, .ref v2, .int v1, .int v0] I J P (fun r I1 J1 P1 => Wp S N (d + 1) MX0_takeTogether 19 [x0, x1, x2, x3, x4] (r.toList ++ []) I1 J1 P1 Q) := wp_callV (M' := MX0_takeAlone) (As := [.ref v2, .int v1, .int v0]) rfl rfl rfl rfl (by decide) (Nat.le_of_ble_eq_true rfl) dX0_takeTogether_16
theorem e_X0_takeTogether_19 {w : Nat} {x1 x2 x3 x4 : Option Value} : Wp S N d MX0_takeTogether 19 [some (.ref w), x1, x2, x3, x4] [] I J P Q ↔ Wp S N d MX0_takeTogether 20 [some (.ref w), x1, x2, x3, x4] [.ref w] I J P Q := wp_lod (len := 1) rfl rfl rfl rfl dX0_takeTogether_19
theorem e_X0_takeTogether_20 {v0 : Nat} {x0 x1 x2 x3 x4 : Option Value} : Wp S N d MX0_takeTogether 20 [x0, x1, x2, x3, x4] [.ref v0] I J P Q ↔ Wp S N d MX0_takeTogether 21 [x0, x1, x2, x3, x4] [.ref v0, .ref v0] I J P Q := wp_alu (len := 1) rfl rfl rfl dX0_takeTogether_20
theorem e_X0_takeTogether_21 {v0 : Nat} {v1 : Nat} {x0 x1 x2 x3 x4 : Option Value} : Wp S N d MX0_takeTogether 21 [x0, x1, x2, x3, x4] [.ref v0, .ref v1] I J P Q ↔ S v0 = 0 ∧ Wp S N d MX0_takeTogether 24 [x0, x1, x2, x3, x4] [.int (I v0 0), .ref v1] I J P Q := wp_getf rfl rfl rfl rfl dX0_takeTogether_21
theorem e_X0_takeTogether_24 {v0 : Int32} {v1 : Nat} {w : Nat} {x0 x2 x3 x4 : Option Value} : Wp S N d MX0_takeTogether 24 [x0, some (.ref w), x2, x3, x4] [.int v0, .ref v1] I J P Q ↔ Wp S N d MX0_takeTogether 25 [x0, some (.ref w), x2, x3, x4] [.ref w, .int v0, .ref v1] I J P Q := wp_lod (len := 1) rfl rfl rfl rfl dX0_takeTogether_24
theorem e_X0_takeTogether_25 {v0 : Nat} {v1 : Int32} {v2 : Nat} {x0 x1 x2 x3 x4 : Option Value} : Wp S N d MX0_takeTogether 25 [x0, x1, x2, x3, x4] [.ref v0, .int v1, .ref v2] I J P Q ↔ S v0 = 5 ∧ Wp S N d MX0_takeTogether 28 [x0, x1, x2, x3, x4] [va_rf (P v0 1), .int v1, .ref v2] I J P Q := wp_getf rfl rfl rfl rfl dX0_takeTogether_25
theorem e_X0_takeTogether_28 {v0 : Nat} {v1 : Int32} {v2 : Nat} {w : Int32} {x0 x1 x2 x4 : Option Value} : Wp S N d MX0_takeTogether 28 [x0, x1, x2, some (.int w), x4] [.ref v0, .int v1, .ref v2] I J P Q ↔ Wp S N d MX0_takeTogether 29 [x0, x1, x2, some (.int w), x4] [.int w, .ref v0, .int v1, .ref v2] I J P Q := wp_lod (len := 1) rfl rfl rfl rfl dX0_takeTogether_28
theorem e_X0_takeTogether_29 {v0 : Int32} {v1 : Nat} {v2 : Int32} {v3 : Nat} {x0 x1 x2 x3 x4 : Option Value} : Wp S N d MX0_takeTogether 29 [x0, x1, x2, x3, x4] [.int v0, .ref v1, .int v2, .ref v3] I J P Q ↔ (S v1 = 10 ∧ vp_in v0 (N v1)) ∧ Wp S N d MX0_takeTogether 30 [x0, x1, x2, x3, x4] [.int (I v1 v0.toNatClampNeg), .int v2, .ref v3] I J P Q := wp_ald rfl rfl dX0_takeTogether_29
theorem e_X0_takeTogether_30 {v0 : Int32} {v1 : Int32} {v2 : Nat} {x0 x1 x2 x3 x4 : Option Value} : Wp S N d MX0_takeTogether 30 [x0, x1, x2, x3, x4] [.int v0, .int v1, .ref v2] I J P Q ↔ Wp S N d MX0_takeTogether 31 [x0, x1, x2, x3, x4] [.int (v1 + v0), .ref v2] I J P Q := wp_alu (len := 1) rfl rfl rfl dX0_takeTogether_30
theorem e_X0_takeTogether_31 {v0 : Int32} {v1 : Nat} {x0 x1 x2 x3 x4 : Option Value} : Wp S N d MX0_takeTogether 31 [x0, x1, x2, x3, x4] [.int v0, .ref v1] I J P Q ↔ S v1 = 0 ∧ Wp S N d MX0_takeTogether 34 [x0, x1, x2, x3, x4] [] (u2 I v1 0 v0) J P Q := wp_putI rfl rfl rfl rfl dX0_takeTogether_31
theorem e_X0_takeTogether_34 {w : Nat} {x1 x2 x3 x4 : Option Value} : Wp S N d MX0_takeTogether 34 [some (.ref w), x1, x2, x3, x4] [] I J P Q ↔ Wp S N d MX0_takeTogether 35 [some (.ref w), x1, x2, x3, x4] [.ref w] I J P Q := wp_lod (len := 1) rfl rfl rfl rfl dX0_takeTogether_34
theorem e_X0_takeTogether_35 {v0 : Nat} {x0 x1 x2 x3 x4 : Option Value} : Wp S N d MX0_takeTogether 35 [x0, x1, x2, x3, x4] [.ref v0] I J P Q ↔ Wp S N d MX0_takeTogether 36 [x0, x1, x2, x3, x4] [.ref v0, .ref v0] I J P Q := wp_alu (len := 1) rfl rfl rfl dX0_takeTogether_35
theorem e_X0_takeTogether_36 {v0 : Nat} {v1 : Nat} {x0 x1 x2 x3 x4 : Option Value} : Wp S N d MX0_takeTogether 36 [x0, x1, x2, x3, x4] [.ref v0, .ref v1] I J P Q ↔ S v0 = 0 ∧ Wp S N d MX0_takeTogether 39 [x0, x1, x2, x3, x4] [.int (I v0 1), .ref v1] I J P Q := wp_getf rfl rfl rfl rfl dX0_takeTogether_36
theorem e_X0_takeTogether_39 {v0 : Int32} {v1 : Nat} {w : Nat} {x0 x2 x3 x4 : Option Value} : Wp S N d MX0_takeTogether 39 [x0, some (.ref w), x2, x3, x4] [.int v0, .ref v1] I J P Q ↔ Wp S N d MX0_takeTogether 40 [x0, some (.ref w), x2, x3, x4] [.ref w, .int v0, .ref v1] I J P Q := wp_lod (len := 1) rfl rfl rfl rfl dX0_takeTogether_39
theorem e_X0_takeTogether_40 {v0 : Nat} {v1 : Int32} {v2 : Nat} {x0 x1 x2 x3 x4 : Option Value} : Wp S N d MX0_takeTogether 40 [x0, x1, x2, x3, x4] [.ref v0, .int v1, .ref v2] I J P Q ↔ S v0 = 5 ∧ Wp S N d MX0_takeTogether 43 [x0, x1, x2, x3, x4] [va_rf (P v0 1), .int v1, .ref v2] I J P Q := wp_getf rfl rfl rfl rfl dX0_takeTogether_40
theorem e_X0_takeTogether_43 {v0 : Nat} {v1 : Int32} {v2 : Nat} {w : Int32} {x0 x1 x2 x4 : Option Value} : Wp S N d MX0_takeTogether 43 [x0, x1, x2, some (.int w), x4] [.ref v0, .int v1, .ref v2] I J P Q ↔ Wp S N d MX0_takeTogether 44 [x0, x1, x2, some (.int w), x4] [.int w, .ref v0, .int v1, .ref v2] I J P Q := wp_lod (len := 1) rfl rfl rfl rfl dX0_takeTogether_43
theorem e_X0_takeTogether_44 {v0 : Int32} {v1 : Nat} {v2 : Int32} {v3 : Nat} {x0 x1 x2 x3 x4 : Option Value} : Wp S N d MX0_takeTogether 44 [x0, x1, x2, x3, x4] [.int v0, .ref v1, .int v2, .ref v3] I J P Q ↔ (S v1 = 10 ∧ vp_in v0 (N v1)) ∧ Wp S N d MX0_takeTogether 45 [x0, x1, x2, x3, x4] [.int (I v1 v0.toNatClampNeg), .int v2, .ref v3] I J P Q := wp_ald rfl rfl dX0_takeTogether_44
theorem e_X0_takeTogether_45 {v0 : Int32} {v1 : Int32} {v2 : Nat} {w : Nat} {x0 x2 x3 x4 : Option Value} : Wp S N d MX0_takeTogether 45 [x0, some (.ref w), x2, x3, x4] [.int v0, .int v1, .ref v2] I J P Q ↔ Wp S N d MX0_takeTogether 46 [x0, some (.ref w), x2, x3, x4] [.ref w, .int v0, .int v1, .ref v2] I J P Q := wp_lod (len := 1) rfl rfl rfl rfl dX0_takeTogether_45
theorem e_X0_takeTogether_46 {v0 : Nat} {v1 : Int32} {v2 : Int32} {v3 : Nat} {x0 x1 x2 x3 x4 : Option Value} : Wp S N d MX0_takeTogether 46 [x0, x1, x2, x3, x4] [.ref v0, .int v1, .int v2, .ref v3] I J P Q ↔ S v0 = 5 ∧ Wp S N d MX0_takeTogether 49 [x0, x1, x2, x3, x4] [va_rf (P v0 2), .int v1, .int v2, .ref v3] I J P Q := wp_getf rfl rfl rfl rfl dX0_takeTogether_46
theorem e_X0_takeTogether_49 {v0 : Nat} {v1 : Int32} {v2 : Int32} {v3 : Nat} {w : Int32} {x0 x1 x2 x4 : Option Value} : Wp S N d MX0_takeTogether 49 [x0, x1, x2, some (.int w), x4] [.ref v0, .int v1, .int v2, .ref v3] I J P Q ↔ Wp S N d MX0_takeTogether 50 [x0, x1, x2, some (.int w), x4] [.int w, .ref v0, .int v1, .int v2, .ref v3] I J P Q := wp_lod (len := 1) rfl rfl rfl rfl dX0_takeTogether_49
theorem e_X0_takeTogether_50 {v0 : Int32} {v1 : Nat} {v2 : Int32} {v3 : Int32} {v4 : Nat} {x0 x1 x2 x3 x4 : Option Value} : Wp S N d MX0_takeTogether 50 [x0, x1, x2, x3, x4] [.int v0, .ref v1, .int v2, .int v3, .ref v4] I J P Q ↔ (S v1 = 10 ∧ vp_in v0 (N v1)) ∧ Wp S N d MX0_takeTogether 51 [x0, x1, x2, x3, x4] [.int (I v1 v0.toNatClampNeg), .int v2, .int v3, .ref v4] I J P Q := wp_ald rfl rfl dX0_takeTogether_50
theorem e_X0_takeTogether_51 {v0 : Int32} {v1 : Int32} {v2 : Int32} {v3 : Nat} {x0 x1 x2 x3 x4 : Option Value} : Wp S N d MX0_takeTogether 51 [x0, x1, x2, x3, x4] [.int v0, .int v1, .int v2, .ref v3] I J P Q ↔ Wp S N d MX0_takeTogether 52 [x0, x1, x2, x3, x4] [.int (v1 + v0), .int v2, .ref v3] I J P Q := wp_alu (len := 1) rfl rfl rfl dX0_takeTogether_51
theorem e_X0_takeTogether_52 {v0 : Int32} {v1 : Int32} {v2 : Nat} {x0 x1 x2 x3 x4 : Option Value} : Wp S N d MX0_takeTogether 52 [x0, x1, x2, x3, x4] [.int v0, .int v1, .ref v2] I J P Q ↔ Wp S N d MX0_takeTogether 53 [x0, x1, x2, x3, x4] [.int (v1 + v0), .ref v2] I J P Q := wp_alu (len := 1) rfl rfl rfl dX0_takeTogether_52
theorem e_X0_takeTogether_53 {v0 : Int32} {v1 : Nat} {x0 x1 x2 x3 x4 : Option Value} : Wp S N d MX0_takeTogether 53 [x0, x1, x2, x3, x4] [.int v0, .ref v1] I J P Q ↔ S v1 = 0 ∧ Wp S N d MX0_takeTogether 56 [x0, x1, x2, x3, x4] [] (u2 I v1 1 v0) J P Q := wp_putI rfl rfl rfl rfl dX0_takeTogether_53
theorem e_X0_takeTogether_56 {w : Nat} {x1 x2 x3 x4 : Option Value} : Wp S N d MX0_takeTogether 56 [some (.ref w), x1, x2, x3, x4] [] I J P Q ↔ Wp S N d MX0_takeTogether 57 [some (.ref w), x1, x2, x3, x4] [.ref w] I J P Q := wp_lod (len := 1) rfl rfl rfl rfl dX0_takeTogether_56
theorem e_X0_takeTogether_57 {v0 : Nat} {x0 x1 x2 x3 x4 : Option Value} : Wp S N d MX0_takeTogether 57 [x0, x1, x2, x3, x4] [.ref v0] I J P Q ↔ Wp S N d MX0_takeTogether 58 [x0, x1, x2, x3, x4] [.int 2, .ref v0] I J P Q := wp_iconst (by decide) dX0_takeTogether_57
theorem e_X0_takeTogether_58 {v0 : Int32} {v1 : Nat} {x0 x1 x2 x3 x4 : Option Value} : Wp S N d MX0_takeTogether 58 [x0, x1, x2, x3, x4] [.int v0, .ref v1] I J P Q ↔ S v1 = 0 ∧ Wp S N d MX0_takeTogether 61 [x0, x1, x2, x3, x4] [] (u2 I v1 3 v0) J P Q := wp_putI rfl rfl rfl rfl dX0_takeTogether_58
theorem e_X0_takeTogether_61  {x0 x1 x2 x3 x4 : Option Value} : Wp S N d MX0_takeTogether 61 [x0, x1, x2, x3, x4] [] I J P Q ↔ Wp S N d MX0_takeTogether 62 [x0, x1, x2, x3, x4] [.int 0] I J P Q := wp_iconst (by decide) dX0_takeTogether_61
theorem e_X0_takeTogether_62 {v0 : Int32} {x0 x1 x2 x3 x4 : Option Value} : Wp S N d MX0_takeTogether 62 [x0, x1, x2, x3, x4] [.int v0] I J P Q ↔ Wp S N d MX0_takeTogether 64 [x0, x1, x2, kl x3, some (.int v0)] [] I J P Q := wp_sto (len := 2) rfl rfl rfl rfl (Nat.le_of_ble_eq_true rfl) rfl dX0_takeTogether_62
theorem e_X0_takeTogether_64 {w : Int32} {x0 x1 x2 x3 : Option Value} : Wp S N d MX0_takeTogether 64 [x0, x1, x2, x3, some (.int w)] [] I J P Q ↔ Wp S N d MX0_takeTogether 66 [x0, x1, x2, x3, some (.int w)] [.int w] I J P Q := wp_lod (len := 2) rfl rfl rfl rfl dX0_takeTogether_64
theorem e_X0_takeTogether_66 {v0 : Int32} {x0 x1 x2 x3 x4 : Option Value} : Wp S N d MX0_takeTogether 66 [x0, x1, x2, x3, x4] [.int v0] I J P Q ↔ Wp S N d MX0_takeTogether 68 [x0, x1, x2, x3, x4] [.int 6, .int v0] I J P Q := wp_bipush (by decide) dX0_takeTogether_66
theorem e_X0_takeTogether_68 {v0 : Int32} {v1 : Int32} {x0 x1 x2 x3 x4 : Option Value} : Wp S N d MX0_takeTogether 68 [x0, x1, x2, x3, x4] [.int v0, .int v1] I J P Q ↔ (v0 ≤ v1 → Wp S N d MX0_takeTogether 102 [x0, x1, x2, x3, x4] [] I J P Q) ∧ (¬ v0 ≤ v1 → Wp S N d MX0_takeTogether 71 [x0, x1, x2, x3, x4] [] I J P Q) := wp_br rfl rfl (by decide) dX0_takeTogether_68
theorem e_X0_takeTogether_71 {w : Nat} {x1 x2 x3 x4 : Option Value} : Wp S N d MX0_takeTogether 71 [some (.ref w), x1, x2, x3, x4] [] I J P Q ↔ Wp S N d MX0_takeTogether 72 [some (.ref w), x1, x2, x3, x4] [.ref w] I J P Q := wp_lod (len := 1) rfl rfl rfl rfl dX0_takeTogether_71
theorem e_X0_takeTogether_72 {v0 : Nat} {x0 x1 x2 x3 x4 : Option Value} : Wp S N d MX0_takeTogether 72 [x0, x1, x2, x3, x4] [.ref v0] I J P Q ↔ S v0 = 0 ∧ Wp S N d MX0_takeTogether 75 [x0, x1, x2, x3, x4] [va_rf (P v0 4)] I J P Q := wp_getf rfl rfl rfl rfl dX0_takeTogether_72
theorem e_X0_takeTogether_75 {v0 : Nat} {w : Int32} {x0 x1 x2 x3 : Option Value} : Wp S N d MX0_takeTogether 75 [x0, x1, x2, x3, some (.int w)] [.ref v0] I J P Q ↔ Wp S N d MX0_takeTogether 77 [x0, x1, x2, x3, some (.int w)] [.int w, .ref v0] I J P Q := wp_lod (len := 2) rfl rfl rfl rfl dX0_takeTogether_75
theorem e_X0_takeTogether_77 {v0 : Int32} {v1 : Nat} {x0 x1 x2 x3 x4 : Option Value} : Wp S N d MX0_takeTogether 77 [x0, x1, x2, x3, x4] [.int v0, .ref v1] I J P Q ↔ Wp S N d MX0_takeTogether 78 [x0, x1, x2, x3, x4] [.int v0, .ref v1, .int v0, .ref v1] I J P Q := wp_alu (len := 1) rfl rfl rfl dX0_takeTogether_77
theorem e_X0_takeTogether_78 {v0 : Int32} {v1 : Nat} {v2 : Int32} {v3 : Nat} {x0 x1 x2 x3 x4 : Option Value} : Wp S N d MX0_takeTogether 78 [x0, x1, x2, x3, x4] [.int v0, .ref v1, .int v2, .ref v3] I J P Q ↔ (S v1 = 11 ∧ vp_in v0 (N v1)) ∧ Wp S N d MX0_takeTogether 79 [x0, x1, x2, x3, x4] [.long (J v1 v0.toNatClampNeg), .int v2, .ref v3] I J P Q := wp_ald rfl rfl dX0_takeTogether_78
theorem e_X0_takeTogether_79 {v0 : Int64} {v1 : Int32} {v2 : Nat} {w : Nat} {x0 x2 x3 x4 : Option Value} : Wp S N d MX0_takeTogether 79 [x0, some (.ref w), x2, x3, x4] [.long v0, .int v1, .ref v2] I J P Q ↔ Wp S N d MX0_takeTogether 80 [x0, some (.ref w), x2, x3, x4] [.ref w, .long v0, .int v1, .ref v2] I J P Q := wp_lod (len := 1) rfl rfl rfl rfl dX0_takeTogether_79
theorem e_X0_takeTogether_80 {v0 : Nat} {v1 : Int64} {v2 : Int32} {v3 : Nat} {x0 x1 x2 x3 x4 : Option Value} : Wp S N d MX0_takeTogether 80 [x0, x1, x2, x3, x4] [.ref v0, .long v1, .int v2, .ref v3] I J P Q ↔ S v0 = 5 ∧ Wp S N d MX0_takeTogether 83 [x0, x1, x2, x3, x4] [va_rf (P v0 0), .long v1, .int v2, .ref v3] I J P Q := wp_getf rfl rfl rfl rfl dX0_takeTogether_80
theorem e_X0_takeTogether_83 {v0 : Nat} {v1 : Int64} {v2 : Int32} {v3 : Nat} {x0 x1 x2 x3 x4 : Option Value} : Wp S N d MX0_takeTogether 83 [x0, x1, x2, x3, x4] [.ref v0, .long v1, .int v2, .ref v3] I J P Q ↔ S v0 = 7 ∧ Wp S N d MX0_takeTogether 86 [x0, x1, x2, x3, x4] [va_rf (P v0 8), .long v1, .int v2, .ref v3] I J P Q := wp_getf rfl rfl rfl rfl dX0_takeTogether_83
theorem e_X0_takeTogether_86 {v0 : Nat} {v1 : Int64} {v2 : Int32} {v3 : Nat} {w : Int32} {x0 x1 x2 x3 : Option Value} : Wp S N d MX0_takeTogether 86 [x0, x1, x2, x3, some (.int w)] [.ref v0, .long v1, .int v2, .ref v3] I J P Q ↔ Wp S N d MX0_takeTogether 88 [x0, x1, x2, x3, some (.int w)] [.int w, .ref v0, .long v1, .int v2, .ref v3] I J P Q := wp_lod (len := 2) rfl rfl rfl rfl dX0_takeTogether_86
theorem e_X0_takeTogether_88 {v0 : Int32} {v1 : Nat} {v2 : Int64} {v3 : Int32} {v4 : Nat} {x0 x1 x2 x3 x4 : Option Value} : Wp S N d MX0_takeTogether 88 [x0, x1, x2, x3, x4] [.int v0, .ref v1, .long v2, .int v3, .ref v4] I J P Q ↔ ((S v1 = 12 ∨ S v1 = 13 ∨ S v1 = 14) ∧ vp_in v0 (N v1)) ∧ Wp S N d MX0_takeTogether 89 [x0, x1, x2, x3, x4] [va_rf (P v1 v0.toNatClampNeg), .long v2, .int v3, .ref v4] I J P Q := wp_ald rfl rfl dX0_takeTogether_88
theorem e_X0_takeTogether_89 {v0 : Nat} {v1 : Int64} {v2 : Int32} {v3 : Nat} {x0 x1 x2 x3 x4 : Option Value} : Wp S N d MX0_takeTogether 89 [x0, x1, x2, x3, x4] [.ref v0, .long v1, .int v2, .ref v3] I J P Q ↔ S v0 = 2 ∧ Wp S N d MX0_takeTogether 92 [x0, x1, x2, x3, x4] [va_rf (P v0 1), .long v1, .int v2, .ref v3] I J P Q := wp_getf rfl rfl rfl rfl dX0_takeTogether_89
theorem e_X0_takeTogether_92 {v0 : Nat} {v1 : Int64} {v2 : Int32} {v3 : Nat} {w : Int32} {x0 x1 x2 x4 : Option Value} : Wp S N d MX0_takeTogether 92 [x0, x1, x2, some (.int w), x4] [.ref v0, .long v1, .int v2, .ref v3] I J P Q ↔ Wp S N d MX0_takeTogether 93 [x0, x1, x2, some (.int w), x4] [.int w, .ref v0, .long v1, .int v2, .ref v3] I J P Q := wp_lod (len := 1) rfl rfl rfl rfl dX0_takeTogether_92
theorem e_X0_takeTogether_93 {v0 : Int32} {v1 : Nat} {v2 : Int64} {v3 : Int32} {v4 : Nat} {x0 x1 x2 x3 x4 : Option Value} : Wp S N d MX0_takeTogether 93 [x0, x1, x2, x3, x4] [.int v0, .ref v1, .long v2, .int v3, .ref v4] I J P Q ↔ (S v1 = 11 ∧ vp_in v0 (N v1)) ∧ Wp S N d MX0_takeTogether 94 [x0, x1, x2, x3, x4] [.long (J v1 v0.toNatClampNeg), .long v2, .int v3, .ref v4] I J P Q := wp_ald rfl rfl dX0_takeTogether_93
theorem e_X0_takeTogether_94 {v0 : Int64} {v1 : Int64} {v2 : Int32} {v3 : Nat} {x0 x1 x2 x3 x4 : Option Value} : Wp S N d MX0_takeTogether 94 [x0, x1, x2, x3, x4] [.long v0, .long v1, .int v2, .ref v3] I J P Q ↔ Wp S N d MX0_takeTogether 95 [x0, x1, x2, x3, x4] [.long (v1 + v0), .int v2, .ref v3] I J P Q := wp_alu (len := 1) rfl rfl rfl dX0_takeTogether_94
theorem e_X0_takeTogether_95 {v0 : Int64} {v1 : Int32} {v2 : Nat} {x0 x1 x2 x3 x4 : Option Value} : Wp S N d MX0_takeTogether 95 [x0, x1, x2, x3, x4] [.long v0, .int v1, .ref v2] I J P Q ↔ (S v2 = 11 ∧ vp_in v1 (N v2)) ∧ Wp S N d MX0_takeTogether 96 [x0, x1, x2, x3, x4] [] I (u2 J v2 v1.toNatClampNeg v0) P Q := wp_ast rfl rfl dX0_takeTogether_95
theorem e_X0_takeTogether_96 {w : Int32} {x0 x1 x2 x3 : Option Value} : Wp S N d MX0_takeTogether 96 [x0, x1, x2, x3, some (.int w)] [] I J P Q ↔ Wp S N d MX0_takeTogether 99 [x0, x1, x2, kl x3, some (.int (w + 1))] [] I J P Q := wp_inc rfl rfl dX0_takeTogether_96
theorem e_X0_takeTogether_99  {x0 x1 x2 x3 x4 : Option Value} : Wp S N d MX0_takeTogether 99 [x0, x1, x2, x3, x4] [] I J P Q ↔ Wp S N d MX0_takeTogether 64 [x0, x1, x2, x3, x4] [] I J P Q := wp_go (len := 3) rfl (fun _ _ => rfl) rfl (by decide) dX0_takeTogether_99
theorem e_X0_takeTogether_102  {x0 x1 x2 x3 x4 : Option Value} : Wp S N d MX0_takeTogether 102 [x0, x1, x2, x3, x4] [] I J P Q ↔ Q none I J P := wp_vret rfl dX0_takeTogether_102
theorem dX0_earn_0 : decode cX0_earn 0 = .ok (.aload_n 0, 1) := by decide +kernel
theorem dX0_earn_1 : decode cX0_earn 1 = .ok (.dup, 1) := by decide +kernel
theorem dX0_earn_2 : decode cX0_earn 2 = .ok (.getfield 36, 3) := by decide +kernel
theorem dX0_earn_5 : decode cX0_earn 5 = .ok (.iload_n 1, 1) := by decide +kernel
theorem dX0_earn_6 : decode cX0_earn 6 = .ok (.aload_n 0, 1) := by decide +kernel
theorem dX0_earn_7 : decode cX0_earn 7 = .ok (.getfield 29, 3) := by decide +kernel
theorem dX0_earn_10 : decode cX0_earn 10 = .ok (.isub, 1) := by decide +kernel
theorem dX0_earn_11 : decode cX0_earn 11 = .ok (.iadd, 1) := by decide +kernel
theorem dX0_earn_12 : decode cX0_earn 12 = .ok (.putfield 36, 3) := by decide +kernel
theorem dX0_earn_15 : decode cX0_earn 15 = .ok (.aload_n 0, 1) := by decide +kernel
theorem dX0_earn_16 : decode cX0_earn 16 = .ok (.iload_n 1, 1) := by decide +kernel
theorem dX0_earn_17 : decode cX0_earn 17 = .ok (.putfield 29, 3) := by decide +kernel
theorem dX0_earn_20 : decode cX0_earn 20 = .ok (.return_, 1) := by decide +kernel
theorem c_X0_earn {a0 : Nat} {a1 : Int32} : CWp S N d MX0_earn [.ref a0, .int a1] I J P Q ↔ Wp S N d MX0_earn 0 [some (.ref a0), some (.int a1)] [] I J P Q := by
  rw [cwp_iff]
  exact ⟨fun h => h.2, fun h => ⟨Nat.le_of_ble_eq_true rfl, h⟩⟩
theorem e_X0_earn_0 {w : Nat} {x1 : Option Value} : Wp S N d MX0_earn 0 [some (.ref w), x1] [] I J P Q ↔ Wp S N d MX0_earn 1 [some (.ref w), x1] [.ref w] I J P Q := wp_lod (len := 1) rfl rfl rfl rfl dX0_earn_0
theorem e_X0_earn_1 {v0 : Nat} {x0 x1 : Option Value} : Wp S N d MX0_earn 1 [x0, x1] [.ref v0] I J P Q ↔ Wp S N d MX0_earn 2 [x0, x1] [.ref v0, .ref v0] I J P Q := wp_alu (len := 1) rfl rfl rfl dX0_earn_1
theorem e_X0_earn_2 {v0 : Nat} {v1 : Nat} {x0 x1 : Option Value} : Wp S N d MX0_earn 2 [x0, x1] [.ref v0, .ref v1] I J P Q ↔ S v0 = 0 ∧ Wp S N d MX0_earn 5 [x0, x1] [.int (I v0 1), .ref v1] I J P Q := wp_getf rfl rfl rfl rfl dX0_earn_2
theorem e_X0_earn_5 {v0 : Int32} {v1 : Nat} {w : Int32} {x0 : Option Value} : Wp S N d MX0_earn 5 [x0, some (.int w)] [.int v0, .ref v1] I J P Q ↔ Wp S N d MX0_earn 6 [x0, some (.int w)] [.int w, .int v0, .ref v1] I J P Q := wp_lod (len := 1) rfl rfl rfl rfl dX0_earn_5
theorem e_X0_earn_6 {v0 : Int32} {v1 : Int32} {v2 : Nat} {w : Nat} {x1 : Option Value} : Wp S N d MX0_earn 6 [some (.ref w), x1] [.int v0, .int v1, .ref v2] I J P Q ↔ Wp S N d MX0_earn 7 [some (.ref w), x1] [.ref w, .int v0, .int v1, .ref v2] I J P Q := wp_lod (len := 1) rfl rfl rfl rfl dX0_earn_6
theorem e_X0_earn_7 {v0 : Nat} {v1 : Int32} {v2 : Int32} {v3 : Nat} {x0 x1 : Option Value} : Wp S N d MX0_earn 7 [x0, x1] [.ref v0, .int v1, .int v2, .ref v3] I J P Q ↔ S v0 = 0 ∧ Wp S N d MX0_earn 10 [x0, x1] [.int (I v0 0), .int v1, .int v2, .ref v3] I J P Q := wp_getf rfl rfl rfl rfl dX0_earn_7
theorem e_X0_earn_10 {v0 : Int32} {v1 : Int32} {v2 : Int32} {v3 : Nat} {x0 x1 : Option Value} : Wp S N d MX0_earn 10 [x0, x1] [.int v0, .int v1, .int v2, .ref v3] I J P Q ↔ Wp S N d MX0_earn 11 [x0, x1] [.int (v1 - v0), .int v2, .ref v3] I J P Q := wp_alu (len := 1) rfl rfl rfl dX0_earn_10
theorem e_X0_earn_11 {v0 : Int32} {v1 : Int32} {v2 : Nat} {x0 x1 : Option Value} : Wp S N d MX0_earn 11 [x0, x1] [.int v0, .int v1, .ref v2] I J P Q ↔ Wp S N d MX0_earn 12 [x0, x1] [.int (v1 + v0), .ref v2] I J P Q := wp_alu (len := 1) rfl rfl rfl dX0_earn_11
theorem e_X0_earn_12 {v0 : Int32} {v1 : Nat} {x0 x1 : Option Value} : Wp S N d MX0_earn 12 [x0, x1] [.int v0, .ref v1] I J P Q ↔ S v1 = 0 ∧ Wp S N d MX0_earn 15 [x0, x1] [] (u2 I v1 1 v0) J P Q := wp_putI rfl rfl rfl rfl dX0_earn_12
theorem e_X0_earn_15 {w : Nat} {x1 : Option Value} : Wp S N d MX0_earn 15 [some (.ref w), x1] [] I J P Q ↔ Wp S N d MX0_earn 16 [some (.ref w), x1] [.ref w] I J P Q := wp_lod (len := 1) rfl rfl rfl rfl dX0_earn_15
theorem e_X0_earn_16 {v0 : Nat} {w : Int32} {x0 : Option Value} : Wp S N d MX0_earn 16 [x0, some (.int w)] [.ref v0] I J P Q ↔ Wp S N d MX0_earn 17 [x0, some (.int w)] [.int w, .ref v0] I J P Q := wp_lod (len := 1) rfl rfl rfl rfl dX0_earn_16
theorem e_X0_earn_17 {v0 : Int32} {v1 : Nat} {x0 x1 : Option Value} : Wp S N d MX0_earn 17 [x0, x1] [.int v0, .ref v1] I J P Q ↔ S v1 = 0 ∧ Wp S N d MX0_earn 20 [x0, x1] [] (u2 I v1 0 v0) J P Q := wp_putI rfl rfl rfl rfl dX0_earn_17
theorem e_X0_earn_20  {x0 x1 : Option Value} : Wp S N d MX0_earn 20 [x0, x1] [] I J P Q ↔ Q none I J P := wp_vret rfl dX0_earn_20
theorem dX0_compute_0 : decode cX0_compute 0 = .ok (.aload_n 1, 1) := by decide +kernel
theorem dX0_compute_1 : decode cX0_compute 1 = .ok (.getfield 66, 3) := by decide +kernel
theorem dX0_compute_4 : decode cX0_compute 4 = .ok (.astore_n 2, 1) := by decide +kernel
theorem dX0_compute_5 : decode cX0_compute 5 = .ok (.aload_n 0, 1) := by decide +kernel
theorem dX0_compute_6 : decode cX0_compute 6 = .ok (.getfield 42, 3) := by decide +kernel
theorem dX0_compute_9 : decode cX0_compute 9 = .ok (.aload_n 2, 1) := by decide +kernel
theorem dX0_compute_10 : decode cX0_compute 10 = .ok (.iconst 0, 1) := by decide +kernel
theorem dX0_compute_11 : decode cX0_compute 11 = .ok (.iaload, 1) := by decide +kernel
theorem dX0_compute_12 : decode cX0_compute 12 = .ok (.imul, 1) := by decide +kernel
theorem dX0_compute_13 : decode cX0_compute 13 = .ok (.i2l, 1) := by decide +kernel
theorem dX0_compute_14 : decode cX0_compute 14 = .ok (.ldc2_w 69, 3) := by decide +kernel
theorem dX0_compute_17 : decode cX0_compute 17 = .ok (.lmul, 1) := by decide +kernel
theorem dX0_compute_18 : decode cX0_compute 18 = .ok (.aload_n 0, 1) := by decide +kernel
theorem dX0_compute_19 : decode cX0_compute 19 = .ok (.aload_n 2, 1) := by decide +kernel
theorem dX0_compute_20 : decode cX0_compute 20 = .ok (.iconst 1, 1) := by decide +kernel
theorem dX0_compute_21 : decode cX0_compute 21 = .ok (.iaload, 1) := by decide +kernel
theorem dX0_compute_22 : decode cX0_compute 22 = .ok (.aload_n 2, 1) := by decide +kernel
theorem dX0_compute_23 : decode cX0_compute 23 = .ok (.iconst 2, 1) := by decide +kernel
theorem dX0_compute_24 : decode cX0_compute 24 = .ok (.iaload, 1) := by decide +kernel
theorem dX0_compute_25 : decode cX0_compute 25 = .ok (.invokevirtual 71, 3) := by decide +kernel
theorem dX0_compute_28 : decode cX0_compute 28 = .ok (.lsub, 1) := by decide +kernel
theorem dX0_compute_29 : decode cX0_compute 29 = .ok (.lstore_n 3, 1) := by decide +kernel
theorem dX0_compute_30 : decode cX0_compute 30 = .ok (.aload_n 0, 1) := by decide +kernel
theorem dX0_compute_31 : decode cX0_compute 31 = .ok (.getfield 15, 3) := by decide +kernel
theorem dX0_compute_34 : decode cX0_compute 34 = .ok (.iconst 0, 1) := by decide +kernel
theorem dX0_compute_35 : decode cX0_compute 35 = .ok (.lconst 0, 1) := by decide +kernel
theorem dX0_compute_36 : decode cX0_compute 36 = .ok (.lload_n 3, 1) := by decide +kernel
theorem dX0_compute_37 : decode cX0_compute 37 = .ok (.invokestatic 75, 3) := by decide +kernel
theorem dX0_compute_40 : decode cX0_compute 40 = .ok (.lastore, 1) := by decide +kernel
theorem dX0_compute_41 : decode cX0_compute 41 = .ok (.aload_n 0, 1) := by decide +kernel
theorem dX0_compute_42 : decode cX0_compute 42 = .ok (.getfield 15, 3) := by decide +kernel
theorem dX0_compute_45 : decode cX0_compute 45 = .ok (.iconst 1, 1) := by decide +kernel
theorem dX0_compute_46 : decode cX0_compute 46 = .ok (.lconst 0, 1) := by decide +kernel
theorem dX0_compute_47 : decode cX0_compute 47 = .ok (.aload_n 0, 1) := by decide +kernel
theorem dX0_compute_48 : decode cX0_compute 48 = .ok (.getfield 36, 3) := by decide +kernel
theorem dX0_compute_51 : decode cX0_compute 51 = .ok (.i2l, 1) := by decide +kernel
theorem dX0_compute_52 : decode cX0_compute 52 = .ok (.ldc2_w 69, 3) := by decide +kernel
theorem dX0_compute_55 : decode cX0_compute 55 = .ok (.lmul, 1) := by decide +kernel
theorem dX0_compute_56 : decode cX0_compute 56 = .ok (.aload_n 0, 1) := by decide +kernel
theorem dX0_compute_57 : decode cX0_compute 57 = .ok (.getfield 15, 3) := by decide +kernel
theorem dX0_compute_60 : decode cX0_compute 60 = .ok (.iconst 0, 1) := by decide +kernel
theorem dX0_compute_61 : decode cX0_compute 61 = .ok (.laload, 1) := by decide +kernel
theorem dX0_compute_62 : decode cX0_compute 62 = .ok (.lsub, 1) := by decide +kernel
theorem dX0_compute_63 : decode cX0_compute 63 = .ok (.invokestatic 75, 3) := by decide +kernel
theorem dX0_compute_66 : decode cX0_compute 66 = .ok (.lastore, 1) := by decide +kernel
theorem dX0_compute_67 : decode cX0_compute 67 = .ok (.aload_n 0, 1) := by decide +kernel
theorem dX0_compute_68 : decode cX0_compute 68 = .ok (.getfield 15, 3) := by decide +kernel
theorem dX0_compute_71 : decode cX0_compute 71 = .ok (.iconst 2, 1) := by decide +kernel
theorem dX0_compute_72 : decode cX0_compute 72 = .ok (.aload_n 0, 1) := by decide +kernel
theorem dX0_compute_73 : decode cX0_compute 73 = .ok (.aload_n 1, 1) := by decide +kernel
theorem dX0_compute_74 : decode cX0_compute 74 = .ok (.aload_n 0, 1) := by decide +kernel
theorem dX0_compute_75 : decode cX0_compute 75 = .ok (.getfield 15, 3) := by decide +kernel
theorem dX0_compute_78 : decode cX0_compute 78 = .ok (.iconst 1, 1) := by decide +kernel
theorem dX0_compute_79 : decode cX0_compute 79 = .ok (.laload, 1) := by decide +kernel
theorem dX0_compute_80 : decode cX0_compute 80 = .ok (.invokevirtual 81, 3) := by decide +kernel
theorem dX0_compute_83 : decode cX0_compute 83 = .ok (.lastore, 1) := by decide +kernel
theorem dX0_compute_84 : decode cX0_compute 84 = .ok (.aload_n 0, 1) := by decide +kernel
theorem dX0_compute_85 : decode cX0_compute 85 = .ok (.getfield 15, 3) := by decide +kernel
theorem dX0_compute_88 : decode cX0_compute 88 = .ok (.iconst 3, 1) := by decide +kernel
theorem dX0_compute_89 : decode cX0_compute 89 = .ok (.aload_n 0, 1) := by decide +kernel
theorem dX0_compute_90 : decode cX0_compute 90 = .ok (.aload_n 2, 1) := by decide +kernel
theorem dX0_compute_91 : decode cX0_compute 91 = .ok (.iconst 3, 1) := by decide +kernel
theorem dX0_compute_92 : decode cX0_compute 92 = .ok (.iaload, 1) := by decide +kernel
theorem dX0_compute_93 : decode cX0_compute 93 = .ok (.aload_n 2, 1) := by decide +kernel
theorem dX0_compute_94 : decode cX0_compute 94 = .ok (.iconst 4, 1) := by decide +kernel
theorem dX0_compute_95 : decode cX0_compute 95 = .ok (.iaload, 1) := by decide +kernel
theorem dX0_compute_96 : decode cX0_compute 96 = .ok (.invokevirtual 71, 3) := by decide +kernel
theorem dX0_compute_99 : decode cX0_compute 99 = .ok (.lastore, 1) := by decide +kernel
theorem dX0_compute_100 : decode cX0_compute 100 = .ok (.aload_n 0, 1) := by decide +kernel
theorem dX0_compute_101 : decode cX0_compute 101 = .ok (.getfield 15, 3) := by decide +kernel
theorem dX0_compute_104 : decode cX0_compute 104 = .ok (.iconst 4, 1) := by decide +kernel
theorem dX0_compute_105 : decode cX0_compute 105 = .ok (.aload_n 0, 1) := by decide +kernel
theorem dX0_compute_106 : decode cX0_compute 106 = .ok (.getfield 15, 3) := by decide +kernel
theorem dX0_compute_109 : decode cX0_compute 109 = .ok (.iconst 2, 1) := by decide +kernel
theorem dX0_compute_110 : decode cX0_compute 110 = .ok (.laload, 1) := by decide +kernel
theorem dX0_compute_111 : decode cX0_compute 111 = .ok (.aload_n 0, 1) := by decide +kernel
theorem dX0_compute_112 : decode cX0_compute 112 = .ok (.getfield 15, 3) := by decide +kernel
theorem dX0_compute_115 : decode cX0_compute 115 = .ok (.iconst 3, 1) := by decide +kernel
theorem dX0_compute_116 : decode cX0_compute 116 = .ok (.laload, 1) := by decide +kernel
theorem dX0_compute_117 : decode cX0_compute 117 = .ok (.invokestatic 75, 3) := by decide +kernel
theorem dX0_compute_120 : decode cX0_compute 120 = .ok (.lastore, 1) := by decide +kernel
theorem dX0_compute_121 : decode cX0_compute 121 = .ok (.aload_n 0, 1) := by decide +kernel
theorem dX0_compute_122 : decode cX0_compute 122 = .ok (.getfield 15, 3) := by decide +kernel
theorem dX0_compute_125 : decode cX0_compute 125 = .ok (.iconst 5, 1) := by decide +kernel
theorem dX0_compute_126 : decode cX0_compute 126 = .ok (.aload_n 0, 1) := by decide +kernel
theorem dX0_compute_127 : decode cX0_compute 127 = .ok (.getfield 15, 3) := by decide +kernel
theorem dX0_compute_130 : decode cX0_compute 130 = .ok (.iconst 4, 1) := by decide +kernel
theorem dX0_compute_131 : decode cX0_compute 131 = .ok (.laload, 1) := by decide +kernel
theorem dX0_compute_132 : decode cX0_compute 132 = .ok (.aload_n 0, 1) := by decide +kernel
theorem dX0_compute_133 : decode cX0_compute 133 = .ok (.aload_n 1, 1) := by decide +kernel
theorem dX0_compute_134 : decode cX0_compute 134 = .ok (.invokevirtual 85, 3) := by decide +kernel
theorem dX0_compute_137 : decode cX0_compute 137 = .ok (.i2l, 1) := by decide +kernel
theorem dX0_compute_138 : decode cX0_compute 138 = .ok (.ldc2_w 69, 3) := by decide +kernel
theorem dX0_compute_141 : decode cX0_compute 141 = .ok (.lmul, 1) := by decide +kernel
theorem dX0_compute_142 : decode cX0_compute 142 = .ok (.ladd, 1) := by decide +kernel
theorem dX0_compute_143 : decode cX0_compute 143 = .ok (.lastore, 1) := by decide +kernel
theorem dX0_compute_144 : decode cX0_compute 144 = .ok (.aload_n 0, 1) := by decide +kernel
theorem dX0_compute_145 : decode cX0_compute 145 = .ok (.aload_n 0, 1) := by decide +kernel
theorem dX0_compute_146 : decode cX0_compute 146 = .ok (.getfield 15, 3) := by decide +kernel
theorem dX0_compute_149 : decode cX0_compute 149 = .ok (.iconst 5, 1) := by decide +kernel
theorem dX0_compute_150 : decode cX0_compute 150 = .ok (.laload, 1) := by decide +kernel
theorem dX0_compute_151 : decode cX0_compute 151 = .ok (.putfield 89, 3) := by decide +kernel
theorem dX0_compute_154 : decode cX0_compute 154 = .ok (.iconst 0, 1) := by decide +kernel
theorem dX0_compute_155 : decode cX0_compute 155 = .ok (.istore 5, 2) := by decide +kernel
theorem dX0_compute_157 : decode cX0_compute 157 = .ok (.iload 5, 2) := by decide +kernel
theorem dX0_compute_159 : decode cX0_compute 159 = .ok (.aload_n 1, 1) := by decide +kernel
theorem dX0_compute_160 : decode cX0_compute 160 = .ok (.getfield 93, 3) := by decide +kernel
theorem dX0_compute_163 : decode cX0_compute 163 = .ok (.if_icmp .ge 50, 3) := by decide +kernel
theorem dX0_compute_166 : decode cX0_compute 166 = .ok (.aload_n 0, 1) := by decide +kernel
theorem dX0_compute_167 : decode cX0_compute 167 = .ok (.getfield 20, 3) := by decide +kernel
theorem dX0_compute_170 : decode cX0_compute 170 = .ok (.iload 5, 2) := by decide +kernel
theorem dX0_compute_172 : decode cX0_compute 172 = .ok (.aaload, 1) := by decide +kernel
theorem dX0_compute_173 : decode cX0_compute 173 = .ok (.iconst 0, 1) := by decide +kernel
theorem dX0_compute_174 : decode cX0_compute 174 = .ok (.aload_n 0, 1) := by decide +kernel
theorem dX0_compute_175 : decode cX0_compute 175 = .ok (.aload_n 1, 1) := by decide +kernel
theorem dX0_compute_176 : decode cX0_compute 176 = .ok (.getfield 49, 3) := by decide +kernel
theorem dX0_compute_179 : decode cX0_compute 179 = .ok (.iload 5, 2) := by decide +kernel
theorem dX0_compute_181 : decode cX0_compute 181 = .ok (.aaload, 1) := by decide +kernel
theorem dX0_compute_182 : decode cX0_compute 182 = .ok (.getfield 96, 3) := by decide +kernel
theorem dX0_compute_185 : decode cX0_compute 185 = .ok (.invokevirtual 99, 3) := by decide +kernel
theorem dX0_compute_188 : decode cX0_compute 188 = .ok (.lastore, 1) := by decide +kernel
theorem dX0_compute_189 : decode cX0_compute 189 = .ok (.aload_n 0, 1) := by decide +kernel
theorem dX0_compute_190 : decode cX0_compute 190 = .ok (.iload 5, 2) := by decide +kernel
theorem dX0_compute_192 : decode cX0_compute 192 = .ok (.aload_n 1, 1) := by decide +kernel
theorem dX0_compute_193 : decode cX0_compute 193 = .ok (.getfield 49, 3) := by decide +kernel
theorem dX0_compute_196 : decode cX0_compute 196 = .ok (.iload 5, 2) := by decide +kernel
theorem dX0_compute_198 : decode cX0_compute 198 = .ok (.aaload, 1) := by decide +kernel
theorem dX0_compute_199 : decode cX0_compute 199 = .ok (.getfield 96, 3) := by decide +kernel
theorem dX0_compute_202 : decode cX0_compute 202 = .ok (.iconst 0, 1) := by decide +kernel
theorem dX0_compute_203 : decode cX0_compute 203 = .ok (.iaload, 1) := by decide +kernel
theorem dX0_compute_204 : decode cX0_compute 204 = .ok (.invokevirtual 103, 3) := by decide +kernel
theorem dX0_compute_207 : decode cX0_compute 207 = .ok (.iinc 5 1, 3) := by decide +kernel
theorem dX0_compute_210 : decode cX0_compute 210 = .ok (.goto (-53), 3) := by decide +kernel
theorem dX0_compute_213 : decode cX0_compute 213 = .ok (.return_, 1) := by decide +kernel
theorem c_X0_compute {a0 : Nat} {a1 : Nat} : CWp S N d MX0_compute [.ref a0, .ref a1] I J P Q ↔ Wp S N d MX0_compute 0 [some (.ref a0), some (.ref a1), none, none, none, none] [] I J P Q := by
  rw [cwp_iff]
  exact ⟨fun h => h.2, fun h => ⟨Nat.le_of_ble_eq_true rfl, h⟩⟩
theorem e_X0_compute_0 {w : Nat} {x0 x2 x3 x4 x5 : Option Value} : Wp S N d MX0_compute 0 [x0, some (.ref w), x2, x3, x4, x5] [] I J P Q ↔ Wp S N d MX0_compute 1 [x0, some (.ref w), x2, x3, x4, x5] [.ref w] I J P Q := wp_lod (len := 1) rfl rfl rfl rfl dX0_compute_0
theorem e_X0_compute_1 {v0 : Nat} {x0 x1 x2 x3 x4 x5 : Option Value} : Wp S N d MX0_compute 1 [x0, x1, x2, x3, x4, x5] [.ref v0] I J P Q ↔ S v0 = 7 ∧ Wp S N d MX0_compute 4 [x0, x1, x2, x3, x4, x5] [va_rf (P v0 3)] I J P Q := wp_getf rfl rfl rfl rfl dX0_compute_1
theorem e_X0_compute_4 {v0 : Nat} {x0 x1 x2 x3 x4 x5 : Option Value} : Wp S N d MX0_compute 4 [x0, x1, x2, x3, x4, x5] [.ref v0] I J P Q ↔ Wp S N d MX0_compute 5 [x0, kl x1, some (.ref v0), x3, x4, x5] [] I J P Q := wp_sto (len := 1) rfl rfl rfl rfl (Nat.le_of_ble_eq_true rfl) rfl dX0_compute_4
theorem e_X0_compute_5 {w : Nat} {x1 x2 x3 x4 x5 : Option Value} : Wp S N d MX0_compute 5 [some (.ref w), x1, x2, x3, x4, x5] [] I J P Q ↔ Wp S N d MX0_compute 6 [some (.ref w), x1, x2, x3, x4, x5] [.ref w] I J P Q := wp_lod (len := 1) rfl rfl rfl rfl dX0_compute_5
theorem e_X0_compute_6 {v0 : Nat} {x0 x1 x2 x3 x4 x5 : Option Value} : Wp S N d MX0_compute 6 [x0, x1, x2, x3, x4, x5] [.ref v0] I J P Q ↔ S v0 = 0 ∧ Wp S N d MX0_compute 9 [x0, x1, x2, x3, x4, x5] [.int (I v0 3)] I J P Q := wp_getf rfl rfl rfl rfl dX0_compute_6
theorem e_X0_compute_9 {v0 : Int32} {w : Nat} {x0 x1 x3 x4 x5 : Option Value} : Wp S N d MX0_compute 9 [x0, x1, some (.ref w), x3, x4, x5] [.int v0] I J P Q ↔ Wp S N d MX0_compute 10 [x0, x1, some (.ref w), x3, x4, x5] [.ref w, .int v0] I J P Q := wp_lod (len := 1) rfl rfl rfl rfl dX0_compute_9
theorem e_X0_compute_10 {v0 : Nat} {v1 : Int32} {x0 x1 x2 x3 x4 x5 : Option Value} : Wp S N d MX0_compute 10 [x0, x1, x2, x3, x4, x5] [.ref v0, .int v1] I J P Q ↔ Wp S N d MX0_compute 11 [x0, x1, x2, x3, x4, x5] [.int 0, .ref v0, .int v1] I J P Q := wp_iconst (by decide) dX0_compute_10
theorem e_X0_compute_11 {v0 : Int32} {v1 : Nat} {v2 : Int32} {x0 x1 x2 x3 x4 x5 : Option Value} : Wp S N d MX0_compute 11 [x0, x1, x2, x3, x4, x5] [.int v0, .ref v1, .int v2] I J P Q ↔ (S v1 = 10 ∧ vp_in v0 (N v1)) ∧ Wp S N d MX0_compute 12 [x0, x1, x2, x3, x4, x5] [.int (I v1 v0.toNatClampNeg), .int v2] I J P Q := wp_ald rfl rfl dX0_compute_11
theorem e_X0_compute_12 {v0 : Int32} {v1 : Int32} {x0 x1 x2 x3 x4 x5 : Option Value} : Wp S N d MX0_compute 12 [x0, x1, x2, x3, x4, x5] [.int v0, .int v1] I J P Q ↔ Wp S N d MX0_compute 13 [x0, x1, x2, x3, x4, x5] [.int (v1 * v0)] I J P Q := wp_alu (len := 1) rfl rfl rfl dX0_compute_12
theorem e_X0_compute_13 {v0 : Int32} {x0 x1 x2 x3 x4 x5 : Option Value} : Wp S N d MX0_compute 13 [x0, x1, x2, x3, x4, x5] [.int v0] I J P Q ↔ Wp S N d MX0_compute 14 [x0, x1, x2, x3, x4, x5] [.long v0.toInt64] I J P Q := wp_alu (len := 1) rfl rfl rfl dX0_compute_13
theorem e_X0_compute_14 {v0 : Int64} {x0 x1 x2 x3 x4 x5 : Option Value} : Wp S N d MX0_compute 14 [x0, x1, x2, x3, x4, x5] [.long v0] I J P Q ↔ Wp S N d MX0_compute 17 [x0, x1, x2, x3, x4, x5] [.long 1000000, .long v0] I J P Q := wp_ldc2 rfl dX0_compute_14
theorem e_X0_compute_17 {v0 : Int64} {v1 : Int64} {x0 x1 x2 x3 x4 x5 : Option Value} : Wp S N d MX0_compute 17 [x0, x1, x2, x3, x4, x5] [.long v0, .long v1] I J P Q ↔ Wp S N d MX0_compute 18 [x0, x1, x2, x3, x4, x5] [.long (v1 * v0)] I J P Q := wp_alu (len := 1) rfl rfl rfl dX0_compute_17
theorem e_X0_compute_18 {v0 : Int64} {w : Nat} {x1 x2 x3 x4 x5 : Option Value} : Wp S N d MX0_compute 18 [some (.ref w), x1, x2, x3, x4, x5] [.long v0] I J P Q ↔ Wp S N d MX0_compute 19 [some (.ref w), x1, x2, x3, x4, x5] [.ref w, .long v0] I J P Q := wp_lod (len := 1) rfl rfl rfl rfl dX0_compute_18
theorem e_X0_compute_19 {v0 : Nat} {v1 : Int64} {w : Nat} {x0 x1 x3 x4 x5 : Option Value} : Wp S N d MX0_compute 19 [x0, x1, some (.ref w), x3, x4, x5] [.ref v0, .long v1] I J P Q ↔ Wp S N d MX0_compute 20 [x0, x1, some (.ref w), x3, x4, x5] [.ref w, .ref v0, .long v1] I J P Q := wp_lod (len := 1) rfl rfl rfl rfl dX0_compute_19
theorem e_X0_compute_20 {v0 : Nat} {v1 : Nat} {v2 : Int64} {x0 x1 x2 x3 x4 x5 : Option Value} : Wp S N d MX0_compute 20 [x0, x1, x2, x3, x4, x5] [.ref v0, .ref v1, .long v2] I J P Q ↔ Wp S N d MX0_compute 21 [x0, x1, x2, x3, x4, x5] [.int 1, .ref v0, .ref v1, .long v2] I J P Q := wp_iconst (by decide) dX0_compute_20
theorem e_X0_compute_21 {v0 : Int32} {v1 : Nat} {v2 : Nat} {v3 : Int64} {x0 x1 x2 x3 x4 x5 : Option Value} : Wp S N d MX0_compute 21 [x0, x1, x2, x3, x4, x5] [.int v0, .ref v1, .ref v2, .long v3] I J P Q ↔ (S v1 = 10 ∧ vp_in v0 (N v1)) ∧ Wp S N d MX0_compute 22 [x0, x1, x2, x3, x4, x5] [.int (I v1 v0.toNatClampNeg), .ref v2, .long v3] I J P Q := wp_ald rfl rfl dX0_compute_21
theorem e_X0_compute_22 {v0 : Int32} {v1 : Nat} {v2 : Int64} {w : Nat} {x0 x1 x3 x4 x5 : Option Value} : Wp S N d MX0_compute 22 [x0, x1, some (.ref w), x3, x4, x5] [.int v0, .ref v1, .long v2] I J P Q ↔ Wp S N d MX0_compute 23 [x0, x1, some (.ref w), x3, x4, x5] [.ref w, .int v0, .ref v1, .long v2] I J P Q := wp_lod (len := 1) rfl rfl rfl rfl dX0_compute_22
theorem e_X0_compute_23 {v0 : Nat} {v1 : Int32} {v2 : Nat} {v3 : Int64} {x0 x1 x2 x3 x4 x5 : Option Value} : Wp S N d MX0_compute 23 [x0, x1, x2, x3, x4, x5] [.ref v0, .int v1, .ref v2, .long v3] I J P Q ↔ Wp S N d MX0_compute 24 [x0, x1, x2, x3, x4, x5] [.int 2, .ref v0, .int v1, .ref v2, .long v3] I J P Q := wp_iconst (by decide) dX0_compute_23
theorem e_X0_compute_24 {v0 : Int32} {v1 : Nat} {v2 : Int32} {v3 : Nat} {v4 : Int64} {x0 x1 x2 x3 x4 x5 : Option Value} : Wp S N d MX0_compute 24 [x0, x1, x2, x3, x4, x5] [.int v0, .ref v1, .int v2, .ref v3, .long v4] I J P Q ↔ (S v1 = 10 ∧ vp_in v0 (N v1)) ∧ Wp S N d MX0_compute 25 [x0, x1, x2, x3, x4, x5] [.int (I v1 v0.toNatClampNeg), .int v2, .ref v3, .long v4] I J P Q := wp_ald rfl rfl dX0_compute_24
theorem e_X0_compute_25 {v0 : Int32} {v1 : Int32} {v2 : Nat} {v3 : Int64} {x0 x1 x2 x3 x4 x5 : Option Value} : Wp S N (d + 1) MX0_compute 25 [x0, x1, x2, x3, x4, x5] [.int v0, .int v1, .ref v2, .long v3] I J P Q ↔ S v2 = 0 ∧ CWp S N d MX0_shareAbove [.ref v2, .int v1, .int v0] I J P (fun r I1 J1 P1 => Wp S N (d + 1) MX0_compute 28 [x0, x1, x2, x3, x4, x5] (r.toList ++ [.long v3]) I1 J1 P1 Q) := wp_callV (M' := MX0_shareAbove) (As := [.int v1, .int v0]) rfl rfl rfl rfl (by decide) (Nat.le_of_ble_eq_true rfl) dX0_compute_25
theorem e_X0_compute_28 {v0 : Int64} {v1 : Int64} {x0 x1 x2 x3 x4 x5 : Option Value} : Wp S N d MX0_compute 28 [x0, x1, x2, x3, x4, x5] [.long v0, .long v1] I J P Q ↔ Wp S N d MX0_compute 29 [x0, x1, x2, x3, x4, x5] [.long (v1 - v0)] I J P Q := wp_alu (len := 1) rfl rfl rfl dX0_compute_28
theorem e_X0_compute_29 {v0 : Int64} {x0 x1 x2 x3 x4 x5 : Option Value} : Wp S N d MX0_compute 29 [x0, x1, x2, x3, x4, x5] [.long v0] I J P Q ↔ Wp S N d MX0_compute 30 [x0, x1, kl x2, some (.long v0), none, x5] [] I J P Q := wp_sto (len := 1) rfl rfl rfl rfl (Nat.le_of_ble_eq_true rfl) rfl dX0_compute_29
theorem e_X0_compute_30 {w : Nat} {x1 x2 x3 x4 x5 : Option Value} : Wp S N d MX0_compute 30 [some (.ref w), x1, x2, x3, x4, x5] [] I J P Q ↔ Wp S N d MX0_compute 31 [some (.ref w), x1, x2, x3, x4, x5] [.ref w] I J P Q := wp_lod (len := 1) rfl rfl rfl rfl dX0_compute_30
theorem e_X0_compute_31 {v0 : Nat} {x0 x1 x2 x3 x4 x5 : Option Value} : Wp S N d MX0_compute 31 [x0, x1, x2, x3, x4, x5] [.ref v0] I J P Q ↔ S v0 = 0 ∧ Wp S N d MX0_compute 34 [x0, x1, x2, x3, x4, x5] [va_rf (P v0 5)] I J P Q := wp_getf rfl rfl rfl rfl dX0_compute_31
theorem e_X0_compute_34 {v0 : Nat} {x0 x1 x2 x3 x4 x5 : Option Value} : Wp S N d MX0_compute 34 [x0, x1, x2, x3, x4, x5] [.ref v0] I J P Q ↔ Wp S N d MX0_compute 35 [x0, x1, x2, x3, x4, x5] [.int 0, .ref v0] I J P Q := wp_iconst (by decide) dX0_compute_34
theorem e_X0_compute_35 {v0 : Int32} {v1 : Nat} {x0 x1 x2 x3 x4 x5 : Option Value} : Wp S N d MX0_compute 35 [x0, x1, x2, x3, x4, x5] [.int v0, .ref v1] I J P Q ↔ Wp S N d MX0_compute 36 [x0, x1, x2, x3, x4, x5] [.long 0, .int v0, .ref v1] I J P Q := wp_lconst (by decide) dX0_compute_35
theorem e_X0_compute_36 {v0 : Int64} {v1 : Int32} {v2 : Nat} {w : Int64} {x0 x1 x2 x4 x5 : Option Value} : Wp S N d MX0_compute 36 [x0, x1, x2, some (.long w), x4, x5] [.long v0, .int v1, .ref v2] I J P Q ↔ Wp S N d MX0_compute 37 [x0, x1, x2, some (.long w), x4, x5] [.long w, .long v0, .int v1, .ref v2] I J P Q := wp_lod (len := 1) rfl rfl rfl rfl dX0_compute_36
theorem e_X0_compute_37 {v0 : Int64} {v1 : Int64} {v2 : Int32} {v3 : Nat} {x0 x1 x2 x3 x4 x5 : Option Value} : Wp S N (d + 1) MX0_compute 37 [x0, x1, x2, x3, x4, x5] [.long v0, .long v1, .int v2, .ref v3] I J P Q ↔ Wp S N (d + 1) MX0_compute 40 [x0, x1, x2, x3, x4, x5] [.long (if v0 < v1 then v1 else v0), .int v2, .ref v3] I J P Q := wp_lmax rfl rfl (Nat.le_of_ble_eq_true rfl) dX0_compute_37
theorem e_X0_compute_40 {v0 : Int64} {v1 : Int32} {v2 : Nat} {x0 x1 x2 x3 x4 x5 : Option Value} : Wp S N d MX0_compute 40 [x0, x1, x2, x3, x4, x5] [.long v0, .int v1, .ref v2] I J P Q ↔ (S v2 = 11 ∧ vp_in v1 (N v2)) ∧ Wp S N d MX0_compute 41 [x0, x1, x2, x3, x4, x5] [] I (u2 J v2 v1.toNatClampNeg v0) P Q := wp_ast rfl rfl dX0_compute_40
theorem e_X0_compute_41 {w : Nat} {x1 x2 x3 x4 x5 : Option Value} : Wp S N d MX0_compute 41 [some (.ref w), x1, x2, x3, x4, x5] [] I J P Q ↔ Wp S N d MX0_compute 42 [some (.ref w), x1, x2, x3, x4, x5] [.ref w] I J P Q := wp_lod (len := 1) rfl rfl rfl rfl dX0_compute_41
theorem e_X0_compute_42 {v0 : Nat} {x0 x1 x2 x3 x4 x5 : Option Value} : Wp S N d MX0_compute 42 [x0, x1, x2, x3, x4, x5] [.ref v0] I J P Q ↔ S v0 = 0 ∧ Wp S N d MX0_compute 45 [x0, x1, x2, x3, x4, x5] [va_rf (P v0 5)] I J P Q := wp_getf rfl rfl rfl rfl dX0_compute_42
theorem e_X0_compute_45 {v0 : Nat} {x0 x1 x2 x3 x4 x5 : Option Value} : Wp S N d MX0_compute 45 [x0, x1, x2, x3, x4, x5] [.ref v0] I J P Q ↔ Wp S N d MX0_compute 46 [x0, x1, x2, x3, x4, x5] [.int 1, .ref v0] I J P Q := wp_iconst (by decide) dX0_compute_45
theorem e_X0_compute_46 {v0 : Int32} {v1 : Nat} {x0 x1 x2 x3 x4 x5 : Option Value} : Wp S N d MX0_compute 46 [x0, x1, x2, x3, x4, x5] [.int v0, .ref v1] I J P Q ↔ Wp S N d MX0_compute 47 [x0, x1, x2, x3, x4, x5] [.long 0, .int v0, .ref v1] I J P Q := wp_lconst (by decide) dX0_compute_46
theorem e_X0_compute_47 {v0 : Int64} {v1 : Int32} {v2 : Nat} {w : Nat} {x1 x2 x3 x4 x5 : Option Value} : Wp S N d MX0_compute 47 [some (.ref w), x1, x2, x3, x4, x5] [.long v0, .int v1, .ref v2] I J P Q ↔ Wp S N d MX0_compute 48 [some (.ref w), x1, x2, x3, x4, x5] [.ref w, .long v0, .int v1, .ref v2] I J P Q := wp_lod (len := 1) rfl rfl rfl rfl dX0_compute_47
theorem e_X0_compute_48 {v0 : Nat} {v1 : Int64} {v2 : Int32} {v3 : Nat} {x0 x1 x2 x3 x4 x5 : Option Value} : Wp S N d MX0_compute 48 [x0, x1, x2, x3, x4, x5] [.ref v0, .long v1, .int v2, .ref v3] I J P Q ↔ S v0 = 0 ∧ Wp S N d MX0_compute 51 [x0, x1, x2, x3, x4, x5] [.int (I v0 1), .long v1, .int v2, .ref v3] I J P Q := wp_getf rfl rfl rfl rfl dX0_compute_48
theorem e_X0_compute_51 {v0 : Int32} {v1 : Int64} {v2 : Int32} {v3 : Nat} {x0 x1 x2 x3 x4 x5 : Option Value} : Wp S N d MX0_compute 51 [x0, x1, x2, x3, x4, x5] [.int v0, .long v1, .int v2, .ref v3] I J P Q ↔ Wp S N d MX0_compute 52 [x0, x1, x2, x3, x4, x5] [.long v0.toInt64, .long v1, .int v2, .ref v3] I J P Q := wp_alu (len := 1) rfl rfl rfl dX0_compute_51
theorem e_X0_compute_52 {v0 : Int64} {v1 : Int64} {v2 : Int32} {v3 : Nat} {x0 x1 x2 x3 x4 x5 : Option Value} : Wp S N d MX0_compute 52 [x0, x1, x2, x3, x4, x5] [.long v0, .long v1, .int v2, .ref v3] I J P Q ↔ Wp S N d MX0_compute 55 [x0, x1, x2, x3, x4, x5] [.long 1000000, .long v0, .long v1, .int v2, .ref v3] I J P Q := wp_ldc2 rfl dX0_compute_52
theorem e_X0_compute_55 {v0 : Int64} {v1 : Int64} {v2 : Int64} {v3 : Int32} {v4 : Nat} {x0 x1 x2 x3 x4 x5 : Option Value} : Wp S N d MX0_compute 55 [x0, x1, x2, x3, x4, x5] [.long v0, .long v1, .long v2, .int v3, .ref v4] I J P Q ↔ Wp S N d MX0_compute 56 [x0, x1, x2, x3, x4, x5] [.long (v1 * v0), .long v2, .int v3, .ref v4] I J P Q := wp_alu (len := 1) rfl rfl rfl dX0_compute_55
theorem e_X0_compute_56 {v0 : Int64} {v1 : Int64} {v2 : Int32} {v3 : Nat} {w : Nat} {x1 x2 x3 x4 x5 : Option Value} : Wp S N d MX0_compute 56 [some (.ref w), x1, x2, x3, x4, x5] [.long v0, .long v1, .int v2, .ref v3] I J P Q ↔ Wp S N d MX0_compute 57 [some (.ref w), x1, x2, x3, x4, x5] [.ref w, .long v0, .long v1, .int v2, .ref v3] I J P Q := wp_lod (len := 1) rfl rfl rfl rfl dX0_compute_56
theorem e_X0_compute_57 {v0 : Nat} {v1 : Int64} {v2 : Int64} {v3 : Int32} {v4 : Nat} {x0 x1 x2 x3 x4 x5 : Option Value} : Wp S N d MX0_compute 57 [x0, x1, x2, x3, x4, x5] [.ref v0, .long v1, .long v2, .int v3, .ref v4] I J P Q ↔ S v0 = 0 ∧ Wp S N d MX0_compute 60 [x0, x1, x2, x3, x4, x5] [va_rf (P v0 5), .long v1, .long v2, .int v3, .ref v4] I J P Q := wp_getf rfl rfl rfl rfl dX0_compute_57
theorem e_X0_compute_60 {v0 : Nat} {v1 : Int64} {v2 : Int64} {v3 : Int32} {v4 : Nat} {x0 x1 x2 x3 x4 x5 : Option Value} : Wp S N d MX0_compute 60 [x0, x1, x2, x3, x4, x5] [.ref v0, .long v1, .long v2, .int v3, .ref v4] I J P Q ↔ Wp S N d MX0_compute 61 [x0, x1, x2, x3, x4, x5] [.int 0, .ref v0, .long v1, .long v2, .int v3, .ref v4] I J P Q := wp_iconst (by decide) dX0_compute_60
theorem e_X0_compute_61 {v0 : Int32} {v1 : Nat} {v2 : Int64} {v3 : Int64} {v4 : Int32} {v5 : Nat} {x0 x1 x2 x3 x4 x5 : Option Value} : Wp S N d MX0_compute 61 [x0, x1, x2, x3, x4, x5] [.int v0, .ref v1, .long v2, .long v3, .int v4, .ref v5] I J P Q ↔ (S v1 = 11 ∧ vp_in v0 (N v1)) ∧ Wp S N d MX0_compute 62 [x0, x1, x2, x3, x4, x5] [.long (J v1 v0.toNatClampNeg), .long v2, .long v3, .int v4, .ref v5] I J P Q := wp_ald rfl rfl dX0_compute_61
theorem e_X0_compute_62 {v0 : Int64} {v1 : Int64} {v2 : Int64} {v3 : Int32} {v4 : Nat} {x0 x1 x2 x3 x4 x5 : Option Value} : Wp S N d MX0_compute 62 [x0, x1, x2, x3, x4, x5] [.long v0, .long v1, .long v2, .int v3, .ref v4] I J P Q ↔ Wp S N d MX0_compute 63 [x0, x1, x2, x3, x4, x5] [.long (v1 - v0), .long v2, .int v3, .ref v4] I J P Q := wp_alu (len := 1) rfl rfl rfl dX0_compute_62
theorem e_X0_compute_63 {v0 : Int64} {v1 : Int64} {v2 : Int32} {v3 : Nat} {x0 x1 x2 x3 x4 x5 : Option Value} : Wp S N (d + 1) MX0_compute 63 [x0, x1, x2, x3, x4, x5] [.long v0, .long v1, .int v2, .ref v3] I J P Q ↔ Wp S N (d + 1) MX0_compute 66 [x0, x1, x2, x3, x4, x5] [.long (if v0 < v1 then v1 else v0), .int v2, .ref v3] I J P Q := wp_lmax rfl rfl (Nat.le_of_ble_eq_true rfl) dX0_compute_63
theorem e_X0_compute_66 {v0 : Int64} {v1 : Int32} {v2 : Nat} {x0 x1 x2 x3 x4 x5 : Option Value} : Wp S N d MX0_compute 66 [x0, x1, x2, x3, x4, x5] [.long v0, .int v1, .ref v2] I J P Q ↔ (S v2 = 11 ∧ vp_in v1 (N v2)) ∧ Wp S N d MX0_compute 67 [x0, x1, x2, x3, x4, x5] [] I (u2 J v2 v1.toNatClampNeg v0) P Q := wp_ast rfl rfl dX0_compute_66
theorem e_X0_compute_67 {w : Nat} {x1 x2 x3 x4 x5 : Option Value} : Wp S N d MX0_compute 67 [some (.ref w), x1, x2, x3, x4, x5] [] I J P Q ↔ Wp S N d MX0_compute 68 [some (.ref w), x1, x2, x3, x4, x5] [.ref w] I J P Q := wp_lod (len := 1) rfl rfl rfl rfl dX0_compute_67
theorem e_X0_compute_68 {v0 : Nat} {x0 x1 x2 x3 x4 x5 : Option Value} : Wp S N d MX0_compute 68 [x0, x1, x2, x3, x4, x5] [.ref v0] I J P Q ↔ S v0 = 0 ∧ Wp S N d MX0_compute 71 [x0, x1, x2, x3, x4, x5] [va_rf (P v0 5)] I J P Q := wp_getf rfl rfl rfl rfl dX0_compute_68
theorem e_X0_compute_71 {v0 : Nat} {x0 x1 x2 x3 x4 x5 : Option Value} : Wp S N d MX0_compute 71 [x0, x1, x2, x3, x4, x5] [.ref v0] I J P Q ↔ Wp S N d MX0_compute 72 [x0, x1, x2, x3, x4, x5] [.int 2, .ref v0] I J P Q := wp_iconst (by decide) dX0_compute_71
theorem e_X0_compute_72 {v0 : Int32} {v1 : Nat} {w : Nat} {x1 x2 x3 x4 x5 : Option Value} : Wp S N d MX0_compute 72 [some (.ref w), x1, x2, x3, x4, x5] [.int v0, .ref v1] I J P Q ↔ Wp S N d MX0_compute 73 [some (.ref w), x1, x2, x3, x4, x5] [.ref w, .int v0, .ref v1] I J P Q := wp_lod (len := 1) rfl rfl rfl rfl dX0_compute_72
theorem e_X0_compute_73 {v0 : Nat} {v1 : Int32} {v2 : Nat} {w : Nat} {x0 x2 x3 x4 x5 : Option Value} : Wp S N d MX0_compute 73 [x0, some (.ref w), x2, x3, x4, x5] [.ref v0, .int v1, .ref v2] I J P Q ↔ Wp S N d MX0_compute 74 [x0, some (.ref w), x2, x3, x4, x5] [.ref w, .ref v0, .int v1, .ref v2] I J P Q := wp_lod (len := 1) rfl rfl rfl rfl dX0_compute_73
theorem e_X0_compute_74 {v0 : Nat} {v1 : Nat} {v2 : Int32} {v3 : Nat} {w : Nat} {x1 x2 x3 x4 x5 : Option Value} : Wp S N d MX0_compute 74 [some (.ref w), x1, x2, x3, x4, x5] [.ref v0, .ref v1, .int v2, .ref v3] I J P Q ↔ Wp S N d MX0_compute 75 [some (.ref w), x1, x2, x3, x4, x5] [.ref w, .ref v0, .ref v1, .int v2, .ref v3] I J P Q := wp_lod (len := 1) rfl rfl rfl rfl dX0_compute_74
theorem e_X0_compute_75 {v0 : Nat} {v1 : Nat} {v2 : Nat} {v3 : Int32} {v4 : Nat} {x0 x1 x2 x3 x4 x5 : Option Value} : Wp S N d MX0_compute 75 [x0, x1, x2, x3, x4, x5] [.ref v0, .ref v1, .ref v2, .int v3, .ref v4] I J P Q ↔ S v0 = 0 ∧ Wp S N d MX0_compute 78 [x0, x1, x2, x3, x4, x5] [va_rf (P v0 5), .ref v1, .ref v2, .int v3, .ref v4] I J P Q := wp_getf rfl rfl rfl rfl dX0_compute_75
theorem e_X0_compute_78 {v0 : Nat} {v1 : Nat} {v2 : Nat} {v3 : Int32} {v4 : Nat} {x0 x1 x2 x3 x4 x5 : Option Value} : Wp S N d MX0_compute 78 [x0, x1, x2, x3, x4, x5] [.ref v0, .ref v1, .ref v2, .int v3, .ref v4] I J P Q ↔ Wp S N d MX0_compute 79 [x0, x1, x2, x3, x4, x5] [.int 1, .ref v0, .ref v1, .ref v2, .int v3, .ref v4] I J P Q := wp_iconst (by decide) dX0_compute_78
theorem e_X0_compute_79 {v0 : Int32} {v1 : Nat} {v2 : Nat} {v3 : Nat} {v4 : Int32} {v5 : Nat} {x0 x1 x2 x3 x4 x5 : Option Value} : Wp S N d MX0_compute 79 [x0, x1, x2, x3, x4, x5] [.int v0, .ref v1, .ref v2, .ref v3, .int v4, .ref v5] I J P Q ↔ (S v1 = 11 ∧ vp_in v0 (N v1)) ∧ Wp S N d MX0_compute 80 [x0, x1, x2, x3, x4, x5] [.long (J v1 v0.toNatClampNeg), .ref v2, .ref v3, .int v4, .ref v5] I J P Q := wp_ald rfl rfl dX0_compute_79
theorem e_X0_compute_80 {v0 : Int64} {v1 : Nat} {v2 : Nat} {v3 : Int32} {v4 : Nat} {x0 x1 x2 x3 x4 x5 : Option Value} : Wp S N (d + 1) MX0_compute 80 [x0, x1, x2, x3, x4, x5] [.long v0, .ref v1, .ref v2, .int v3, .ref v4] I J P Q ↔ S v2 = 0 ∧ CWp S N d MX0_scheduled [.ref v2, .ref v1, .long v0] I J P (fun r I1 J1 P1 => Wp S N (d + 1) MX0_compute 83 [x0, x1, x2, x3, x4, x5] (r.toList ++ [.int v3, .ref v4]) I1 J1 P1 Q) := wp_callV (M' := MX0_scheduled) (As := [.ref v1, .long v0]) rfl rfl rfl rfl (by decide) (Nat.le_of_ble_eq_true rfl) dX0_compute_80
theorem e_X0_compute_83 {v0 : Int64} {v1 : Int32} {v2 : Nat} {x0 x1 x2 x3 x4 x5 : Option Value} : Wp S N d MX0_compute 83 [x0, x1, x2, x3, x4, x5] [.long v0, .int v1, .ref v2] I J P Q ↔ (S v2 = 11 ∧ vp_in v1 (N v2)) ∧ Wp S N d MX0_compute 84 [x0, x1, x2, x3, x4, x5] [] I (u2 J v2 v1.toNatClampNeg v0) P Q := wp_ast rfl rfl dX0_compute_83
theorem e_X0_compute_84 {w : Nat} {x1 x2 x3 x4 x5 : Option Value} : Wp S N d MX0_compute 84 [some (.ref w), x1, x2, x3, x4, x5] [] I J P Q ↔ Wp S N d MX0_compute 85 [some (.ref w), x1, x2, x3, x4, x5] [.ref w] I J P Q := wp_lod (len := 1) rfl rfl rfl rfl dX0_compute_84
theorem e_X0_compute_85 {v0 : Nat} {x0 x1 x2 x3 x4 x5 : Option Value} : Wp S N d MX0_compute 85 [x0, x1, x2, x3, x4, x5] [.ref v0] I J P Q ↔ S v0 = 0 ∧ Wp S N d MX0_compute 88 [x0, x1, x2, x3, x4, x5] [va_rf (P v0 5)] I J P Q := wp_getf rfl rfl rfl rfl dX0_compute_85
theorem e_X0_compute_88 {v0 : Nat} {x0 x1 x2 x3 x4 x5 : Option Value} : Wp S N d MX0_compute 88 [x0, x1, x2, x3, x4, x5] [.ref v0] I J P Q ↔ Wp S N d MX0_compute 89 [x0, x1, x2, x3, x4, x5] [.int 3, .ref v0] I J P Q := wp_iconst (by decide) dX0_compute_88
theorem e_X0_compute_89 {v0 : Int32} {v1 : Nat} {w : Nat} {x1 x2 x3 x4 x5 : Option Value} : Wp S N d MX0_compute 89 [some (.ref w), x1, x2, x3, x4, x5] [.int v0, .ref v1] I J P Q ↔ Wp S N d MX0_compute 90 [some (.ref w), x1, x2, x3, x4, x5] [.ref w, .int v0, .ref v1] I J P Q := wp_lod (len := 1) rfl rfl rfl rfl dX0_compute_89
theorem e_X0_compute_90 {v0 : Nat} {v1 : Int32} {v2 : Nat} {w : Nat} {x0 x1 x3 x4 x5 : Option Value} : Wp S N d MX0_compute 90 [x0, x1, some (.ref w), x3, x4, x5] [.ref v0, .int v1, .ref v2] I J P Q ↔ Wp S N d MX0_compute 91 [x0, x1, some (.ref w), x3, x4, x5] [.ref w, .ref v0, .int v1, .ref v2] I J P Q := wp_lod (len := 1) rfl rfl rfl rfl dX0_compute_90
theorem e_X0_compute_91 {v0 : Nat} {v1 : Nat} {v2 : Int32} {v3 : Nat} {x0 x1 x2 x3 x4 x5 : Option Value} : Wp S N d MX0_compute 91 [x0, x1, x2, x3, x4, x5] [.ref v0, .ref v1, .int v2, .ref v3] I J P Q ↔ Wp S N d MX0_compute 92 [x0, x1, x2, x3, x4, x5] [.int 3, .ref v0, .ref v1, .int v2, .ref v3] I J P Q := wp_iconst (by decide) dX0_compute_91
theorem e_X0_compute_92 {v0 : Int32} {v1 : Nat} {v2 : Nat} {v3 : Int32} {v4 : Nat} {x0 x1 x2 x3 x4 x5 : Option Value} : Wp S N d MX0_compute 92 [x0, x1, x2, x3, x4, x5] [.int v0, .ref v1, .ref v2, .int v3, .ref v4] I J P Q ↔ (S v1 = 10 ∧ vp_in v0 (N v1)) ∧ Wp S N d MX0_compute 93 [x0, x1, x2, x3, x4, x5] [.int (I v1 v0.toNatClampNeg), .ref v2, .int v3, .ref v4] I J P Q := wp_ald rfl rfl dX0_compute_92
theorem e_X0_compute_93 {v0 : Int32} {v1 : Nat} {v2 : Int32} {v3 : Nat} {w : Nat} {x0 x1 x3 x4 x5 : Option Value} : Wp S N d MX0_compute 93 [x0, x1, some (.ref w), x3, x4, x5] [.int v0, .ref v1, .int v2, .ref v3] I J P Q ↔ Wp S N d MX0_compute 94 [x0, x1, some (.ref w), x3, x4, x5] [.ref w, .int v0, .ref v1, .int v2, .ref v3] I J P Q := wp_lod (len := 1) rfl rfl rfl rfl dX0_compute_93
theorem e_X0_compute_94 {v0 : Nat} {v1 : Int32} {v2 : Nat} {v3 : Int32} {v4 : Nat} {x0 x1 x2 x3 x4 x5 : Option Value} : Wp S N d MX0_compute 94 [x0, x1, x2, x3, x4, x5] [.ref v0, .int v1, .ref v2, .int v3, .ref v4] I J P Q ↔ Wp S N d MX0_compute 95 [x0, x1, x2, x3, x4, x5] [.int 4, .ref v0, .int v1, .ref v2, .int v3, .ref v4] I J P Q := wp_iconst (by decide) dX0_compute_94
theorem e_X0_compute_95 {v0 : Int32} {v1 : Nat} {v2 : Int32} {v3 : Nat} {v4 : Int32} {v5 : Nat} {x0 x1 x2 x3 x4 x5 : Option Value} : Wp S N d MX0_compute 95 [x0, x1, x2, x3, x4, x5] [.int v0, .ref v1, .int v2, .ref v3, .int v4, .ref v5] I J P Q ↔ (S v1 = 10 ∧ vp_in v0 (N v1)) ∧ Wp S N d MX0_compute 96 [x0, x1, x2, x3, x4, x5] [.int (I v1 v0.toNatClampNeg), .int v2, .ref v3, .int v4, .ref v5] I J P Q := wp_ald rfl rfl dX0_compute_95
theorem e_X0_compute_96 {v0 : Int32} {v1 : Int32} {v2 : Nat} {v3 : Int32} {v4 : Nat} {x0 x1 x2 x3 x4 x5 : Option Value} : Wp S N (d + 1) MX0_compute 96 [x0, x1, x2, x3, x4, x5] [.int v0, .int v1, .ref v2, .int v3, .ref v4] I J P Q ↔ S v2 = 0 ∧ CWp S N d MX0_shareAbove [.ref v2, .int v1, .int v0] I J P (fun r I1 J1 P1 => Wp S N (d + 1) MX0_compute 99 [x0, x1, x2, x3, x4, x5] (r.toList ++ [.int v3, .ref v4]) I1 J1 P1 Q) := wp_callV (M' := MX0_shareAbove) (As := [.int v1, .int v0]) rfl rfl rfl rfl (by decide) (Nat.le_of_ble_eq_true rfl) dX0_compute_96
theorem e_X0_compute_99 {v0 : Int64} {v1 : Int32} {v2 : Nat} {x0 x1 x2 x3 x4 x5 : Option Value} : Wp S N d MX0_compute 99 [x0, x1, x2, x3, x4, x5] [.long v0, .int v1, .ref v2] I J P Q ↔ (S v2 = 11 ∧ vp_in v1 (N v2)) ∧ Wp S N d MX0_compute 100 [x0, x1, x2, x3, x4, x5] [] I (u2 J v2 v1.toNatClampNeg v0) P Q := wp_ast rfl rfl dX0_compute_99
theorem e_X0_compute_100 {w : Nat} {x1 x2 x3 x4 x5 : Option Value} : Wp S N d MX0_compute 100 [some (.ref w), x1, x2, x3, x4, x5] [] I J P Q ↔ Wp S N d MX0_compute 101 [some (.ref w), x1, x2, x3, x4, x5] [.ref w] I J P Q := wp_lod (len := 1) rfl rfl rfl rfl dX0_compute_100
theorem e_X0_compute_101 {v0 : Nat} {x0 x1 x2 x3 x4 x5 : Option Value} : Wp S N d MX0_compute 101 [x0, x1, x2, x3, x4, x5] [.ref v0] I J P Q ↔ S v0 = 0 ∧ Wp S N d MX0_compute 104 [x0, x1, x2, x3, x4, x5] [va_rf (P v0 5)] I J P Q := wp_getf rfl rfl rfl rfl dX0_compute_101
theorem e_X0_compute_104 {v0 : Nat} {x0 x1 x2 x3 x4 x5 : Option Value} : Wp S N d MX0_compute 104 [x0, x1, x2, x3, x4, x5] [.ref v0] I J P Q ↔ Wp S N d MX0_compute 105 [x0, x1, x2, x3, x4, x5] [.int 4, .ref v0] I J P Q := wp_iconst (by decide) dX0_compute_104
theorem e_X0_compute_105 {v0 : Int32} {v1 : Nat} {w : Nat} {x1 x2 x3 x4 x5 : Option Value} : Wp S N d MX0_compute 105 [some (.ref w), x1, x2, x3, x4, x5] [.int v0, .ref v1] I J P Q ↔ Wp S N d MX0_compute 106 [some (.ref w), x1, x2, x3, x4, x5] [.ref w, .int v0, .ref v1] I J P Q := wp_lod (len := 1) rfl rfl rfl rfl dX0_compute_105
theorem e_X0_compute_106 {v0 : Nat} {v1 : Int32} {v2 : Nat} {x0 x1 x2 x3 x4 x5 : Option Value} : Wp S N d MX0_compute 106 [x0, x1, x2, x3, x4, x5] [.ref v0, .int v1, .ref v2] I J P Q ↔ S v0 = 0 ∧ Wp S N d MX0_compute 109 [x0, x1, x2, x3, x4, x5] [va_rf (P v0 5), .int v1, .ref v2] I J P Q := wp_getf rfl rfl rfl rfl dX0_compute_106
theorem e_X0_compute_109 {v0 : Nat} {v1 : Int32} {v2 : Nat} {x0 x1 x2 x3 x4 x5 : Option Value} : Wp S N d MX0_compute 109 [x0, x1, x2, x3, x4, x5] [.ref v0, .int v1, .ref v2] I J P Q ↔ Wp S N d MX0_compute 110 [x0, x1, x2, x3, x4, x5] [.int 2, .ref v0, .int v1, .ref v2] I J P Q := wp_iconst (by decide) dX0_compute_109
theorem e_X0_compute_110 {v0 : Int32} {v1 : Nat} {v2 : Int32} {v3 : Nat} {x0 x1 x2 x3 x4 x5 : Option Value} : Wp S N d MX0_compute 110 [x0, x1, x2, x3, x4, x5] [.int v0, .ref v1, .int v2, .ref v3] I J P Q ↔ (S v1 = 11 ∧ vp_in v0 (N v1)) ∧ Wp S N d MX0_compute 111 [x0, x1, x2, x3, x4, x5] [.long (J v1 v0.toNatClampNeg), .int v2, .ref v3] I J P Q := wp_ald rfl rfl dX0_compute_110
theorem e_X0_compute_111 {v0 : Int64} {v1 : Int32} {v2 : Nat} {w : Nat} {x1 x2 x3 x4 x5 : Option Value} : Wp S N d MX0_compute 111 [some (.ref w), x1, x2, x3, x4, x5] [.long v0, .int v1, .ref v2] I J P Q ↔ Wp S N d MX0_compute 112 [some (.ref w), x1, x2, x3, x4, x5] [.ref w, .long v0, .int v1, .ref v2] I J P Q := wp_lod (len := 1) rfl rfl rfl rfl dX0_compute_111
theorem e_X0_compute_112 {v0 : Nat} {v1 : Int64} {v2 : Int32} {v3 : Nat} {x0 x1 x2 x3 x4 x5 : Option Value} : Wp S N d MX0_compute 112 [x0, x1, x2, x3, x4, x5] [.ref v0, .long v1, .int v2, .ref v3] I J P Q ↔ S v0 = 0 ∧ Wp S N d MX0_compute 115 [x0, x1, x2, x3, x4, x5] [va_rf (P v0 5), .long v1, .int v2, .ref v3] I J P Q := wp_getf rfl rfl rfl rfl dX0_compute_112
theorem e_X0_compute_115 {v0 : Nat} {v1 : Int64} {v2 : Int32} {v3 : Nat} {x0 x1 x2 x3 x4 x5 : Option Value} : Wp S N d MX0_compute 115 [x0, x1, x2, x3, x4, x5] [.ref v0, .long v1, .int v2, .ref v3] I J P Q ↔ Wp S N d MX0_compute 116 [x0, x1, x2, x3, x4, x5] [.int 3, .ref v0, .long v1, .int v2, .ref v3] I J P Q := wp_iconst (by decide) dX0_compute_115
theorem e_X0_compute_116 {v0 : Int32} {v1 : Nat} {v2 : Int64} {v3 : Int32} {v4 : Nat} {x0 x1 x2 x3 x4 x5 : Option Value} : Wp S N d MX0_compute 116 [x0, x1, x2, x3, x4, x5] [.int v0, .ref v1, .long v2, .int v3, .ref v4] I J P Q ↔ (S v1 = 11 ∧ vp_in v0 (N v1)) ∧ Wp S N d MX0_compute 117 [x0, x1, x2, x3, x4, x5] [.long (J v1 v0.toNatClampNeg), .long v2, .int v3, .ref v4] I J P Q := wp_ald rfl rfl dX0_compute_116
theorem e_X0_compute_117 {v0 : Int64} {v1 : Int64} {v2 : Int32} {v3 : Nat} {x0 x1 x2 x3 x4 x5 : Option Value} : Wp S N (d + 1) MX0_compute 117 [x0, x1, x2, x3, x4, x5] [.long v0, .long v1, .int v2, .ref v3] I J P Q ↔ Wp S N (d + 1) MX0_compute 120 [x0, x1, x2, x3, x4, x5] [.long (if v0 < v1 then v1 else v0), .int v2, .ref v3] I J P Q := wp_lmax rfl rfl (Nat.le_of_ble_eq_true rfl) dX0_compute_117
theorem e_X0_compute_120 {v0 : Int64} {v1 : Int32} {v2 : Nat} {x0 x1 x2 x3 x4 x5 : Option Value} : Wp S N d MX0_compute 120 [x0, x1, x2, x3, x4, x5] [.long v0, .int v1, .ref v2] I J P Q ↔ (S v2 = 11 ∧ vp_in v1 (N v2)) ∧ Wp S N d MX0_compute 121 [x0, x1, x2, x3, x4, x5] [] I (u2 J v2 v1.toNatClampNeg v0) P Q := wp_ast rfl rfl dX0_compute_120
theorem e_X0_compute_121 {w : Nat} {x1 x2 x3 x4 x5 : Option Value} : Wp S N d MX0_compute 121 [some (.ref w), x1, x2, x3, x4, x5] [] I J P Q ↔ Wp S N d MX0_compute 122 [some (.ref w), x1, x2, x3, x4, x5] [.ref w] I J P Q := wp_lod (len := 1) rfl rfl rfl rfl dX0_compute_121
theorem e_X0_compute_122 {v0 : Nat} {x0 x1 x2 x3 x4 x5 : Option Value} : Wp S N d MX0_compute 122 [x0, x1, x2, x3, x4, x5] [.ref v0] I J P Q ↔ S v0 = 0 ∧ Wp S N d MX0_compute 125 [x0, x1, x2, x3, x4, x5] [va_rf (P v0 5)] I J P Q := wp_getf rfl rfl rfl rfl dX0_compute_122
theorem e_X0_compute_125 {v0 : Nat} {x0 x1 x2 x3 x4 x5 : Option Value} : Wp S N d MX0_compute 125 [x0, x1, x2, x3, x4, x5] [.ref v0] I J P Q ↔ Wp S N d MX0_compute 126 [x0, x1, x2, x3, x4, x5] [.int 5, .ref v0] I J P Q := wp_iconst (by decide) dX0_compute_125
theorem e_X0_compute_126 {v0 : Int32} {v1 : Nat} {w : Nat} {x1 x2 x3 x4 x5 : Option Value} : Wp S N d MX0_compute 126 [some (.ref w), x1, x2, x3, x4, x5] [.int v0, .ref v1] I J P Q ↔ Wp S N d MX0_compute 127 [some (.ref w), x1, x2, x3, x4, x5] [.ref w, .int v0, .ref v1] I J P Q := wp_lod (len := 1) rfl rfl rfl rfl dX0_compute_126
theorem e_X0_compute_127 {v0 : Nat} {v1 : Int32} {v2 : Nat} {x0 x1 x2 x3 x4 x5 : Option Value} : Wp S N d MX0_compute 127 [x0, x1, x2, x3, x4, x5] [.ref v0, .int v1, .ref v2] I J P Q ↔ S v0 = 0 ∧ Wp S N d MX0_compute 130 [x0, x1, x2, x3, x4, x5] [va_rf (P v0 5), .int v1, .ref v2] I J P Q := wp_getf rfl rfl rfl rfl dX0_compute_127
theorem e_X0_compute_130 {v0 : Nat} {v1 : Int32} {v2 : Nat} {x0 x1 x2 x3 x4 x5 : Option Value} : Wp S N d MX0_compute 130 [x0, x1, x2, x3, x4, x5] [.ref v0, .int v1, .ref v2] I J P Q ↔ Wp S N d MX0_compute 131 [x0, x1, x2, x3, x4, x5] [.int 4, .ref v0, .int v1, .ref v2] I J P Q := wp_iconst (by decide) dX0_compute_130
theorem e_X0_compute_131 {v0 : Int32} {v1 : Nat} {v2 : Int32} {v3 : Nat} {x0 x1 x2 x3 x4 x5 : Option Value} : Wp S N d MX0_compute 131 [x0, x1, x2, x3, x4, x5] [.int v0, .ref v1, .int v2, .ref v3] I J P Q ↔ (S v1 = 11 ∧ vp_in v0 (N v1)) ∧ Wp S N d MX0_compute 132 [x0, x1, x2, x3, x4, x5] [.long (J v1 v0.toNatClampNeg), .int v2, .ref v3] I J P Q := wp_ald rfl rfl dX0_compute_131
theorem e_X0_compute_132 {v0 : Int64} {v1 : Int32} {v2 : Nat} {w : Nat} {x1 x2 x3 x4 x5 : Option Value} : Wp S N d MX0_compute 132 [some (.ref w), x1, x2, x3, x4, x5] [.long v0, .int v1, .ref v2] I J P Q ↔ Wp S N d MX0_compute 133 [some (.ref w), x1, x2, x3, x4, x5] [.ref w, .long v0, .int v1, .ref v2] I J P Q := wp_lod (len := 1) rfl rfl rfl rfl dX0_compute_132
theorem e_X0_compute_133 {v0 : Nat} {v1 : Int64} {v2 : Int32} {v3 : Nat} {w : Nat} {x0 x2 x3 x4 x5 : Option Value} : Wp S N d MX0_compute 133 [x0, some (.ref w), x2, x3, x4, x5] [.ref v0, .long v1, .int v2, .ref v3] I J P Q ↔ Wp S N d MX0_compute 134 [x0, some (.ref w), x2, x3, x4, x5] [.ref w, .ref v0, .long v1, .int v2, .ref v3] I J P Q := wp_lod (len := 1) rfl rfl rfl rfl dX0_compute_133
theorem e_X0_compute_134 {v0 : Nat} {v1 : Nat} {v2 : Int64} {v3 : Int32} {v4 : Nat} {x0 x1 x2 x3 x4 x5 : Option Value} : Wp S N (d + 1) MX0_compute 134 [x0, x1, x2, x3, x4, x5] [.ref v0, .ref v1, .long v2, .int v3, .ref v4] I J P Q ↔ S v1 = 0 ∧ CWp S N d MX0_chargesDue [.ref v1, .ref v0] I J P (fun r I1 J1 P1 => Wp S N (d + 1) MX0_compute 137 [x0, x1, x2, x3, x4, x5] (r.toList ++ [.long v2, .int v3, .ref v4]) I1 J1 P1 Q) := wp_callV (M' := MX0_chargesDue) (As := [.ref v0]) rfl rfl rfl rfl (by decide) (Nat.le_of_ble_eq_true rfl) dX0_compute_134
theorem e_X0_compute_137 {v0 : Int32} {v1 : Int64} {v2 : Int32} {v3 : Nat} {x0 x1 x2 x3 x4 x5 : Option Value} : Wp S N d MX0_compute 137 [x0, x1, x2, x3, x4, x5] [.int v0, .long v1, .int v2, .ref v3] I J P Q ↔ Wp S N d MX0_compute 138 [x0, x1, x2, x3, x4, x5] [.long v0.toInt64, .long v1, .int v2, .ref v3] I J P Q := wp_alu (len := 1) rfl rfl rfl dX0_compute_137
theorem e_X0_compute_138 {v0 : Int64} {v1 : Int64} {v2 : Int32} {v3 : Nat} {x0 x1 x2 x3 x4 x5 : Option Value} : Wp S N d MX0_compute 138 [x0, x1, x2, x3, x4, x5] [.long v0, .long v1, .int v2, .ref v3] I J P Q ↔ Wp S N d MX0_compute 141 [x0, x1, x2, x3, x4, x5] [.long 1000000, .long v0, .long v1, .int v2, .ref v3] I J P Q := wp_ldc2 rfl dX0_compute_138
theorem e_X0_compute_141 {v0 : Int64} {v1 : Int64} {v2 : Int64} {v3 : Int32} {v4 : Nat} {x0 x1 x2 x3 x4 x5 : Option Value} : Wp S N d MX0_compute 141 [x0, x1, x2, x3, x4, x5] [.long v0, .long v1, .long v2, .int v3, .ref v4] I J P Q ↔ Wp S N d MX0_compute 142 [x0, x1, x2, x3, x4, x5] [.long (v1 * v0), .long v2, .int v3, .ref v4] I J P Q := wp_alu (len := 1) rfl rfl rfl dX0_compute_141
theorem e_X0_compute_142 {v0 : Int64} {v1 : Int64} {v2 : Int32} {v3 : Nat} {x0 x1 x2 x3 x4 x5 : Option Value} : Wp S N d MX0_compute 142 [x0, x1, x2, x3, x4, x5] [.long v0, .long v1, .int v2, .ref v3] I J P Q ↔ Wp S N d MX0_compute 143 [x0, x1, x2, x3, x4, x5] [.long (v1 + v0), .int v2, .ref v3] I J P Q := wp_alu (len := 1) rfl rfl rfl dX0_compute_142
theorem e_X0_compute_143 {v0 : Int64} {v1 : Int32} {v2 : Nat} {x0 x1 x2 x3 x4 x5 : Option Value} : Wp S N d MX0_compute 143 [x0, x1, x2, x3, x4, x5] [.long v0, .int v1, .ref v2] I J P Q ↔ (S v2 = 11 ∧ vp_in v1 (N v2)) ∧ Wp S N d MX0_compute 144 [x0, x1, x2, x3, x4, x5] [] I (u2 J v2 v1.toNatClampNeg v0) P Q := wp_ast rfl rfl dX0_compute_143
theorem e_X0_compute_144 {w : Nat} {x1 x2 x3 x4 x5 : Option Value} : Wp S N d MX0_compute 144 [some (.ref w), x1, x2, x3, x4, x5] [] I J P Q ↔ Wp S N d MX0_compute 145 [some (.ref w), x1, x2, x3, x4, x5] [.ref w] I J P Q := wp_lod (len := 1) rfl rfl rfl rfl dX0_compute_144
theorem e_X0_compute_145 {v0 : Nat} {w : Nat} {x1 x2 x3 x4 x5 : Option Value} : Wp S N d MX0_compute 145 [some (.ref w), x1, x2, x3, x4, x5] [.ref v0] I J P Q ↔ Wp S N d MX0_compute 146 [some (.ref w), x1, x2, x3, x4, x5] [.ref w, .ref v0] I J P Q := wp_lod (len := 1) rfl rfl rfl rfl dX0_compute_145
theorem e_X0_compute_146 {v0 : Nat} {v1 : Nat} {x0 x1 x2 x3 x4 x5 : Option Value} : Wp S N d MX0_compute 146 [x0, x1, x2, x3, x4, x5] [.ref v0, .ref v1] I J P Q ↔ S v0 = 0 ∧ Wp S N d MX0_compute 149 [x0, x1, x2, x3, x4, x5] [va_rf (P v0 5), .ref v1] I J P Q := wp_getf rfl rfl rfl rfl dX0_compute_146
theorem e_X0_compute_149 {v0 : Nat} {v1 : Nat} {x0 x1 x2 x3 x4 x5 : Option Value} : Wp S N d MX0_compute 149 [x0, x1, x2, x3, x4, x5] [.ref v0, .ref v1] I J P Q ↔ Wp S N d MX0_compute 150 [x0, x1, x2, x3, x4, x5] [.int 5, .ref v0, .ref v1] I J P Q := wp_iconst (by decide) dX0_compute_149
theorem e_X0_compute_150 {v0 : Int32} {v1 : Nat} {v2 : Nat} {x0 x1 x2 x3 x4 x5 : Option Value} : Wp S N d MX0_compute 150 [x0, x1, x2, x3, x4, x5] [.int v0, .ref v1, .ref v2] I J P Q ↔ (S v1 = 11 ∧ vp_in v0 (N v1)) ∧ Wp S N d MX0_compute 151 [x0, x1, x2, x3, x4, x5] [.long (J v1 v0.toNatClampNeg), .ref v2] I J P Q := wp_ald rfl rfl dX0_compute_150
theorem e_X0_compute_151 {v0 : Int64} {v1 : Nat} {x0 x1 x2 x3 x4 x5 : Option Value} : Wp S N d MX0_compute 151 [x0, x1, x2, x3, x4, x5] [.long v0, .ref v1] I J P Q ↔ S v1 = 0 ∧ Wp S N d MX0_compute 154 [x0, x1, x2, x3, x4, x5] [] I (u2 J v1 7 v0) P Q := wp_putJ rfl rfl rfl rfl dX0_compute_151
theorem e_X0_compute_154  {x0 x1 x2 x3 x4 x5 : Option Value} : Wp S N d MX0_compute 154 [x0, x1, x2, x3, x4, x5] [] I J P Q ↔ Wp S N d MX0_compute 155 [x0, x1, x2, x3, x4, x5] [.int 0] I J P Q := wp_iconst (by decide) dX0_compute_154
theorem e_X0_compute_155 {v0 : Int32} {x0 x1 x2 x3 x4 x5 : Option Value} : Wp S N d MX0_compute 155 [x0, x1, x2, x3, x4, x5] [.int v0] I J P Q ↔ Wp S N d MX0_compute 157 [x0, x1, x2, x3, kl x4, some (.int v0)] [] I J P Q := wp_sto (len := 2) rfl rfl rfl rfl (Nat.le_of_ble_eq_true rfl) rfl dX0_compute_155
theorem e_X0_compute_157 {w : Int32} {x0 x1 x2 x3 x4 : Option Value} : Wp S N d MX0_compute 157 [x0, x1, x2, x3, x4, some (.int w)] [] I J P Q ↔ Wp S N d MX0_compute 159 [x0, x1, x2, x3, x4, some (.int w)] [.int w] I J P Q := wp_lod (len := 2) rfl rfl rfl rfl dX0_compute_157
theorem e_X0_compute_159 {v0 : Int32} {w : Nat} {x0 x2 x3 x4 x5 : Option Value} : Wp S N d MX0_compute 159 [x0, some (.ref w), x2, x3, x4, x5] [.int v0] I J P Q ↔ Wp S N d MX0_compute 160 [x0, some (.ref w), x2, x3, x4, x5] [.ref w, .int v0] I J P Q := wp_lod (len := 1) rfl rfl rfl rfl dX0_compute_159
theorem e_X0_compute_160 {v0 : Nat} {v1 : Int32} {x0 x1 x2 x3 x4 x5 : Option Value} : Wp S N d MX0_compute 160 [x0, x1, x2, x3, x4, x5] [.ref v0, .int v1] I J P Q ↔ S v0 = 7 ∧ Wp S N d MX0_compute 163 [x0, x1, x2, x3, x4, x5] [.int (I v0 7), .int v1] I J P Q := wp_getf rfl rfl rfl rfl dX0_compute_160
theorem e_X0_compute_163 {v0 : Int32} {v1 : Int32} {x0 x1 x2 x3 x4 x5 : Option Value} : Wp S N d MX0_compute 163 [x0, x1, x2, x3, x4, x5] [.int v0, .int v1] I J P Q ↔ (v0 ≤ v1 → Wp S N d MX0_compute 213 [x0, x1, x2, x3, x4, x5] [] I J P Q) ∧ (¬ v0 ≤ v1 → Wp S N d MX0_compute 166 [x0, x1, x2, x3, x4, x5] [] I J P Q) := wp_br rfl rfl (by decide) dX0_compute_163
theorem e_X0_compute_166 {w : Nat} {x1 x2 x3 x4 x5 : Option Value} : Wp S N d MX0_compute 166 [some (.ref w), x1, x2, x3, x4, x5] [] I J P Q ↔ Wp S N d MX0_compute 167 [some (.ref w), x1, x2, x3, x4, x5] [.ref w] I J P Q := wp_lod (len := 1) rfl rfl rfl rfl dX0_compute_166
theorem e_X0_compute_167 {v0 : Nat} {x0 x1 x2 x3 x4 x5 : Option Value} : Wp S N d MX0_compute 167 [x0, x1, x2, x3, x4, x5] [.ref v0] I J P Q ↔ S v0 = 0 ∧ Wp S N d MX0_compute 170 [x0, x1, x2, x3, x4, x5] [va_rf (P v0 6)] I J P Q := wp_getf rfl rfl rfl rfl dX0_compute_167
theorem e_X0_compute_170 {v0 : Nat} {w : Int32} {x0 x1 x2 x3 x4 : Option Value} : Wp S N d MX0_compute 170 [x0, x1, x2, x3, x4, some (.int w)] [.ref v0] I J P Q ↔ Wp S N d MX0_compute 172 [x0, x1, x2, x3, x4, some (.int w)] [.int w, .ref v0] I J P Q := wp_lod (len := 2) rfl rfl rfl rfl dX0_compute_170
theorem e_X0_compute_172 {v0 : Int32} {v1 : Nat} {x0 x1 x2 x3 x4 x5 : Option Value} : Wp S N d MX0_compute 172 [x0, x1, x2, x3, x4, x5] [.int v0, .ref v1] I J P Q ↔ ((S v1 = 12 ∨ S v1 = 13 ∨ S v1 = 14) ∧ vp_in v0 (N v1)) ∧ Wp S N d MX0_compute 173 [x0, x1, x2, x3, x4, x5] [va_rf (P v1 v0.toNatClampNeg)] I J P Q := wp_ald rfl rfl dX0_compute_172
theorem e_X0_compute_173 {v0 : Nat} {x0 x1 x2 x3 x4 x5 : Option Value} : Wp S N d MX0_compute 173 [x0, x1, x2, x3, x4, x5] [.ref v0] I J P Q ↔ Wp S N d MX0_compute 174 [x0, x1, x2, x3, x4, x5] [.int 0, .ref v0] I J P Q := wp_iconst (by decide) dX0_compute_173
theorem e_X0_compute_174 {v0 : Int32} {v1 : Nat} {w : Nat} {x1 x2 x3 x4 x5 : Option Value} : Wp S N d MX0_compute 174 [some (.ref w), x1, x2, x3, x4, x5] [.int v0, .ref v1] I J P Q ↔ Wp S N d MX0_compute 175 [some (.ref w), x1, x2, x3, x4, x5] [.ref w, .int v0, .ref v1] I J P Q := wp_lod (len := 1) rfl rfl rfl rfl dX0_compute_174
theorem e_X0_compute_175 {v0 : Nat} {v1 : Int32} {v2 : Nat} {w : Nat} {x0 x2 x3 x4 x5 : Option Value} : Wp S N d MX0_compute 175 [x0, some (.ref w), x2, x3, x4, x5] [.ref v0, .int v1, .ref v2] I J P Q ↔ Wp S N d MX0_compute 176 [x0, some (.ref w), x2, x3, x4, x5] [.ref w, .ref v0, .int v1, .ref v2] I J P Q := wp_lod (len := 1) rfl rfl rfl rfl dX0_compute_175
theorem e_X0_compute_176 {v0 : Nat} {v1 : Nat} {v2 : Int32} {v3 : Nat} {x0 x1 x2 x3 x4 x5 : Option Value} : Wp S N d MX0_compute 176 [x0, x1, x2, x3, x4, x5] [.ref v0, .ref v1, .int v2, .ref v3] I J P Q ↔ S v0 = 7 ∧ Wp S N d MX0_compute 179 [x0, x1, x2, x3, x4, x5] [va_rf (P v0 8), .ref v1, .int v2, .ref v3] I J P Q := wp_getf rfl rfl rfl rfl dX0_compute_176
theorem e_X0_compute_179 {v0 : Nat} {v1 : Nat} {v2 : Int32} {v3 : Nat} {w : Int32} {x0 x1 x2 x3 x4 : Option Value} : Wp S N d MX0_compute 179 [x0, x1, x2, x3, x4, some (.int w)] [.ref v0, .ref v1, .int v2, .ref v3] I J P Q ↔ Wp S N d MX0_compute 181 [x0, x1, x2, x3, x4, some (.int w)] [.int w, .ref v0, .ref v1, .int v2, .ref v3] I J P Q := wp_lod (len := 2) rfl rfl rfl rfl dX0_compute_179
theorem e_X0_compute_181 {v0 : Int32} {v1 : Nat} {v2 : Nat} {v3 : Int32} {v4 : Nat} {x0 x1 x2 x3 x4 x5 : Option Value} : Wp S N d MX0_compute 181 [x0, x1, x2, x3, x4, x5] [.int v0, .ref v1, .ref v2, .int v3, .ref v4] I J P Q ↔ ((S v1 = 12 ∨ S v1 = 13 ∨ S v1 = 14) ∧ vp_in v0 (N v1)) ∧ Wp S N d MX0_compute 182 [x0, x1, x2, x3, x4, x5] [va_rf (P v1 v0.toNatClampNeg), .ref v2, .int v3, .ref v4] I J P Q := wp_ald rfl rfl dX0_compute_181
theorem e_X0_compute_182 {v0 : Nat} {v1 : Nat} {v2 : Int32} {v3 : Nat} {x0 x1 x2 x3 x4 x5 : Option Value} : Wp S N d MX0_compute 182 [x0, x1, x2, x3, x4, x5] [.ref v0, .ref v1, .int v2, .ref v3] I J P Q ↔ S v0 = 2 ∧ Wp S N d MX0_compute 185 [x0, x1, x2, x3, x4, x5] [va_rf (P v0 0), .ref v1, .int v2, .ref v3] I J P Q := wp_getf rfl rfl rfl rfl dX0_compute_182
theorem e_X0_compute_185 {v0 : Nat} {v1 : Nat} {v2 : Int32} {v3 : Nat} {x0 x1 x2 x3 x4 x5 : Option Value} : Wp S N (d + 1) MX0_compute 185 [x0, x1, x2, x3, x4, x5] [.ref v0, .ref v1, .int v2, .ref v3] I J P Q ↔ S v1 = 0 ∧ CWp S N d MX0_valueOf [.ref v1, .ref v0] I J P (fun r I1 J1 P1 => Wp S N (d + 1) MX0_compute 188 [x0, x1, x2, x3, x4, x5] (r.toList ++ [.int v2, .ref v3]) I1 J1 P1 Q) := wp_callV (M' := MX0_valueOf) (As := [.ref v0]) rfl rfl rfl rfl (by decide) (Nat.le_of_ble_eq_true rfl) dX0_compute_185
theorem e_X0_compute_188 {v0 : Int64} {v1 : Int32} {v2 : Nat} {x0 x1 x2 x3 x4 x5 : Option Value} : Wp S N d MX0_compute 188 [x0, x1, x2, x3, x4, x5] [.long v0, .int v1, .ref v2] I J P Q ↔ (S v2 = 11 ∧ vp_in v1 (N v2)) ∧ Wp S N d MX0_compute 189 [x0, x1, x2, x3, x4, x5] [] I (u2 J v2 v1.toNatClampNeg v0) P Q := wp_ast rfl rfl dX0_compute_188
theorem e_X0_compute_189 {w : Nat} {x1 x2 x3 x4 x5 : Option Value} : Wp S N d MX0_compute 189 [some (.ref w), x1, x2, x3, x4, x5] [] I J P Q ↔ Wp S N d MX0_compute 190 [some (.ref w), x1, x2, x3, x4, x5] [.ref w] I J P Q := wp_lod (len := 1) rfl rfl rfl rfl dX0_compute_189
theorem e_X0_compute_190 {v0 : Nat} {w : Int32} {x0 x1 x2 x3 x4 : Option Value} : Wp S N d MX0_compute 190 [x0, x1, x2, x3, x4, some (.int w)] [.ref v0] I J P Q ↔ Wp S N d MX0_compute 192 [x0, x1, x2, x3, x4, some (.int w)] [.int w, .ref v0] I J P Q := wp_lod (len := 2) rfl rfl rfl rfl dX0_compute_190
theorem e_X0_compute_192 {v0 : Int32} {v1 : Nat} {w : Nat} {x0 x2 x3 x4 x5 : Option Value} : Wp S N d MX0_compute 192 [x0, some (.ref w), x2, x3, x4, x5] [.int v0, .ref v1] I J P Q ↔ Wp S N d MX0_compute 193 [x0, some (.ref w), x2, x3, x4, x5] [.ref w, .int v0, .ref v1] I J P Q := wp_lod (len := 1) rfl rfl rfl rfl dX0_compute_192
theorem e_X0_compute_193 {v0 : Nat} {v1 : Int32} {v2 : Nat} {x0 x1 x2 x3 x4 x5 : Option Value} : Wp S N d MX0_compute 193 [x0, x1, x2, x3, x4, x5] [.ref v0, .int v1, .ref v2] I J P Q ↔ S v0 = 7 ∧ Wp S N d MX0_compute 196 [x0, x1, x2, x3, x4, x5] [va_rf (P v0 8), .int v1, .ref v2] I J P Q := wp_getf rfl rfl rfl rfl dX0_compute_193
theorem e_X0_compute_196 {v0 : Nat} {v1 : Int32} {v2 : Nat} {w : Int32} {x0 x1 x2 x3 x4 : Option Value} : Wp S N d MX0_compute 196 [x0, x1, x2, x3, x4, some (.int w)] [.ref v0, .int v1, .ref v2] I J P Q ↔ Wp S N d MX0_compute 198 [x0, x1, x2, x3, x4, some (.int w)] [.int w, .ref v0, .int v1, .ref v2] I J P Q := wp_lod (len := 2) rfl rfl rfl rfl dX0_compute_196
theorem e_X0_compute_198 {v0 : Int32} {v1 : Nat} {v2 : Int32} {v3 : Nat} {x0 x1 x2 x3 x4 x5 : Option Value} : Wp S N d MX0_compute 198 [x0, x1, x2, x3, x4, x5] [.int v0, .ref v1, .int v2, .ref v3] I J P Q ↔ ((S v1 = 12 ∨ S v1 = 13 ∨ S v1 = 14) ∧ vp_in v0 (N v1)) ∧ Wp S N d MX0_compute 199 [x0, x1, x2, x3, x4, x5] [va_rf (P v1 v0.toNatClampNeg), .int v2, .ref v3] I J P Q := wp_ald rfl rfl dX0_compute_198
theorem e_X0_compute_199 {v0 : Nat} {v1 : Int32} {v2 : Nat} {x0 x1 x2 x3 x4 x5 : Option Value} : Wp S N d MX0_compute 199 [x0, x1, x2, x3, x4, x5] [.ref v0, .int v1, .ref v2] I J P Q ↔ S v0 = 2 ∧ Wp S N d MX0_compute 202 [x0, x1, x2, x3, x4, x5] [va_rf (P v0 0), .int v1, .ref v2] I J P Q := wp_getf rfl rfl rfl rfl dX0_compute_199
theorem e_X0_compute_202 {v0 : Nat} {v1 : Int32} {v2 : Nat} {x0 x1 x2 x3 x4 x5 : Option Value} : Wp S N d MX0_compute 202 [x0, x1, x2, x3, x4, x5] [.ref v0, .int v1, .ref v2] I J P Q ↔ Wp S N d MX0_compute 203 [x0, x1, x2, x3, x4, x5] [.int 0, .ref v0, .int v1, .ref v2] I J P Q := wp_iconst (by decide) dX0_compute_202
theorem e_X0_compute_203 {v0 : Int32} {v1 : Nat} {v2 : Int32} {v3 : Nat} {x0 x1 x2 x3 x4 x5 : Option Value} : Wp S N d MX0_compute 203 [x0, x1, x2, x3, x4, x5] [.int v0, .ref v1, .int v2, .ref v3] I J P Q ↔ (S v1 = 10 ∧ vp_in v0 (N v1)) ∧ Wp S N d MX0_compute 204 [x0, x1, x2, x3, x4, x5] [.int (I v1 v0.toNatClampNeg), .int v2, .ref v3] I J P Q := wp_ald rfl rfl dX0_compute_203
theorem e_X0_compute_204 {v0 : Int32} {v1 : Int32} {v2 : Nat} {x0 x1 x2 x3 x4 x5 : Option Value} : Wp S N (d + 1) MX0_compute 204 [x0, x1, x2, x3, x4, x5] [.int v0, .int v1, .ref v2] I J P Q ↔ S v2 = 0 ∧ CWp S N d MX0_useCredit [.ref v2, .int v1, .int v0] I J P (fun r I1 J1 P1 => Wp S N (d + 1) MX0_compute 207 [x0, x1, x2, x3, x4, x5] (r.toList ++ []) I1 J1 P1 Q) := wp_callV (M' := MX0_useCredit) (As := [.int v1, .int v0]) rfl rfl rfl rfl (by decide) (Nat.le_of_ble_eq_true rfl) dX0_compute_204
theorem e_X0_compute_207 {w : Int32} {x0 x1 x2 x3 x4 : Option Value} : Wp S N d MX0_compute 207 [x0, x1, x2, x3, x4, some (.int w)] [] I J P Q ↔ Wp S N d MX0_compute 210 [x0, x1, x2, x3, kl x4, some (.int (w + 1))] [] I J P Q := wp_inc rfl rfl dX0_compute_207
theorem e_X0_compute_210  {x0 x1 x2 x3 x4 x5 : Option Value} : Wp S N d MX0_compute 210 [x0, x1, x2, x3, x4, x5] [] I J P Q ↔ Wp S N d MX0_compute 157 [x0, x1, x2, x3, x4, x5] [] I J P Q := wp_go (len := 3) rfl (fun _ _ => rfl) rfl (by decide) dX0_compute_210
theorem e_X0_compute_213  {x0 x1 x2 x3 x4 x5 : Option Value} : Wp S N d MX0_compute 213 [x0, x1, x2, x3, x4, x5] [] I J P Q ↔ Q none I J P := wp_vret rfl dX0_compute_213
theorem dX0_shareAbove_0 : decode cX0_shareAbove 0 = .ok (.aload_n 0, 1) := by decide +kernel
theorem dX0_shareAbove_1 : decode cX0_shareAbove 1 = .ok (.getfield 36, 3) := by decide +kernel
theorem dX0_shareAbove_4 : decode cX0_shareAbove 4 = .ok (.aload_n 0, 1) := by decide +kernel
theorem dX0_shareAbove_5 : decode cX0_shareAbove 5 = .ok (.getfield 42, 3) := by decide +kernel
theorem dX0_shareAbove_8 : decode cX0_shareAbove 8 = .ok (.iload_n 1, 1) := by decide +kernel
theorem dX0_shareAbove_9 : decode cX0_shareAbove 9 = .ok (.imul, 1) := by decide +kernel
theorem dX0_shareAbove_10 : decode cX0_shareAbove 10 = .ok (.isub, 1) := by decide +kernel
theorem dX0_shareAbove_11 : decode cX0_shareAbove 11 = .ok (.istore_n 3, 1) := by decide +kernel
theorem dX0_shareAbove_12 : decode cX0_shareAbove 12 = .ok (.iload_n 3, 1) := by decide +kernel
theorem dX0_shareAbove_13 : decode cX0_shareAbove 13 = .ok (.ifCond .le 14, 3) := by decide +kernel
theorem dX0_shareAbove_16 : decode cX0_shareAbove 16 = .ok (.iload_n 3, 1) := by decide +kernel
theorem dX0_shareAbove_17 : decode cX0_shareAbove 17 = .ok (.iload_n 2, 1) := by decide +kernel
theorem dX0_shareAbove_18 : decode cX0_shareAbove 18 = .ok (.imul, 1) := by decide +kernel
theorem dX0_shareAbove_19 : decode cX0_shareAbove 19 = .ok (.i2l, 1) := by decide +kernel
theorem dX0_shareAbove_20 : decode cX0_shareAbove 20 = .ok (.ldc2_w 107, 3) := by decide +kernel
theorem dX0_shareAbove_23 : decode cX0_shareAbove 23 = .ok (.lmul, 1) := by decide +kernel
theorem dX0_shareAbove_24 : decode cX0_shareAbove 24 = .ok (.goto 4, 3) := by decide +kernel
theorem dX0_shareAbove_27 : decode cX0_shareAbove 27 = .ok (.lconst 0, 1) := by decide +kernel
theorem dX0_shareAbove_28 : decode cX0_shareAbove 28 = .ok (.lreturn, 1) := by decide +kernel
theorem c_X0_shareAbove {a0 : Nat} {a1 : Int32} {a2 : Int32} : CWp S N d MX0_shareAbove [.ref a0, .int a1, .int a2] I J P Q ↔ Wp S N d MX0_shareAbove 0 [some (.ref a0), some (.int a1), some (.int a2), none] [] I J P Q := by
  rw [cwp_iff]
  exact ⟨fun h => h.2, fun h => ⟨Nat.le_of_ble_eq_true rfl, h⟩⟩
theorem e_X0_shareAbove_0 {w : Nat} {x1 x2 x3 : Option Value} : Wp S N d MX0_shareAbove 0 [some (.ref w), x1, x2, x3] [] I J P Q ↔ Wp S N d MX0_shareAbove 1 [some (.ref w), x1, x2, x3] [.ref w] I J P Q := wp_lod (len := 1) rfl rfl rfl rfl dX0_shareAbove_0
theorem e_X0_shareAbove_1 {v0 : Nat} {x0 x1 x2 x3 : Option Value} : Wp S N d MX0_shareAbove 1 [x0, x1, x2, x3] [.ref v0] I J P Q ↔ S v0 = 0 ∧ Wp S N d MX0_shareAbove 4 [x0, x1, x2, x3] [.int (I v0 1)] I J P Q := wp_getf rfl rfl rfl rfl dX0_shareAbove_1
theorem e_X0_shareAbove_4 {v0 : Int32} {w : Nat} {x1 x2 x3 : Option Value} : Wp S N d MX0_shareAbove 4 [some (.ref w), x1, x2, x3] [.int v0] I J P Q ↔ Wp S N d MX0_shareAbove 5 [some (.ref w), x1, x2, x3] [.ref w, .int v0] I J P Q := wp_lod (len := 1) rfl rfl rfl rfl dX0_shareAbove_4
theorem e_X0_shareAbove_5 {v0 : Nat} {v1 : Int32} {x0 x1 x2 x3 : Option Value} : Wp S N d MX0_shareAbove 5 [x0, x1, x2, x3] [.ref v0, .int v1] I J P Q ↔ S v0 = 0 ∧ Wp S N d MX0_shareAbove 8 [x0, x1, x2, x3] [.int (I v0 3), .int v1] I J P Q := wp_getf rfl rfl rfl rfl dX0_shareAbove_5
theorem e_X0_shareAbove_8 {v0 : Int32} {v1 : Int32} {w : Int32} {x0 x2 x3 : Option Value} : Wp S N d MX0_shareAbove 8 [x0, some (.int w), x2, x3] [.int v0, .int v1] I J P Q ↔ Wp S N d MX0_shareAbove 9 [x0, some (.int w), x2, x3] [.int w, .int v0, .int v1] I J P Q := wp_lod (len := 1) rfl rfl rfl rfl dX0_shareAbove_8
theorem e_X0_shareAbove_9 {v0 : Int32} {v1 : Int32} {v2 : Int32} {x0 x1 x2 x3 : Option Value} : Wp S N d MX0_shareAbove 9 [x0, x1, x2, x3] [.int v0, .int v1, .int v2] I J P Q ↔ Wp S N d MX0_shareAbove 10 [x0, x1, x2, x3] [.int (v1 * v0), .int v2] I J P Q := wp_alu (len := 1) rfl rfl rfl dX0_shareAbove_9
theorem e_X0_shareAbove_10 {v0 : Int32} {v1 : Int32} {x0 x1 x2 x3 : Option Value} : Wp S N d MX0_shareAbove 10 [x0, x1, x2, x3] [.int v0, .int v1] I J P Q ↔ Wp S N d MX0_shareAbove 11 [x0, x1, x2, x3] [.int (v1 - v0)] I J P Q := wp_alu (len := 1) rfl rfl rfl dX0_shareAbove_10
theorem e_X0_shareAbove_11 {v0 : Int32} {x0 x1 x2 x3 : Option Value} : Wp S N d MX0_shareAbove 11 [x0, x1, x2, x3] [.int v0] I J P Q ↔ Wp S N d MX0_shareAbove 12 [x0, x1, kl x2, some (.int v0)] [] I J P Q := wp_sto (len := 1) rfl rfl rfl rfl (Nat.le_of_ble_eq_true rfl) rfl dX0_shareAbove_11
theorem e_X0_shareAbove_12 {w : Int32} {x0 x1 x2 : Option Value} : Wp S N d MX0_shareAbove 12 [x0, x1, x2, some (.int w)] [] I J P Q ↔ Wp S N d MX0_shareAbove 13 [x0, x1, x2, some (.int w)] [.int w] I J P Q := wp_lod (len := 1) rfl rfl rfl rfl dX0_shareAbove_12
theorem e_X0_shareAbove_13 {v0 : Int32} {x0 x1 x2 x3 : Option Value} : Wp S N d MX0_shareAbove 13 [x0, x1, x2, x3] [.int v0] I J P Q ↔ (v0 ≤ 0 → Wp S N d MX0_shareAbove 27 [x0, x1, x2, x3] [] I J P Q) ∧ (¬ v0 ≤ 0 → Wp S N d MX0_shareAbove 16 [x0, x1, x2, x3] [] I J P Q) := wp_br rfl rfl (by decide) dX0_shareAbove_13
theorem e_X0_shareAbove_16 {w : Int32} {x0 x1 x2 : Option Value} : Wp S N d MX0_shareAbove 16 [x0, x1, x2, some (.int w)] [] I J P Q ↔ Wp S N d MX0_shareAbove 17 [x0, x1, x2, some (.int w)] [.int w] I J P Q := wp_lod (len := 1) rfl rfl rfl rfl dX0_shareAbove_16
theorem e_X0_shareAbove_17 {v0 : Int32} {w : Int32} {x0 x1 x3 : Option Value} : Wp S N d MX0_shareAbove 17 [x0, x1, some (.int w), x3] [.int v0] I J P Q ↔ Wp S N d MX0_shareAbove 18 [x0, x1, some (.int w), x3] [.int w, .int v0] I J P Q := wp_lod (len := 1) rfl rfl rfl rfl dX0_shareAbove_17
theorem e_X0_shareAbove_18 {v0 : Int32} {v1 : Int32} {x0 x1 x2 x3 : Option Value} : Wp S N d MX0_shareAbove 18 [x0, x1, x2, x3] [.int v0, .int v1] I J P Q ↔ Wp S N d MX0_shareAbove 19 [x0, x1, x2, x3] [.int (v1 * v0)] I J P Q := wp_alu (len := 1) rfl rfl rfl dX0_shareAbove_18
theorem e_X0_shareAbove_19 {v0 : Int32} {x0 x1 x2 x3 : Option Value} : Wp S N d MX0_shareAbove 19 [x0, x1, x2, x3] [.int v0] I J P Q ↔ Wp S N d MX0_shareAbove 20 [x0, x1, x2, x3] [.long v0.toInt64] I J P Q := wp_alu (len := 1) rfl rfl rfl dX0_shareAbove_19
theorem e_X0_shareAbove_20 {v0 : Int64} {x0 x1 x2 x3 : Option Value} : Wp S N d MX0_shareAbove 20 [x0, x1, x2, x3] [.long v0] I J P Q ↔ Wp S N d MX0_shareAbove 23 [x0, x1, x2, x3] [.long 1000, .long v0] I J P Q := wp_ldc2 rfl dX0_shareAbove_20
theorem e_X0_shareAbove_23 {v0 : Int64} {v1 : Int64} {x0 x1 x2 x3 : Option Value} : Wp S N d MX0_shareAbove 23 [x0, x1, x2, x3] [.long v0, .long v1] I J P Q ↔ Wp S N d MX0_shareAbove 24 [x0, x1, x2, x3] [.long (v1 * v0)] I J P Q := wp_alu (len := 1) rfl rfl rfl dX0_shareAbove_23
theorem e_X0_shareAbove_24 {v0 : Int64} {x0 x1 x2 x3 : Option Value} : Wp S N d MX0_shareAbove 24 [x0, x1, x2, x3] [.long v0] I J P Q ↔ Wp S N d MX0_shareAbove 28 [x0, x1, x2, x3] [.long v0] I J P Q := wp_go (len := 3) rfl (fun _ _ => rfl) rfl (by decide) dX0_shareAbove_24
theorem e_X0_shareAbove_27  {x0 x1 x2 x3 : Option Value} : Wp S N d MX0_shareAbove 27 [x0, x1, x2, x3] [] I J P Q ↔ Wp S N d MX0_shareAbove 28 [x0, x1, x2, x3] [.long 0] I J P Q := wp_lconst (by decide) dX0_shareAbove_27
theorem e_X0_shareAbove_28 {v0 : Int64} {x0 x1 x2 x3 : Option Value} : Wp S N d MX0_shareAbove 28 [x0, x1, x2, x3] [.long v0] I J P Q ↔ Q (some (.long v0)) I J P := wp_lret rfl dX0_shareAbove_28
theorem dX0_scheduled_0 : decode cX0_scheduled 0 = .ok (.lconst 0, 1) := by decide +kernel
theorem dX0_scheduled_1 : decode cX0_scheduled 1 = .ok (.lstore 4, 2) := by decide +kernel
theorem dX0_scheduled_3 : decode cX0_scheduled 3 = .ok (.iconst 0, 1) := by decide +kernel
theorem dX0_scheduled_4 : decode cX0_scheduled 4 = .ok (.istore 6, 2) := by decide +kernel
theorem dX0_scheduled_6 : decode cX0_scheduled 6 = .ok (.iload 6, 2) := by decide +kernel
theorem dX0_scheduled_8 : decode cX0_scheduled 8 = .ok (.aload_n 1, 1) := by decide +kernel
theorem dX0_scheduled_9 : decode cX0_scheduled 9 = .ok (.getfield 109, 3) := by decide +kernel
theorem dX0_scheduled_12 : decode cX0_scheduled 12 = .ok (.if_icmp .ge 97, 3) := by decide +kernel
theorem dX0_scheduled_15 : decode cX0_scheduled 15 = .ok (.lload_n 2, 1) := by decide +kernel
theorem dX0_scheduled_16 : decode cX0_scheduled 16 = .ok (.lstore 7, 2) := by decide +kernel
theorem dX0_scheduled_18 : decode cX0_scheduled 18 = .ok (.iload 6, 2) := by decide +kernel
theorem dX0_scheduled_20 : decode cX0_scheduled 20 = .ok (.iconst 1, 1) := by decide +kernel
theorem dX0_scheduled_21 : decode cX0_scheduled 21 = .ok (.iadd, 1) := by decide +kernel
theorem dX0_scheduled_22 : decode cX0_scheduled 22 = .ok (.aload_n 1, 1) := by decide +kernel
theorem dX0_scheduled_23 : decode cX0_scheduled 23 = .ok (.getfield 109, 3) := by decide +kernel
theorem dX0_scheduled_26 : decode cX0_scheduled 26 = .ok (.if_icmp .ge 28, 3) := by decide +kernel
theorem dX0_scheduled_29 : decode cX0_scheduled 29 = .ok (.lload_n 2, 1) := by decide +kernel
theorem dX0_scheduled_30 : decode cX0_scheduled 30 = .ok (.aload_n 0, 1) := by decide +kernel
theorem dX0_scheduled_31 : decode cX0_scheduled 31 = .ok (.getfield 42, 3) := by decide +kernel
theorem dX0_scheduled_34 : decode cX0_scheduled 34 = .ok (.aload_n 1, 1) := by decide +kernel
theorem dX0_scheduled_35 : decode cX0_scheduled 35 = .ok (.getfield 112, 3) := by decide +kernel
theorem dX0_scheduled_38 : decode cX0_scheduled 38 = .ok (.iload 6, 2) := by decide +kernel
theorem dX0_scheduled_40 : decode cX0_scheduled 40 = .ok (.iconst 1, 1) := by decide +kernel
theorem dX0_scheduled_41 : decode cX0_scheduled 41 = .ok (.iadd, 1) := by decide +kernel
theorem dX0_scheduled_42 : decode cX0_scheduled 42 = .ok (.iaload, 1) := by decide +kernel
theorem dX0_scheduled_43 : decode cX0_scheduled 43 = .ok (.imul, 1) := by decide +kernel
theorem dX0_scheduled_44 : decode cX0_scheduled 44 = .ok (.i2l, 1) := by decide +kernel
theorem dX0_scheduled_45 : decode cX0_scheduled 45 = .ok (.ldc2_w 69, 3) := by decide +kernel
theorem dX0_scheduled_48 : decode cX0_scheduled 48 = .ok (.lmul, 1) := by decide +kernel
theorem dX0_scheduled_49 : decode cX0_scheduled 49 = .ok (.invokestatic 115, 3) := by decide +kernel
theorem dX0_scheduled_52 : decode cX0_scheduled 52 = .ok (.lstore 7, 2) := by decide +kernel
theorem dX0_scheduled_54 : decode cX0_scheduled 54 = .ok (.lload 7, 2) := by decide +kernel
theorem dX0_scheduled_56 : decode cX0_scheduled 56 = .ok (.aload_n 0, 1) := by decide +kernel
theorem dX0_scheduled_57 : decode cX0_scheduled 57 = .ok (.getfield 42, 3) := by decide +kernel
theorem dX0_scheduled_60 : decode cX0_scheduled 60 = .ok (.aload_n 1, 1) := by decide +kernel
theorem dX0_scheduled_61 : decode cX0_scheduled 61 = .ok (.getfield 112, 3) := by decide +kernel
theorem dX0_scheduled_64 : decode cX0_scheduled 64 = .ok (.iload 6, 2) := by decide +kernel
theorem dX0_scheduled_66 : decode cX0_scheduled 66 = .ok (.iaload, 1) := by decide +kernel
theorem dX0_scheduled_67 : decode cX0_scheduled 67 = .ok (.imul, 1) := by decide +kernel
theorem dX0_scheduled_68 : decode cX0_scheduled 68 = .ok (.i2l, 1) := by decide +kernel
theorem dX0_scheduled_69 : decode cX0_scheduled 69 = .ok (.ldc2_w 69, 3) := by decide +kernel
theorem dX0_scheduled_72 : decode cX0_scheduled 72 = .ok (.lmul, 1) := by decide +kernel
theorem dX0_scheduled_73 : decode cX0_scheduled 73 = .ok (.lsub, 1) := by decide +kernel
theorem dX0_scheduled_74 : decode cX0_scheduled 74 = .ok (.lstore 9, 2) := by decide +kernel
theorem dX0_scheduled_76 : decode cX0_scheduled 76 = .ok (.lload 9, 2) := by decide +kernel
theorem dX0_scheduled_78 : decode cX0_scheduled 78 = .ok (.lconst 0, 1) := by decide +kernel
theorem dX0_scheduled_79 : decode cX0_scheduled 79 = .ok (.lcmp, 1) := by decide +kernel
theorem dX0_scheduled_80 : decode cX0_scheduled 80 = .ok (.ifCond .le 23, 3) := by decide +kernel
theorem dX0_scheduled_83 : decode cX0_scheduled 83 = .ok (.lload 4, 2) := by decide +kernel
theorem dX0_scheduled_85 : decode cX0_scheduled 85 = .ok (.lload 9, 2) := by decide +kernel
theorem dX0_scheduled_87 : decode cX0_scheduled 87 = .ok (.aload_n 1, 1) := by decide +kernel
theorem dX0_scheduled_88 : decode cX0_scheduled 88 = .ok (.getfield 118, 3) := by decide +kernel
theorem dX0_scheduled_91 : decode cX0_scheduled 91 = .ok (.iload 6, 2) := by decide +kernel
theorem dX0_scheduled_93 : decode cX0_scheduled 93 = .ok (.iaload, 1) := by decide +kernel
theorem dX0_scheduled_94 : decode cX0_scheduled 94 = .ok (.i2l, 1) := by decide +kernel
theorem dX0_scheduled_95 : decode cX0_scheduled 95 = .ok (.lmul, 1) := by decide +kernel
theorem dX0_scheduled_96 : decode cX0_scheduled 96 = .ok (.ldc2_w 107, 3) := by decide +kernel
theorem dX0_scheduled_99 : decode cX0_scheduled 99 = .ok (.ldiv, 1) := by decide +kernel
theorem dX0_scheduled_100 : decode cX0_scheduled 100 = .ok (.ladd, 1) := by decide +kernel
theorem dX0_scheduled_101 : decode cX0_scheduled 101 = .ok (.lstore 4, 2) := by decide +kernel
theorem dX0_scheduled_103 : decode cX0_scheduled 103 = .ok (.iinc 6 1, 3) := by decide +kernel
theorem dX0_scheduled_106 : decode cX0_scheduled 106 = .ok (.goto (-100), 3) := by decide +kernel
theorem dX0_scheduled_109 : decode cX0_scheduled 109 = .ok (.lload 4, 2) := by decide +kernel
theorem dX0_scheduled_111 : decode cX0_scheduled 111 = .ok (.lreturn, 1) := by decide +kernel
theorem c_X0_scheduled {a0 : Nat} {a1 : Nat} {a2 : Int64} : CWp S N d MX0_scheduled [.ref a0, .ref a1, .long a2] I J P Q ↔ Wp S N d MX0_scheduled 0 [some (.ref a0), some (.ref a1), some (.long a2), none, none, none, none, none, none, none, none] [] I J P Q := by
  rw [cwp_iff]
  exact ⟨fun h => h.2, fun h => ⟨Nat.le_of_ble_eq_true rfl, h⟩⟩
theorem e_X0_scheduled_0  {x0 x1 x2 x3 x4 x5 x6 x7 x8 x9 x10 : Option Value} : Wp S N d MX0_scheduled 0 [x0, x1, x2, x3, x4, x5, x6, x7, x8, x9, x10] [] I J P Q ↔ Wp S N d MX0_scheduled 1 [x0, x1, x2, x3, x4, x5, x6, x7, x8, x9, x10] [.long 0] I J P Q := wp_lconst (by decide) dX0_scheduled_0
theorem e_X0_scheduled_1 {v0 : Int64} {x0 x1 x2 x3 x4 x5 x6 x7 x8 x9 x10 : Option Value} : Wp S N d MX0_scheduled 1 [x0, x1, x2, x3, x4, x5, x6, x7, x8, x9, x10] [.long v0] I J P Q ↔ Wp S N d MX0_scheduled 3 [x0, x1, x2, kl x3, some (.long v0), none, x6, x7, x8, x9, x10] [] I J P Q := wp_sto (len := 2) rfl rfl rfl rfl (Nat.le_of_ble_eq_true rfl) rfl dX0_scheduled_1
theorem e_X0_scheduled_3  {x0 x1 x2 x3 x4 x5 x6 x7 x8 x9 x10 : Option Value} : Wp S N d MX0_scheduled 3 [x0, x1, x2, x3, x4, x5, x6, x7, x8, x9, x10] [] I J P Q ↔ Wp S N d MX0_scheduled 4 [x0, x1, x2, x3, x4, x5, x6, x7, x8, x9, x10] [.int 0] I J P Q := wp_iconst (by decide) dX0_scheduled_3
theorem e_X0_scheduled_4 {v0 : Int32} {x0 x1 x2 x3 x4 x5 x6 x7 x8 x9 x10 : Option Value} : Wp S N d MX0_scheduled 4 [x0, x1, x2, x3, x4, x5, x6, x7, x8, x9, x10] [.int v0] I J P Q ↔ Wp S N d MX0_scheduled 6 [x0, x1, x2, x3, x4, kl x5, some (.int v0), x7, x8, x9, x10] [] I J P Q := wp_sto (len := 2) rfl rfl rfl rfl (Nat.le_of_ble_eq_true rfl) rfl dX0_scheduled_4
theorem e_X0_scheduled_6 {w : Int32} {x0 x1 x2 x3 x4 x5 x7 x8 x9 x10 : Option Value} : Wp S N d MX0_scheduled 6 [x0, x1, x2, x3, x4, x5, some (.int w), x7, x8, x9, x10] [] I J P Q ↔ Wp S N d MX0_scheduled 8 [x0, x1, x2, x3, x4, x5, some (.int w), x7, x8, x9, x10] [.int w] I J P Q := wp_lod (len := 2) rfl rfl rfl rfl dX0_scheduled_6
theorem e_X0_scheduled_8 {v0 : Int32} {w : Nat} {x0 x2 x3 x4 x5 x6 x7 x8 x9 x10 : Option Value} : Wp S N d MX0_scheduled 8 [x0, some (.ref w), x2, x3, x4, x5, x6, x7, x8, x9, x10] [.int v0] I J P Q ↔ Wp S N d MX0_scheduled 9 [x0, some (.ref w), x2, x3, x4, x5, x6, x7, x8, x9, x10] [.ref w, .int v0] I J P Q := wp_lod (len := 1) rfl rfl rfl rfl dX0_scheduled_8
theorem e_X0_scheduled_9 {v0 : Nat} {v1 : Int32} {x0 x1 x2 x3 x4 x5 x6 x7 x8 x9 x10 : Option Value} : Wp S N d MX0_scheduled 9 [x0, x1, x2, x3, x4, x5, x6, x7, x8, x9, x10] [.ref v0, .int v1] I J P Q ↔ S v0 = 7 ∧ Wp S N d MX0_scheduled 12 [x0, x1, x2, x3, x4, x5, x6, x7, x8, x9, x10] [.int (I v0 0), .int v1] I J P Q := wp_getf rfl rfl rfl rfl dX0_scheduled_9
theorem e_X0_scheduled_12 {v0 : Int32} {v1 : Int32} {x0 x1 x2 x3 x4 x5 x6 x7 x8 x9 x10 : Option Value} : Wp S N d MX0_scheduled 12 [x0, x1, x2, x3, x4, x5, x6, x7, x8, x9, x10] [.int v0, .int v1] I J P Q ↔ (v0 ≤ v1 → Wp S N d MX0_scheduled 109 [x0, x1, x2, x3, x4, x5, x6, x7, x8, x9, x10] [] I J P Q) ∧ (¬ v0 ≤ v1 → Wp S N d MX0_scheduled 15 [x0, x1, x2, x3, x4, x5, x6, x7, x8, x9, x10] [] I J P Q) := wp_br rfl rfl (by decide) dX0_scheduled_12
theorem e_X0_scheduled_15 {w : Int64} {x0 x1 x3 x4 x5 x6 x7 x8 x9 x10 : Option Value} : Wp S N d MX0_scheduled 15 [x0, x1, some (.long w), x3, x4, x5, x6, x7, x8, x9, x10] [] I J P Q ↔ Wp S N d MX0_scheduled 16 [x0, x1, some (.long w), x3, x4, x5, x6, x7, x8, x9, x10] [.long w] I J P Q := wp_lod (len := 1) rfl rfl rfl rfl dX0_scheduled_15
theorem e_X0_scheduled_16 {v0 : Int64} {x0 x1 x2 x3 x4 x5 x6 x7 x8 x9 x10 : Option Value} : Wp S N d MX0_scheduled 16 [x0, x1, x2, x3, x4, x5, x6, x7, x8, x9, x10] [.long v0] I J P Q ↔ Wp S N d MX0_scheduled 18 [x0, x1, x2, x3, x4, x5, kl x6, some (.long v0), none, x9, x10] [] I J P Q := wp_sto (len := 2) rfl rfl rfl rfl (Nat.le_of_ble_eq_true rfl) rfl dX0_scheduled_16
theorem e_X0_scheduled_18 {w : Int32} {x0 x1 x2 x3 x4 x5 x7 x8 x9 x10 : Option Value} : Wp S N d MX0_scheduled 18 [x0, x1, x2, x3, x4, x5, some (.int w), x7, x8, x9, x10] [] I J P Q ↔ Wp S N d MX0_scheduled 20 [x0, x1, x2, x3, x4, x5, some (.int w), x7, x8, x9, x10] [.int w] I J P Q := wp_lod (len := 2) rfl rfl rfl rfl dX0_scheduled_18
theorem e_X0_scheduled_20 {v0 : Int32} {x0 x1 x2 x3 x4 x5 x6 x7 x8 x9 x10 : Option Value} : Wp S N d MX0_scheduled 20 [x0, x1, x2, x3, x4, x5, x6, x7, x8, x9, x10] [.int v0] I J P Q ↔ Wp S N d MX0_scheduled 21 [x0, x1, x2, x3, x4, x5, x6, x7, x8, x9, x10] [.int 1, .int v0] I J P Q := wp_iconst (by decide) dX0_scheduled_20
theorem e_X0_scheduled_21 {v0 : Int32} {v1 : Int32} {x0 x1 x2 x3 x4 x5 x6 x7 x8 x9 x10 : Option Value} : Wp S N d MX0_scheduled 21 [x0, x1, x2, x3, x4, x5, x6, x7, x8, x9, x10] [.int v0, .int v1] I J P Q ↔ Wp S N d MX0_scheduled 22 [x0, x1, x2, x3, x4, x5, x6, x7, x8, x9, x10] [.int (v1 + v0)] I J P Q := wp_alu (len := 1) rfl rfl rfl dX0_scheduled_21
theorem e_X0_scheduled_22 {v0 : Int32} {w : Nat} {x0 x2 x3 x4 x5 x6 x7 x8 x9 x10 : Option Value} : Wp S N d MX0_scheduled 22 [x0, some (.ref w), x2, x3, x4, x5, x6, x7, x8, x9, x10] [.int v0] I J P Q ↔ Wp S N d MX0_scheduled 23 [x0, some (.ref w), x2, x3, x4, x5, x6, x7, x8, x9, x10] [.ref w, .int v0] I J P Q := wp_lod (len := 1) rfl rfl rfl rfl dX0_scheduled_22
theorem e_X0_scheduled_23 {v0 : Nat} {v1 : Int32} {x0 x1 x2 x3 x4 x5 x6 x7 x8 x9 x10 : Option Value} : Wp S N d MX0_scheduled 23 [x0, x1, x2, x3, x4, x5, x6, x7, x8, x9, x10] [.ref v0, .int v1] I J P Q ↔ S v0 = 7 ∧ Wp S N d MX0_scheduled 26 [x0, x1, x2, x3, x4, x5, x6, x7, x8, x9, x10] [.int (I v0 0), .int v1] I J P Q := wp_getf rfl rfl rfl rfl dX0_scheduled_23
theorem e_X0_scheduled_26 {v0 : Int32} {v1 : Int32} {x0 x1 x2 x3 x4 x5 x6 x7 x8 x9 x10 : Option Value} : Wp S N d MX0_scheduled 26 [x0, x1, x2, x3, x4, x5, x6, x7, x8, x9, x10] [.int v0, .int v1] I J P Q ↔ (v0 ≤ v1 → Wp S N d MX0_scheduled 54 [x0, x1, x2, x3, x4, x5, x6, x7, x8, x9, x10] [] I J P Q) ∧ (¬ v0 ≤ v1 → Wp S N d MX0_scheduled 29 [x0, x1, x2, x3, x4, x5, x6, x7, x8, x9, x10] [] I J P Q) := wp_br rfl rfl (by decide) dX0_scheduled_26
theorem e_X0_scheduled_29 {w : Int64} {x0 x1 x3 x4 x5 x6 x7 x8 x9 x10 : Option Value} : Wp S N d MX0_scheduled 29 [x0, x1, some (.long w), x3, x4, x5, x6, x7, x8, x9, x10] [] I J P Q ↔ Wp S N d MX0_scheduled 30 [x0, x1, some (.long w), x3, x4, x5, x6, x7, x8, x9, x10] [.long w] I J P Q := wp_lod (len := 1) rfl rfl rfl rfl dX0_scheduled_29
theorem e_X0_scheduled_30 {v0 : Int64} {w : Nat} {x1 x2 x3 x4 x5 x6 x7 x8 x9 x10 : Option Value} : Wp S N d MX0_scheduled 30 [some (.ref w), x1, x2, x3, x4, x5, x6, x7, x8, x9, x10] [.long v0] I J P Q ↔ Wp S N d MX0_scheduled 31 [some (.ref w), x1, x2, x3, x4, x5, x6, x7, x8, x9, x10] [.ref w, .long v0] I J P Q := wp_lod (len := 1) rfl rfl rfl rfl dX0_scheduled_30
theorem e_X0_scheduled_31 {v0 : Nat} {v1 : Int64} {x0 x1 x2 x3 x4 x5 x6 x7 x8 x9 x10 : Option Value} : Wp S N d MX0_scheduled 31 [x0, x1, x2, x3, x4, x5, x6, x7, x8, x9, x10] [.ref v0, .long v1] I J P Q ↔ S v0 = 0 ∧ Wp S N d MX0_scheduled 34 [x0, x1, x2, x3, x4, x5, x6, x7, x8, x9, x10] [.int (I v0 3), .long v1] I J P Q := wp_getf rfl rfl rfl rfl dX0_scheduled_31
theorem e_X0_scheduled_34 {v0 : Int32} {v1 : Int64} {w : Nat} {x0 x2 x3 x4 x5 x6 x7 x8 x9 x10 : Option Value} : Wp S N d MX0_scheduled 34 [x0, some (.ref w), x2, x3, x4, x5, x6, x7, x8, x9, x10] [.int v0, .long v1] I J P Q ↔ Wp S N d MX0_scheduled 35 [x0, some (.ref w), x2, x3, x4, x5, x6, x7, x8, x9, x10] [.ref w, .int v0, .long v1] I J P Q := wp_lod (len := 1) rfl rfl rfl rfl dX0_scheduled_34
theorem e_X0_scheduled_35 {v0 : Nat} {v1 : Int32} {v2 : Int64} {x0 x1 x2 x3 x4 x5 x6 x7 x8 x9 x10 : Option Value} : Wp S N d MX0_scheduled 35 [x0, x1, x2, x3, x4, x5, x6, x7, x8, x9, x10] [.ref v0, .int v1, .long v2] I J P Q ↔ S v0 = 7 ∧ Wp S N d MX0_scheduled 38 [x0, x1, x2, x3, x4, x5, x6, x7, x8, x9, x10] [va_rf (P v0 1), .int v1, .long v2] I J P Q := wp_getf rfl rfl rfl rfl dX0_scheduled_35
theorem e_X0_scheduled_38 {v0 : Nat} {v1 : Int32} {v2 : Int64} {w : Int32} {x0 x1 x2 x3 x4 x5 x7 x8 x9 x10 : Option Value} : Wp S N d MX0_scheduled 38 [x0, x1, x2, x3, x4, x5, some (.int w), x7, x8, x9, x10] [.ref v0, .int v1, .long v2] I J P Q ↔ Wp S N d MX0_scheduled 40 [x0, x1, x2, x3, x4, x5, some (.int w), x7, x8, x9, x10] [.int w, .ref v0, .int v1, .long v2] I J P Q := wp_lod (len := 2) rfl rfl rfl rfl dX0_scheduled_38
theorem e_X0_scheduled_40 {v0 : Int32} {v1 : Nat} {v2 : Int32} {v3 : Int64} {x0 x1 x2 x3 x4 x5 x6 x7 x8 x9 x10 : Option Value} : Wp S N d MX0_scheduled 40 [x0, x1, x2, x3, x4, x5, x6, x7, x8, x9, x10] [.int v0, .ref v1, .int v2, .long v3] I J P Q ↔ Wp S N d MX0_scheduled 41 [x0, x1, x2, x3, x4, x5, x6, x7, x8, x9, x10] [.int 1, .int v0, .ref v1, .int v2, .long v3] I J P Q := wp_iconst (by decide) dX0_scheduled_40
theorem e_X0_scheduled_41 {v0 : Int32} {v1 : Int32} {v2 : Nat} {v3 : Int32} {v4 : Int64} {x0 x1 x2 x3 x4 x5 x6 x7 x8 x9 x10 : Option Value} : Wp S N d MX0_scheduled 41 [x0, x1, x2, x3, x4, x5, x6, x7, x8, x9, x10] [.int v0, .int v1, .ref v2, .int v3, .long v4] I J P Q ↔ Wp S N d MX0_scheduled 42 [x0, x1, x2, x3, x4, x5, x6, x7, x8, x9, x10] [.int (v1 + v0), .ref v2, .int v3, .long v4] I J P Q := wp_alu (len := 1) rfl rfl rfl dX0_scheduled_41
theorem e_X0_scheduled_42 {v0 : Int32} {v1 : Nat} {v2 : Int32} {v3 : Int64} {x0 x1 x2 x3 x4 x5 x6 x7 x8 x9 x10 : Option Value} : Wp S N d MX0_scheduled 42 [x0, x1, x2, x3, x4, x5, x6, x7, x8, x9, x10] [.int v0, .ref v1, .int v2, .long v3] I J P Q ↔ (S v1 = 10 ∧ vp_in v0 (N v1)) ∧ Wp S N d MX0_scheduled 43 [x0, x1, x2, x3, x4, x5, x6, x7, x8, x9, x10] [.int (I v1 v0.toNatClampNeg), .int v2, .long v3] I J P Q := wp_ald rfl rfl dX0_scheduled_42
theorem e_X0_scheduled_43 {v0 : Int32} {v1 : Int32} {v2 : Int64} {x0 x1 x2 x3 x4 x5 x6 x7 x8 x9 x10 : Option Value} : Wp S N d MX0_scheduled 43 [x0, x1, x2, x3, x4, x5, x6, x7, x8, x9, x10] [.int v0, .int v1, .long v2] I J P Q ↔ Wp S N d MX0_scheduled 44 [x0, x1, x2, x3, x4, x5, x6, x7, x8, x9, x10] [.int (v1 * v0), .long v2] I J P Q := wp_alu (len := 1) rfl rfl rfl dX0_scheduled_43
theorem e_X0_scheduled_44 {v0 : Int32} {v1 : Int64} {x0 x1 x2 x3 x4 x5 x6 x7 x8 x9 x10 : Option Value} : Wp S N d MX0_scheduled 44 [x0, x1, x2, x3, x4, x5, x6, x7, x8, x9, x10] [.int v0, .long v1] I J P Q ↔ Wp S N d MX0_scheduled 45 [x0, x1, x2, x3, x4, x5, x6, x7, x8, x9, x10] [.long v0.toInt64, .long v1] I J P Q := wp_alu (len := 1) rfl rfl rfl dX0_scheduled_44
theorem e_X0_scheduled_45 {v0 : Int64} {v1 : Int64} {x0 x1 x2 x3 x4 x5 x6 x7 x8 x9 x10 : Option Value} : Wp S N d MX0_scheduled 45 [x0, x1, x2, x3, x4, x5, x6, x7, x8, x9, x10] [.long v0, .long v1] I J P Q ↔ Wp S N d MX0_scheduled 48 [x0, x1, x2, x3, x4, x5, x6, x7, x8, x9, x10] [.long 1000000, .long v0, .long v1] I J P Q := wp_ldc2 rfl dX0_scheduled_45
theorem e_X0_scheduled_48 {v0 : Int64} {v1 : Int64} {v2 : Int64} {x0 x1 x2 x3 x4 x5 x6 x7 x8 x9 x10 : Option Value} : Wp S N d MX0_scheduled 48 [x0, x1, x2, x3, x4, x5, x6, x7, x8, x9, x10] [.long v0, .long v1, .long v2] I J P Q ↔ Wp S N d MX0_scheduled 49 [x0, x1, x2, x3, x4, x5, x6, x7, x8, x9, x10] [.long (v1 * v0), .long v2] I J P Q := wp_alu (len := 1) rfl rfl rfl dX0_scheduled_48
theorem e_X0_scheduled_49 {v0 : Int64} {v1 : Int64} {x0 x1 x2 x3 x4 x5 x6 x7 x8 x9 x10 : Option Value} : Wp S N (d + 1) MX0_scheduled 49 [x0, x1, x2, x3, x4, x5, x6, x7, x8, x9, x10] [.long v0, .long v1] I J P Q ↔ Wp S N (d + 1) MX0_scheduled 52 [x0, x1, x2, x3, x4, x5, x6, x7, x8, x9, x10] [.long (if v0 < v1 then v0 else v1)] I J P Q := wp_lmin rfl rfl (Nat.le_of_ble_eq_true rfl) dX0_scheduled_49
theorem e_X0_scheduled_52 {v0 : Int64} {x0 x1 x2 x3 x4 x5 x6 x7 x8 x9 x10 : Option Value} : Wp S N d MX0_scheduled 52 [x0, x1, x2, x3, x4, x5, x6, x7, x8, x9, x10] [.long v0] I J P Q ↔ Wp S N d MX0_scheduled 54 [x0, x1, x2, x3, x4, x5, kl x6, some (.long v0), none, x9, x10] [] I J P Q := wp_sto (len := 2) rfl rfl rfl rfl (Nat.le_of_ble_eq_true rfl) rfl dX0_scheduled_52
theorem e_X0_scheduled_54 {w : Int64} {x0 x1 x2 x3 x4 x5 x6 x8 x9 x10 : Option Value} : Wp S N d MX0_scheduled 54 [x0, x1, x2, x3, x4, x5, x6, some (.long w), x8, x9, x10] [] I J P Q ↔ Wp S N d MX0_scheduled 56 [x0, x1, x2, x3, x4, x5, x6, some (.long w), x8, x9, x10] [.long w] I J P Q := wp_lod (len := 2) rfl rfl rfl rfl dX0_scheduled_54
theorem e_X0_scheduled_56 {v0 : Int64} {w : Nat} {x1 x2 x3 x4 x5 x6 x7 x8 x9 x10 : Option Value} : Wp S N d MX0_scheduled 56 [some (.ref w), x1, x2, x3, x4, x5, x6, x7, x8, x9, x10] [.long v0] I J P Q ↔ Wp S N d MX0_scheduled 57 [some (.ref w), x1, x2, x3, x4, x5, x6, x7, x8, x9, x10] [.ref w, .long v0] I J P Q := wp_lod (len := 1) rfl rfl rfl rfl dX0_scheduled_56
theorem e_X0_scheduled_57 {v0 : Nat} {v1 : Int64} {x0 x1 x2 x3 x4 x5 x6 x7 x8 x9 x10 : Option Value} : Wp S N d MX0_scheduled 57 [x0, x1, x2, x3, x4, x5, x6, x7, x8, x9, x10] [.ref v0, .long v1] I J P Q ↔ S v0 = 0 ∧ Wp S N d MX0_scheduled 60 [x0, x1, x2, x3, x4, x5, x6, x7, x8, x9, x10] [.int (I v0 3), .long v1] I J P Q := wp_getf rfl rfl rfl rfl dX0_scheduled_57
theorem e_X0_scheduled_60 {v0 : Int32} {v1 : Int64} {w : Nat} {x0 x2 x3 x4 x5 x6 x7 x8 x9 x10 : Option Value} : Wp S N d MX0_scheduled 60 [x0, some (.ref w), x2, x3, x4, x5, x6, x7, x8, x9, x10] [.int v0, .long v1] I J P Q ↔ Wp S N d MX0_scheduled 61 [x0, some (.ref w), x2, x3, x4, x5, x6, x7, x8, x9, x10] [.ref w, .int v0, .long v1] I J P Q := wp_lod (len := 1) rfl rfl rfl rfl dX0_scheduled_60
theorem e_X0_scheduled_61 {v0 : Nat} {v1 : Int32} {v2 : Int64} {x0 x1 x2 x3 x4 x5 x6 x7 x8 x9 x10 : Option Value} : Wp S N d MX0_scheduled 61 [x0, x1, x2, x3, x4, x5, x6, x7, x8, x9, x10] [.ref v0, .int v1, .long v2] I J P Q ↔ S v0 = 7 ∧ Wp S N d MX0_scheduled 64 [x0, x1, x2, x3, x4, x5, x6, x7, x8, x9, x10] [va_rf (P v0 1), .int v1, .long v2] I J P Q := wp_getf rfl rfl rfl rfl dX0_scheduled_61
theorem e_X0_scheduled_64 {v0 : Nat} {v1 : Int32} {v2 : Int64} {w : Int32} {x0 x1 x2 x3 x4 x5 x7 x8 x9 x10 : Option Value} : Wp S N d MX0_scheduled 64 [x0, x1, x2, x3, x4, x5, some (.int w), x7, x8, x9, x10] [.ref v0, .int v1, .long v2] I J P Q ↔ Wp S N d MX0_scheduled 66 [x0, x1, x2, x3, x4, x5, some (.int w), x7, x8, x9, x10] [.int w, .ref v0, .int v1, .long v2] I J P Q := wp_lod (len := 2) rfl rfl rfl rfl dX0_scheduled_64
theorem e_X0_scheduled_66 {v0 : Int32} {v1 : Nat} {v2 : Int32} {v3 : Int64} {x0 x1 x2 x3 x4 x5 x6 x7 x8 x9 x10 : Option Value} : Wp S N d MX0_scheduled 66 [x0, x1, x2, x3, x4, x5, x6, x7, x8, x9, x10] [.int v0, .ref v1, .int v2, .long v3] I J P Q ↔ (S v1 = 10 ∧ vp_in v0 (N v1)) ∧ Wp S N d MX0_scheduled 67 [x0, x1, x2, x3, x4, x5, x6, x7, x8, x9, x10] [.int (I v1 v0.toNatClampNeg), .int v2, .long v3] I J P Q := wp_ald rfl rfl dX0_scheduled_66
theorem e_X0_scheduled_67 {v0 : Int32} {v1 : Int32} {v2 : Int64} {x0 x1 x2 x3 x4 x5 x6 x7 x8 x9 x10 : Option Value} : Wp S N d MX0_scheduled 67 [x0, x1, x2, x3, x4, x5, x6, x7, x8, x9, x10] [.int v0, .int v1, .long v2] I J P Q ↔ Wp S N d MX0_scheduled 68 [x0, x1, x2, x3, x4, x5, x6, x7, x8, x9, x10] [.int (v1 * v0), .long v2] I J P Q := wp_alu (len := 1) rfl rfl rfl dX0_scheduled_67
theorem e_X0_scheduled_68 {v0 : Int32} {v1 : Int64} {x0 x1 x2 x3 x4 x5 x6 x7 x8 x9 x10 : Option Value} : Wp S N d MX0_scheduled 68 [x0, x1, x2, x3, x4, x5, x6, x7, x8, x9, x10] [.int v0, .long v1] I J P Q ↔ Wp S N d MX0_scheduled 69 [x0, x1, x2, x3, x4, x5, x6, x7, x8, x9, x10] [.long v0.toInt64, .long v1] I J P Q := wp_alu (len := 1) rfl rfl rfl dX0_scheduled_68
theorem e_X0_scheduled_69 {v0 : Int64} {v1 : Int64} {x0 x1 x2 x3 x4 x5 x6 x7 x8 x9 x10 : Option Value} : Wp S N d MX0_scheduled 69 [x0, x1, x2, x3, x4, x5, x6, x7, x8, x9, x10] [.long v0, .long v1] I J P Q ↔ Wp S N d MX0_scheduled 72 [x0, x1, x2, x3, x4, x5, x6, x7, x8, x9, x10] [.long 1000000, .long v0, .long v1] I J P Q := wp_ldc2 rfl dX0_scheduled_69
theorem e_X0_scheduled_72 {v0 : Int64} {v1 : Int64} {v2 : Int64} {x0 x1 x2 x3 x4 x5 x6 x7 x8 x9 x10 : Option Value} : Wp S N d MX0_scheduled 72 [x0, x1, x2, x3, x4, x5, x6, x7, x8, x9, x10] [.long v0, .long v1, .long v2] I J P Q ↔ Wp S N d MX0_scheduled 73 [x0, x1, x2, x3, x4, x5, x6, x7, x8, x9, x10] [.long (v1 * v0), .long v2] I J P Q := wp_alu (len := 1) rfl rfl rfl dX0_scheduled_72
theorem e_X0_scheduled_73 {v0 : Int64} {v1 : Int64} {x0 x1 x2 x3 x4 x5 x6 x7 x8 x9 x10 : Option Value} : Wp S N d MX0_scheduled 73 [x0, x1, x2, x3, x4, x5, x6, x7, x8, x9, x10] [.long v0, .long v1] I J P Q ↔ Wp S N d MX0_scheduled 74 [x0, x1, x2, x3, x4, x5, x6, x7, x8, x9, x10] [.long (v1 - v0)] I J P Q := wp_alu (len := 1) rfl rfl rfl dX0_scheduled_73
theorem e_X0_scheduled_74 {v0 : Int64} {x0 x1 x2 x3 x4 x5 x6 x7 x8 x9 x10 : Option Value} : Wp S N d MX0_scheduled 74 [x0, x1, x2, x3, x4, x5, x6, x7, x8, x9, x10] [.long v0] I J P Q ↔ Wp S N d MX0_scheduled 76 [x0, x1, x2, x3, x4, x5, x6, x7, kl x8, some (.long v0), none] [] I J P Q := wp_sto (len := 2) rfl rfl rfl rfl (Nat.le_of_ble_eq_true rfl) rfl dX0_scheduled_74
theorem e_X0_scheduled_76 {w : Int64} {x0 x1 x2 x3 x4 x5 x6 x7 x8 x10 : Option Value} : Wp S N d MX0_scheduled 76 [x0, x1, x2, x3, x4, x5, x6, x7, x8, some (.long w), x10] [] I J P Q ↔ Wp S N d MX0_scheduled 78 [x0, x1, x2, x3, x4, x5, x6, x7, x8, some (.long w), x10] [.long w] I J P Q := wp_lod (len := 2) rfl rfl rfl rfl dX0_scheduled_76
theorem e_X0_scheduled_78 {v0 : Int64} {x0 x1 x2 x3 x4 x5 x6 x7 x8 x9 x10 : Option Value} : Wp S N d MX0_scheduled 78 [x0, x1, x2, x3, x4, x5, x6, x7, x8, x9, x10] [.long v0] I J P Q ↔ Wp S N d MX0_scheduled 79 [x0, x1, x2, x3, x4, x5, x6, x7, x8, x9, x10] [.long 0, .long v0] I J P Q := wp_lconst (by decide) dX0_scheduled_78
theorem e_X0_scheduled_79 {v0 : Int64} {v1 : Int64} {x0 x1 x2 x3 x4 x5 x6 x7 x8 x9 x10 : Option Value} : Wp S N d MX0_scheduled 79 [x0, x1, x2, x3, x4, x5, x6, x7, x8, x9, x10] [.long v0, .long v1] I J P Q ↔ Wp S N d MX0_scheduled 80 [x0, x1, x2, x3, x4, x5, x6, x7, x8, x9, x10] [.int (lg_cmp v1 v0)] I J P Q := wp_alu (len := 1) rfl rfl rfl dX0_scheduled_79
theorem e_X0_scheduled_80 {v0 : Int32} {x0 x1 x2 x3 x4 x5 x6 x7 x8 x9 x10 : Option Value} : Wp S N d MX0_scheduled 80 [x0, x1, x2, x3, x4, x5, x6, x7, x8, x9, x10] [.int v0] I J P Q ↔ (v0 ≤ 0 → Wp S N d MX0_scheduled 103 [x0, x1, x2, x3, x4, x5, x6, x7, x8, x9, x10] [] I J P Q) ∧ (¬ v0 ≤ 0 → Wp S N d MX0_scheduled 83 [x0, x1, x2, x3, x4, x5, x6, x7, x8, x9, x10] [] I J P Q) := wp_br rfl rfl (by decide) dX0_scheduled_80
theorem e_X0_scheduled_83 {w : Int64} {x0 x1 x2 x3 x5 x6 x7 x8 x9 x10 : Option Value} : Wp S N d MX0_scheduled 83 [x0, x1, x2, x3, some (.long w), x5, x6, x7, x8, x9, x10] [] I J P Q ↔ Wp S N d MX0_scheduled 85 [x0, x1, x2, x3, some (.long w), x5, x6, x7, x8, x9, x10] [.long w] I J P Q := wp_lod (len := 2) rfl rfl rfl rfl dX0_scheduled_83
theorem e_X0_scheduled_85 {v0 : Int64} {w : Int64} {x0 x1 x2 x3 x4 x5 x6 x7 x8 x10 : Option Value} : Wp S N d MX0_scheduled 85 [x0, x1, x2, x3, x4, x5, x6, x7, x8, some (.long w), x10] [.long v0] I J P Q ↔ Wp S N d MX0_scheduled 87 [x0, x1, x2, x3, x4, x5, x6, x7, x8, some (.long w), x10] [.long w, .long v0] I J P Q := wp_lod (len := 2) rfl rfl rfl rfl dX0_scheduled_85
theorem e_X0_scheduled_87 {v0 : Int64} {v1 : Int64} {w : Nat} {x0 x2 x3 x4 x5 x6 x7 x8 x9 x10 : Option Value} : Wp S N d MX0_scheduled 87 [x0, some (.ref w), x2, x3, x4, x5, x6, x7, x8, x9, x10] [.long v0, .long v1] I J P Q ↔ Wp S N d MX0_scheduled 88 [x0, some (.ref w), x2, x3, x4, x5, x6, x7, x8, x9, x10] [.ref w, .long v0, .long v1] I J P Q := wp_lod (len := 1) rfl rfl rfl rfl dX0_scheduled_87
theorem e_X0_scheduled_88 {v0 : Nat} {v1 : Int64} {v2 : Int64} {x0 x1 x2 x3 x4 x5 x6 x7 x8 x9 x10 : Option Value} : Wp S N d MX0_scheduled 88 [x0, x1, x2, x3, x4, x5, x6, x7, x8, x9, x10] [.ref v0, .long v1, .long v2] I J P Q ↔ S v0 = 7 ∧ Wp S N d MX0_scheduled 91 [x0, x1, x2, x3, x4, x5, x6, x7, x8, x9, x10] [va_rf (P v0 2), .long v1, .long v2] I J P Q := wp_getf rfl rfl rfl rfl dX0_scheduled_88
theorem e_X0_scheduled_91 {v0 : Nat} {v1 : Int64} {v2 : Int64} {w : Int32} {x0 x1 x2 x3 x4 x5 x7 x8 x9 x10 : Option Value} : Wp S N d MX0_scheduled 91 [x0, x1, x2, x3, x4, x5, some (.int w), x7, x8, x9, x10] [.ref v0, .long v1, .long v2] I J P Q ↔ Wp S N d MX0_scheduled 93 [x0, x1, x2, x3, x4, x5, some (.int w), x7, x8, x9, x10] [.int w, .ref v0, .long v1, .long v2] I J P Q := wp_lod (len := 2) rfl rfl rfl rfl dX0_scheduled_91
theorem e_X0_scheduled_93 {v0 : Int32} {v1 : Nat} {v2 : Int64} {v3 : Int64} {x0 x1 x2 x3 x4 x5 x6 x7 x8 x9 x10 : Option Value} : Wp S N d MX0_scheduled 93 [x0, x1, x2, x3, x4, x5, x6, x7, x8, x9, x10] [.int v0, .ref v1, .long v2, .long v3] I J P Q ↔ (S v1 = 10 ∧ vp_in v0 (N v1)) ∧ Wp S N d MX0_scheduled 94 [x0, x1, x2, x3, x4, x5, x6, x7, x8, x9, x10] [.int (I v1 v0.toNatClampNeg), .long v2, .long v3] I J P Q := wp_ald rfl rfl dX0_scheduled_93
theorem e_X0_scheduled_94 {v0 : Int32} {v1 : Int64} {v2 : Int64} {x0 x1 x2 x3 x4 x5 x6 x7 x8 x9 x10 : Option Value} : Wp S N d MX0_scheduled 94 [x0, x1, x2, x3, x4, x5, x6, x7, x8, x9, x10] [.int v0, .long v1, .long v2] I J P Q ↔ Wp S N d MX0_scheduled 95 [x0, x1, x2, x3, x4, x5, x6, x7, x8, x9, x10] [.long v0.toInt64, .long v1, .long v2] I J P Q := wp_alu (len := 1) rfl rfl rfl dX0_scheduled_94
theorem e_X0_scheduled_95 {v0 : Int64} {v1 : Int64} {v2 : Int64} {x0 x1 x2 x3 x4 x5 x6 x7 x8 x9 x10 : Option Value} : Wp S N d MX0_scheduled 95 [x0, x1, x2, x3, x4, x5, x6, x7, x8, x9, x10] [.long v0, .long v1, .long v2] I J P Q ↔ Wp S N d MX0_scheduled 96 [x0, x1, x2, x3, x4, x5, x6, x7, x8, x9, x10] [.long (v1 * v0), .long v2] I J P Q := wp_alu (len := 1) rfl rfl rfl dX0_scheduled_95
theorem e_X0_scheduled_96 {v0 : Int64} {v1 : Int64} {x0 x1 x2 x3 x4 x5 x6 x7 x8 x9 x10 : Option Value} : Wp S N d MX0_scheduled 96 [x0, x1, x2, x3, x4, x5, x6, x7, x8, x9, x10] [.long v0, .long v1] I J P Q ↔ Wp S N d MX0_scheduled 99 [x0, x1, x2, x3, x4, x5, x6, x7, x8, x9, x10] [.long 1000, .long v0, .long v1] I J P Q := wp_ldc2 rfl dX0_scheduled_96
theorem e_X0_scheduled_99 {v0 : Int64} {v1 : Int64} {v2 : Int64} (h0 : ¬ v0 = 0) {x0 x1 x2 x3 x4 x5 x6 x7 x8 x9 x10 : Option Value} : Wp S N d MX0_scheduled 99 [x0, x1, x2, x3, x4, x5, x6, x7, x8, x9, x10] [.long v0, .long v1, .long v2] I J P Q ↔ Wp S N d MX0_scheduled 100 [x0, x1, x2, x3, x4, x5, x6, x7, x8, x9, x10] [.long (v1 / v0), .long v2] I J P Q := wp_ldiv h0 dX0_scheduled_99
theorem e_X0_scheduled_100 {v0 : Int64} {v1 : Int64} {x0 x1 x2 x3 x4 x5 x6 x7 x8 x9 x10 : Option Value} : Wp S N d MX0_scheduled 100 [x0, x1, x2, x3, x4, x5, x6, x7, x8, x9, x10] [.long v0, .long v1] I J P Q ↔ Wp S N d MX0_scheduled 101 [x0, x1, x2, x3, x4, x5, x6, x7, x8, x9, x10] [.long (v1 + v0)] I J P Q := wp_alu (len := 1) rfl rfl rfl dX0_scheduled_100
theorem e_X0_scheduled_101 {v0 : Int64} {x0 x1 x2 x3 x4 x5 x6 x7 x8 x9 x10 : Option Value} : Wp S N d MX0_scheduled 101 [x0, x1, x2, x3, x4, x5, x6, x7, x8, x9, x10] [.long v0] I J P Q ↔ Wp S N d MX0_scheduled 103 [x0, x1, x2, kl x3, some (.long v0), none, x6, x7, x8, x9, x10] [] I J P Q := wp_sto (len := 2) rfl rfl rfl rfl (Nat.le_of_ble_eq_true rfl) rfl dX0_scheduled_101
theorem e_X0_scheduled_103 {w : Int32} {x0 x1 x2 x3 x4 x5 x7 x8 x9 x10 : Option Value} : Wp S N d MX0_scheduled 103 [x0, x1, x2, x3, x4, x5, some (.int w), x7, x8, x9, x10] [] I J P Q ↔ Wp S N d MX0_scheduled 106 [x0, x1, x2, x3, x4, kl x5, some (.int (w + 1)), x7, x8, x9, x10] [] I J P Q := wp_inc rfl rfl dX0_scheduled_103
theorem e_X0_scheduled_106  {x0 x1 x2 x3 x4 x5 x6 x7 x8 x9 x10 : Option Value} : Wp S N d MX0_scheduled 106 [x0, x1, x2, x3, x4, x5, x6, x7, x8, x9, x10] [] I J P Q ↔ Wp S N d MX0_scheduled 6 [x0, x1, x2, x3, x4, x5, x6, x7, x8, x9, x10] [] I J P Q := wp_go (len := 3) rfl (fun _ _ => rfl) rfl (by decide) dX0_scheduled_106
theorem e_X0_scheduled_109 {w : Int64} {x0 x1 x2 x3 x5 x6 x7 x8 x9 x10 : Option Value} : Wp S N d MX0_scheduled 109 [x0, x1, x2, x3, some (.long w), x5, x6, x7, x8, x9, x10] [] I J P Q ↔ Wp S N d MX0_scheduled 111 [x0, x1, x2, x3, some (.long w), x5, x6, x7, x8, x9, x10] [.long w] I J P Q := wp_lod (len := 2) rfl rfl rfl rfl dX0_scheduled_109
theorem e_X0_scheduled_111 {v0 : Int64} {x0 x1 x2 x3 x4 x5 x6 x7 x8 x9 x10 : Option Value} : Wp S N d MX0_scheduled 111 [x0, x1, x2, x3, x4, x5, x6, x7, x8, x9, x10] [.long v0] I J P Q ↔ Q (some (.long v0)) I J P := wp_lret rfl dX0_scheduled_111
theorem dX0_chargesDue_0 : decode cX0_chargesDue 0 = .ok (.iconst 0, 1) := by decide +kernel
theorem dX0_chargesDue_1 : decode cX0_chargesDue 1 = .ok (.istore_n 2, 1) := by decide +kernel
theorem dX0_chargesDue_2 : decode cX0_chargesDue 2 = .ok (.iconst 0, 1) := by decide +kernel
theorem dX0_chargesDue_3 : decode cX0_chargesDue 3 = .ok (.istore_n 3, 1) := by decide +kernel
theorem dX0_chargesDue_4 : decode cX0_chargesDue 4 = .ok (.iload_n 3, 1) := by decide +kernel
theorem dX0_chargesDue_5 : decode cX0_chargesDue 5 = .ok (.aload_n 1, 1) := by decide +kernel
theorem dX0_chargesDue_6 : decode cX0_chargesDue 6 = .ok (.getfield 121, 3) := by decide +kernel
theorem dX0_chargesDue_9 : decode cX0_chargesDue 9 = .ok (.if_icmp .ge 36, 3) := by decide +kernel
theorem dX0_chargesDue_12 : decode cX0_chargesDue 12 = .ok (.aload_n 0, 1) := by decide +kernel
theorem dX0_chargesDue_13 : decode cX0_chargesDue 13 = .ok (.getfield 36, 3) := by decide +kernel
theorem dX0_chargesDue_16 : decode cX0_chargesDue 16 = .ok (.aload_n 0, 1) := by decide +kernel
theorem dX0_chargesDue_17 : decode cX0_chargesDue 17 = .ok (.getfield 42, 3) := by decide +kernel
theorem dX0_chargesDue_20 : decode cX0_chargesDue 20 = .ok (.aload_n 1, 1) := by decide +kernel
theorem dX0_chargesDue_21 : decode cX0_chargesDue 21 = .ok (.getfield 124, 3) := by decide +kernel
theorem dX0_chargesDue_24 : decode cX0_chargesDue 24 = .ok (.iload_n 3, 1) := by decide +kernel
theorem dX0_chargesDue_25 : decode cX0_chargesDue 25 = .ok (.iaload, 1) := by decide +kernel
theorem dX0_chargesDue_26 : decode cX0_chargesDue 26 = .ok (.imul, 1) := by decide +kernel
theorem dX0_chargesDue_27 : decode cX0_chargesDue 27 = .ok (.if_icmp .lt 12, 3) := by decide +kernel
theorem dX0_chargesDue_30 : decode cX0_chargesDue 30 = .ok (.iload_n 2, 1) := by decide +kernel
theorem dX0_chargesDue_31 : decode cX0_chargesDue 31 = .ok (.aload_n 1, 1) := by decide +kernel
theorem dX0_chargesDue_32 : decode cX0_chargesDue 32 = .ok (.getfield 127, 3) := by decide +kernel
theorem dX0_chargesDue_35 : decode cX0_chargesDue 35 = .ok (.iload_n 3, 1) := by decide +kernel
theorem dX0_chargesDue_36 : decode cX0_chargesDue 36 = .ok (.iaload, 1) := by decide +kernel
theorem dX0_chargesDue_37 : decode cX0_chargesDue 37 = .ok (.iadd, 1) := by decide +kernel
theorem dX0_chargesDue_38 : decode cX0_chargesDue 38 = .ok (.istore_n 2, 1) := by decide +kernel
theorem dX0_chargesDue_39 : decode cX0_chargesDue 39 = .ok (.iinc 3 1, 3) := by decide +kernel
theorem dX0_chargesDue_42 : decode cX0_chargesDue 42 = .ok (.goto (-38), 3) := by decide +kernel
theorem dX0_chargesDue_45 : decode cX0_chargesDue 45 = .ok (.iload_n 2, 1) := by decide +kernel
theorem dX0_chargesDue_46 : decode cX0_chargesDue 46 = .ok (.ireturn, 1) := by decide +kernel
theorem c_X0_chargesDue {a0 : Nat} {a1 : Nat} : CWp S N d MX0_chargesDue [.ref a0, .ref a1] I J P Q ↔ Wp S N d MX0_chargesDue 0 [some (.ref a0), some (.ref a1), none, none] [] I J P Q := by
  rw [cwp_iff]
  exact ⟨fun h => h.2, fun h => ⟨Nat.le_of_ble_eq_true rfl, h⟩⟩
theorem e_X0_chargesDue_0  {x0 x1 x2 x3 : Option Value} : Wp S N d MX0_chargesDue 0 [x0, x1, x2, x3] [] I J P Q ↔ Wp S N d MX0_chargesDue 1 [x0, x1, x2, x3] [.int 0] I J P Q := wp_iconst (by decide) dX0_chargesDue_0
theorem e_X0_chargesDue_1 {v0 : Int32} {x0 x1 x2 x3 : Option Value} : Wp S N d MX0_chargesDue 1 [x0, x1, x2, x3] [.int v0] I J P Q ↔ Wp S N d MX0_chargesDue 2 [x0, kl x1, some (.int v0), x3] [] I J P Q := wp_sto (len := 1) rfl rfl rfl rfl (Nat.le_of_ble_eq_true rfl) rfl dX0_chargesDue_1
theorem e_X0_chargesDue_2  {x0 x1 x2 x3 : Option Value} : Wp S N d MX0_chargesDue 2 [x0, x1, x2, x3] [] I J P Q ↔ Wp S N d MX0_chargesDue 3 [x0, x1, x2, x3] [.int 0] I J P Q := wp_iconst (by decide) dX0_chargesDue_2
theorem e_X0_chargesDue_3 {v0 : Int32} {x0 x1 x2 x3 : Option Value} : Wp S N d MX0_chargesDue 3 [x0, x1, x2, x3] [.int v0] I J P Q ↔ Wp S N d MX0_chargesDue 4 [x0, x1, kl x2, some (.int v0)] [] I J P Q := wp_sto (len := 1) rfl rfl rfl rfl (Nat.le_of_ble_eq_true rfl) rfl dX0_chargesDue_3
theorem e_X0_chargesDue_4 {w : Int32} {x0 x1 x2 : Option Value} : Wp S N d MX0_chargesDue 4 [x0, x1, x2, some (.int w)] [] I J P Q ↔ Wp S N d MX0_chargesDue 5 [x0, x1, x2, some (.int w)] [.int w] I J P Q := wp_lod (len := 1) rfl rfl rfl rfl dX0_chargesDue_4
theorem e_X0_chargesDue_5 {v0 : Int32} {w : Nat} {x0 x2 x3 : Option Value} : Wp S N d MX0_chargesDue 5 [x0, some (.ref w), x2, x3] [.int v0] I J P Q ↔ Wp S N d MX0_chargesDue 6 [x0, some (.ref w), x2, x3] [.ref w, .int v0] I J P Q := wp_lod (len := 1) rfl rfl rfl rfl dX0_chargesDue_5
theorem e_X0_chargesDue_6 {v0 : Nat} {v1 : Int32} {x0 x1 x2 x3 : Option Value} : Wp S N d MX0_chargesDue 6 [x0, x1, x2, x3] [.ref v0, .int v1] I J P Q ↔ S v0 = 7 ∧ Wp S N d MX0_chargesDue 9 [x0, x1, x2, x3] [.int (I v0 4), .int v1] I J P Q := wp_getf rfl rfl rfl rfl dX0_chargesDue_6
theorem e_X0_chargesDue_9 {v0 : Int32} {v1 : Int32} {x0 x1 x2 x3 : Option Value} : Wp S N d MX0_chargesDue 9 [x0, x1, x2, x3] [.int v0, .int v1] I J P Q ↔ (v0 ≤ v1 → Wp S N d MX0_chargesDue 45 [x0, x1, x2, x3] [] I J P Q) ∧ (¬ v0 ≤ v1 → Wp S N d MX0_chargesDue 12 [x0, x1, x2, x3] [] I J P Q) := wp_br rfl rfl (by decide) dX0_chargesDue_9
theorem e_X0_chargesDue_12 {w : Nat} {x1 x2 x3 : Option Value} : Wp S N d MX0_chargesDue 12 [some (.ref w), x1, x2, x3] [] I J P Q ↔ Wp S N d MX0_chargesDue 13 [some (.ref w), x1, x2, x3] [.ref w] I J P Q := wp_lod (len := 1) rfl rfl rfl rfl dX0_chargesDue_12
theorem e_X0_chargesDue_13 {v0 : Nat} {x0 x1 x2 x3 : Option Value} : Wp S N d MX0_chargesDue 13 [x0, x1, x2, x3] [.ref v0] I J P Q ↔ S v0 = 0 ∧ Wp S N d MX0_chargesDue 16 [x0, x1, x2, x3] [.int (I v0 1)] I J P Q := wp_getf rfl rfl rfl rfl dX0_chargesDue_13
theorem e_X0_chargesDue_16 {v0 : Int32} {w : Nat} {x1 x2 x3 : Option Value} : Wp S N d MX0_chargesDue 16 [some (.ref w), x1, x2, x3] [.int v0] I J P Q ↔ Wp S N d MX0_chargesDue 17 [some (.ref w), x1, x2, x3] [.ref w, .int v0] I J P Q := wp_lod (len := 1) rfl rfl rfl rfl dX0_chargesDue_16
theorem e_X0_chargesDue_17 {v0 : Nat} {v1 : Int32} {x0 x1 x2 x3 : Option Value} : Wp S N d MX0_chargesDue 17 [x0, x1, x2, x3] [.ref v0, .int v1] I J P Q ↔ S v0 = 0 ∧ Wp S N d MX0_chargesDue 20 [x0, x1, x2, x3] [.int (I v0 3), .int v1] I J P Q := wp_getf rfl rfl rfl rfl dX0_chargesDue_17
theorem e_X0_chargesDue_20 {v0 : Int32} {v1 : Int32} {w : Nat} {x0 x2 x3 : Option Value} : Wp S N d MX0_chargesDue 20 [x0, some (.ref w), x2, x3] [.int v0, .int v1] I J P Q ↔ Wp S N d MX0_chargesDue 21 [x0, some (.ref w), x2, x3] [.ref w, .int v0, .int v1] I J P Q := wp_lod (len := 1) rfl rfl rfl rfl dX0_chargesDue_20
theorem e_X0_chargesDue_21 {v0 : Nat} {v1 : Int32} {v2 : Int32} {x0 x1 x2 x3 : Option Value} : Wp S N d MX0_chargesDue 21 [x0, x1, x2, x3] [.ref v0, .int v1, .int v2] I J P Q ↔ S v0 = 7 ∧ Wp S N d MX0_chargesDue 24 [x0, x1, x2, x3] [va_rf (P v0 5), .int v1, .int v2] I J P Q := wp_getf rfl rfl rfl rfl dX0_chargesDue_21
theorem e_X0_chargesDue_24 {v0 : Nat} {v1 : Int32} {v2 : Int32} {w : Int32} {x0 x1 x2 : Option Value} : Wp S N d MX0_chargesDue 24 [x0, x1, x2, some (.int w)] [.ref v0, .int v1, .int v2] I J P Q ↔ Wp S N d MX0_chargesDue 25 [x0, x1, x2, some (.int w)] [.int w, .ref v0, .int v1, .int v2] I J P Q := wp_lod (len := 1) rfl rfl rfl rfl dX0_chargesDue_24
theorem e_X0_chargesDue_25 {v0 : Int32} {v1 : Nat} {v2 : Int32} {v3 : Int32} {x0 x1 x2 x3 : Option Value} : Wp S N d MX0_chargesDue 25 [x0, x1, x2, x3] [.int v0, .ref v1, .int v2, .int v3] I J P Q ↔ (S v1 = 10 ∧ vp_in v0 (N v1)) ∧ Wp S N d MX0_chargesDue 26 [x0, x1, x2, x3] [.int (I v1 v0.toNatClampNeg), .int v2, .int v3] I J P Q := wp_ald rfl rfl dX0_chargesDue_25
theorem e_X0_chargesDue_26 {v0 : Int32} {v1 : Int32} {v2 : Int32} {x0 x1 x2 x3 : Option Value} : Wp S N d MX0_chargesDue 26 [x0, x1, x2, x3] [.int v0, .int v1, .int v2] I J P Q ↔ Wp S N d MX0_chargesDue 27 [x0, x1, x2, x3] [.int (v1 * v0), .int v2] I J P Q := wp_alu (len := 1) rfl rfl rfl dX0_chargesDue_26
theorem e_X0_chargesDue_27 {v0 : Int32} {v1 : Int32} {x0 x1 x2 x3 : Option Value} : Wp S N d MX0_chargesDue 27 [x0, x1, x2, x3] [.int v0, .int v1] I J P Q ↔ (v1 < v0 → Wp S N d MX0_chargesDue 39 [x0, x1, x2, x3] [] I J P Q) ∧ (¬ v1 < v0 → Wp S N d MX0_chargesDue 30 [x0, x1, x2, x3] [] I J P Q) := wp_br rfl rfl (by decide) dX0_chargesDue_27
theorem e_X0_chargesDue_30 {w : Int32} {x0 x1 x3 : Option Value} : Wp S N d MX0_chargesDue 30 [x0, x1, some (.int w), x3] [] I J P Q ↔ Wp S N d MX0_chargesDue 31 [x0, x1, some (.int w), x3] [.int w] I J P Q := wp_lod (len := 1) rfl rfl rfl rfl dX0_chargesDue_30
theorem e_X0_chargesDue_31 {v0 : Int32} {w : Nat} {x0 x2 x3 : Option Value} : Wp S N d MX0_chargesDue 31 [x0, some (.ref w), x2, x3] [.int v0] I J P Q ↔ Wp S N d MX0_chargesDue 32 [x0, some (.ref w), x2, x3] [.ref w, .int v0] I J P Q := wp_lod (len := 1) rfl rfl rfl rfl dX0_chargesDue_31
theorem e_X0_chargesDue_32 {v0 : Nat} {v1 : Int32} {x0 x1 x2 x3 : Option Value} : Wp S N d MX0_chargesDue 32 [x0, x1, x2, x3] [.ref v0, .int v1] I J P Q ↔ S v0 = 7 ∧ Wp S N d MX0_chargesDue 35 [x0, x1, x2, x3] [va_rf (P v0 6), .int v1] I J P Q := wp_getf rfl rfl rfl rfl dX0_chargesDue_32
theorem e_X0_chargesDue_35 {v0 : Nat} {v1 : Int32} {w : Int32} {x0 x1 x2 : Option Value} : Wp S N d MX0_chargesDue 35 [x0, x1, x2, some (.int w)] [.ref v0, .int v1] I J P Q ↔ Wp S N d MX0_chargesDue 36 [x0, x1, x2, some (.int w)] [.int w, .ref v0, .int v1] I J P Q := wp_lod (len := 1) rfl rfl rfl rfl dX0_chargesDue_35
theorem e_X0_chargesDue_36 {v0 : Int32} {v1 : Nat} {v2 : Int32} {x0 x1 x2 x3 : Option Value} : Wp S N d MX0_chargesDue 36 [x0, x1, x2, x3] [.int v0, .ref v1, .int v2] I J P Q ↔ (S v1 = 10 ∧ vp_in v0 (N v1)) ∧ Wp S N d MX0_chargesDue 37 [x0, x1, x2, x3] [.int (I v1 v0.toNatClampNeg), .int v2] I J P Q := wp_ald rfl rfl dX0_chargesDue_36
theorem e_X0_chargesDue_37 {v0 : Int32} {v1 : Int32} {x0 x1 x2 x3 : Option Value} : Wp S N d MX0_chargesDue 37 [x0, x1, x2, x3] [.int v0, .int v1] I J P Q ↔ Wp S N d MX0_chargesDue 38 [x0, x1, x2, x3] [.int (v1 + v0)] I J P Q := wp_alu (len := 1) rfl rfl rfl dX0_chargesDue_37
theorem e_X0_chargesDue_38 {v0 : Int32} {x0 x1 x2 x3 : Option Value} : Wp S N d MX0_chargesDue 38 [x0, x1, x2, x3] [.int v0] I J P Q ↔ Wp S N d MX0_chargesDue 39 [x0, kl x1, some (.int v0), x3] [] I J P Q := wp_sto (len := 1) rfl rfl rfl rfl (Nat.le_of_ble_eq_true rfl) rfl dX0_chargesDue_38
theorem e_X0_chargesDue_39 {w : Int32} {x0 x1 x2 : Option Value} : Wp S N d MX0_chargesDue 39 [x0, x1, x2, some (.int w)] [] I J P Q ↔ Wp S N d MX0_chargesDue 42 [x0, x1, kl x2, some (.int (w + 1))] [] I J P Q := wp_inc rfl rfl dX0_chargesDue_39
theorem e_X0_chargesDue_42  {x0 x1 x2 x3 : Option Value} : Wp S N d MX0_chargesDue 42 [x0, x1, x2, x3] [] I J P Q ↔ Wp S N d MX0_chargesDue 4 [x0, x1, x2, x3] [] I J P Q := wp_go (len := 3) rfl (fun _ _ => rfl) rfl (by decide) dX0_chargesDue_42
theorem e_X0_chargesDue_45 {w : Int32} {x0 x1 x3 : Option Value} : Wp S N d MX0_chargesDue 45 [x0, x1, some (.int w), x3] [] I J P Q ↔ Wp S N d MX0_chargesDue 46 [x0, x1, some (.int w), x3] [.int w] I J P Q := wp_lod (len := 1) rfl rfl rfl rfl dX0_chargesDue_45
theorem e_X0_chargesDue_46 {v0 : Int32} {x0 x1 x2 x3 : Option Value} : Wp S N d MX0_chargesDue 46 [x0, x1, x2, x3] [.int v0] I J P Q ↔ Q (some (.int v0)) I J P := wp_iret rfl dX0_chargesDue_46
theorem dX0_useCredit_0 : decode cX0_useCredit 0 = .ok (.aload_n 0, 1) := by decide +kernel
theorem dX0_useCredit_1 : decode cX0_useCredit 1 = .ok (.getfield 20, 3) := by decide +kernel
theorem dX0_useCredit_4 : decode cX0_useCredit 4 = .ok (.iload_n 1, 1) := by decide +kernel
theorem dX0_useCredit_5 : decode cX0_useCredit 5 = .ok (.aaload, 1) := by decide +kernel
theorem dX0_useCredit_6 : decode cX0_useCredit 6 = .ok (.iconst 0, 1) := by decide +kernel
theorem dX0_useCredit_7 : decode cX0_useCredit 7 = .ok (.laload, 1) := by decide +kernel
theorem dX0_useCredit_8 : decode cX0_useCredit 8 = .ok (.lstore_n 3, 1) := by decide +kernel
theorem dX0_useCredit_9 : decode cX0_useCredit 9 = .ok (.iload_n 2, 1) := by decide +kernel
theorem dX0_useCredit_10 : decode cX0_useCredit 10 = .ok (.iconst 2, 1) := by decide +kernel
theorem dX0_useCredit_11 : decode cX0_useCredit 11 = .ok (.if_icmp .ne 12, 3) := by decide +kernel
theorem dX0_useCredit_14 : decode cX0_useCredit 14 = .ok (.lload_n 3, 1) := by decide +kernel
theorem dX0_useCredit_15 : decode cX0_useCredit 15 = .ok (.aload_n 0, 1) := by decide +kernel
theorem dX0_useCredit_16 : decode cX0_useCredit 16 = .ok (.getfield 9, 3) := by decide +kernel
theorem dX0_useCredit_19 : decode cX0_useCredit 19 = .ok (.iload_n 1, 1) := by decide +kernel
theorem dX0_useCredit_20 : decode cX0_useCredit 20 = .ok (.laload, 1) := by decide +kernel
theorem dX0_useCredit_21 : decode cX0_useCredit 21 = .ok (.ladd, 1) := by decide +kernel
theorem dX0_useCredit_22 : decode cX0_useCredit 22 = .ok (.lstore_n 3, 1) := by decide +kernel
theorem dX0_useCredit_23 : decode cX0_useCredit 23 = .ok (.iload_n 2, 1) := by decide +kernel
theorem dX0_useCredit_24 : decode cX0_useCredit 24 = .ok (.iconst 1, 1) := by decide +kernel
theorem dX0_useCredit_25 : decode cX0_useCredit 25 = .ok (.if_icmp .ne 7, 3) := by decide +kernel
theorem dX0_useCredit_28 : decode cX0_useCredit 28 = .ok (.lload_n 3, 1) := by decide +kernel
theorem dX0_useCredit_29 : decode cX0_useCredit 29 = .ok (.goto 15, 3) := by decide +kernel
theorem dX0_useCredit_32 : decode cX0_useCredit 32 = .ok (.lload_n 3, 1) := by decide +kernel
theorem dX0_useCredit_33 : decode cX0_useCredit 33 = .ok (.lconst 0, 1) := by decide +kernel
theorem dX0_useCredit_34 : decode cX0_useCredit 34 = .ok (.aload_n 0, 1) := by decide +kernel
theorem dX0_useCredit_35 : decode cX0_useCredit 35 = .ok (.getfield 89, 3) := by decide +kernel
theorem dX0_useCredit_38 : decode cX0_useCredit 38 = .ok (.invokestatic 75, 3) := by decide +kernel
theorem dX0_useCredit_41 : decode cX0_useCredit 41 = .ok (.invokestatic 115, 3) := by decide +kernel
theorem dX0_useCredit_44 : decode cX0_useCredit 44 = .ok (.lstore 5, 2) := by decide +kernel
theorem dX0_useCredit_46 : decode cX0_useCredit 46 = .ok (.aload_n 0, 1) := by decide +kernel
theorem dX0_useCredit_47 : decode cX0_useCredit 47 = .ok (.dup, 1) := by decide +kernel
theorem dX0_useCredit_48 : decode cX0_useCredit 48 = .ok (.getfield 89, 3) := by decide +kernel
theorem dX0_useCredit_51 : decode cX0_useCredit 51 = .ok (.lload 5, 2) := by decide +kernel
theorem dX0_useCredit_53 : decode cX0_useCredit 53 = .ok (.lsub, 1) := by decide +kernel
theorem dX0_useCredit_54 : decode cX0_useCredit 54 = .ok (.putfield 89, 3) := by decide +kernel
theorem dX0_useCredit_57 : decode cX0_useCredit 57 = .ok (.aload_n 0, 1) := by decide +kernel
theorem dX0_useCredit_58 : decode cX0_useCredit 58 = .ok (.getfield 20, 3) := by decide +kernel
theorem dX0_useCredit_61 : decode cX0_useCredit 61 = .ok (.iload_n 1, 1) := by decide +kernel
theorem dX0_useCredit_62 : decode cX0_useCredit 62 = .ok (.aaload, 1) := by decide +kernel
theorem dX0_useCredit_63 : decode cX0_useCredit 63 = .ok (.iconst 1, 1) := by decide +kernel
theorem dX0_useCredit_64 : decode cX0_useCredit 64 = .ok (.lload 5, 2) := by decide +kernel
theorem dX0_useCredit_66 : decode cX0_useCredit 66 = .ok (.lastore, 1) := by decide +kernel
theorem dX0_useCredit_67 : decode cX0_useCredit 67 = .ok (.aload_n 0, 1) := by decide +kernel
theorem dX0_useCredit_68 : decode cX0_useCredit 68 = .ok (.getfield 20, 3) := by decide +kernel
theorem dX0_useCredit_71 : decode cX0_useCredit 71 = .ok (.iload_n 1, 1) := by decide +kernel
theorem dX0_useCredit_72 : decode cX0_useCredit 72 = .ok (.aaload, 1) := by decide +kernel
theorem dX0_useCredit_73 : decode cX0_useCredit 73 = .ok (.iconst 2, 1) := by decide +kernel
theorem dX0_useCredit_74 : decode cX0_useCredit 74 = .ok (.iload_n 2, 1) := by decide +kernel
theorem dX0_useCredit_75 : decode cX0_useCredit 75 = .ok (.ifCond .ne 10, 3) := by decide +kernel
theorem dX0_useCredit_78 : decode cX0_useCredit 78 = .ok (.lload_n 3, 1) := by decide +kernel
theorem dX0_useCredit_79 : decode cX0_useCredit 79 = .ok (.lload 5, 2) := by decide +kernel
theorem dX0_useCredit_81 : decode cX0_useCredit 81 = .ok (.lsub, 1) := by decide +kernel
theorem dX0_useCredit_82 : decode cX0_useCredit 82 = .ok (.goto 4, 3) := by decide +kernel
theorem dX0_useCredit_85 : decode cX0_useCredit 85 = .ok (.lconst 0, 1) := by decide +kernel
theorem dX0_useCredit_86 : decode cX0_useCredit 86 = .ok (.lastore, 1) := by decide +kernel
theorem dX0_useCredit_87 : decode cX0_useCredit 87 = .ok (.aload_n 0, 1) := by decide +kernel
theorem dX0_useCredit_88 : decode cX0_useCredit 88 = .ok (.getfield 20, 3) := by decide +kernel
theorem dX0_useCredit_91 : decode cX0_useCredit 91 = .ok (.iload_n 1, 1) := by decide +kernel
theorem dX0_useCredit_92 : decode cX0_useCredit 92 = .ok (.aaload, 1) := by decide +kernel
theorem dX0_useCredit_93 : decode cX0_useCredit 93 = .ok (.iconst 3, 1) := by decide +kernel
theorem dX0_useCredit_94 : decode cX0_useCredit 94 = .ok (.iload_n 2, 1) := by decide +kernel
theorem dX0_useCredit_95 : decode cX0_useCredit 95 = .ok (.iconst 2, 1) := by decide +kernel
theorem dX0_useCredit_96 : decode cX0_useCredit 96 = .ok (.if_icmp .ne 10, 3) := by decide +kernel
theorem dX0_useCredit_99 : decode cX0_useCredit 99 = .ok (.lload_n 3, 1) := by decide +kernel
theorem dX0_useCredit_100 : decode cX0_useCredit 100 = .ok (.lload 5, 2) := by decide +kernel
theorem dX0_useCredit_102 : decode cX0_useCredit 102 = .ok (.lsub, 1) := by decide +kernel
theorem dX0_useCredit_103 : decode cX0_useCredit 103 = .ok (.goto 4, 3) := by decide +kernel
theorem dX0_useCredit_106 : decode cX0_useCredit 106 = .ok (.lconst 0, 1) := by decide +kernel
theorem dX0_useCredit_107 : decode cX0_useCredit 107 = .ok (.lastore, 1) := by decide +kernel
theorem dX0_useCredit_108 : decode cX0_useCredit 108 = .ok (.aload_n 0, 1) := by decide +kernel
theorem dX0_useCredit_109 : decode cX0_useCredit 109 = .ok (.getfield 20, 3) := by decide +kernel
theorem dX0_useCredit_112 : decode cX0_useCredit 112 = .ok (.iload_n 1, 1) := by decide +kernel
theorem dX0_useCredit_113 : decode cX0_useCredit 113 = .ok (.aaload, 1) := by decide +kernel
theorem dX0_useCredit_114 : decode cX0_useCredit 114 = .ok (.iconst 4, 1) := by decide +kernel
theorem dX0_useCredit_115 : decode cX0_useCredit 115 = .ok (.aload_n 0, 1) := by decide +kernel
theorem dX0_useCredit_116 : decode cX0_useCredit 116 = .ok (.getfield 89, 3) := by decide +kernel
theorem dX0_useCredit_119 : decode cX0_useCredit 119 = .ok (.lastore, 1) := by decide +kernel
theorem dX0_useCredit_120 : decode cX0_useCredit 120 = .ok (.return_, 1) := by decide +kernel
theorem c_X0_useCredit {a0 : Nat} {a1 : Int32} {a2 : Int32} : CWp S N d MX0_useCredit [.ref a0, .int a1, .int a2] I J P Q ↔ Wp S N d MX0_useCredit 0 [some (.ref a0), some (.int a1), some (.int a2), none, none, none, none] [] I J P Q := by
  rw [cwp_iff]
  exact ⟨fun h => h.2, fun h => ⟨Nat.le_of_ble_eq_true rfl, h⟩⟩
theorem e_X0_useCredit_0 {w : Nat} {x1 x2 x3 x4 x5 x6 : Option Value} : Wp S N d MX0_useCredit 0 [some (.ref w), x1, x2, x3, x4, x5, x6] [] I J P Q ↔ Wp S N d MX0_useCredit 1 [some (.ref w), x1, x2, x3, x4, x5, x6] [.ref w] I J P Q := wp_lod (len := 1) rfl rfl rfl rfl dX0_useCredit_0
theorem e_X0_useCredit_1 {v0 : Nat} {x0 x1 x2 x3 x4 x5 x6 : Option Value} : Wp S N d MX0_useCredit 1 [x0, x1, x2, x3, x4, x5, x6] [.ref v0] I J P Q ↔ S v0 = 0 ∧ Wp S N d MX0_useCredit 4 [x0, x1, x2, x3, x4, x5, x6] [va_rf (P v0 6)] I J P Q := wp_getf rfl rfl rfl rfl dX0_useCredit_1
theorem e_X0_useCredit_4 {v0 : Nat} {w : Int32} {x0 x2 x3 x4 x5 x6 : Option Value} : Wp S N d MX0_useCredit 4 [x0, some (.int w), x2, x3, x4, x5, x6] [.ref v0] I J P Q ↔ Wp S N d MX0_useCredit 5 [x0, some (.int w), x2, x3, x4, x5, x6] [.int w, .ref v0] I J P Q := wp_lod (len := 1) rfl rfl rfl rfl dX0_useCredit_4
theorem e_X0_useCredit_5 {v0 : Int32} {v1 : Nat} {x0 x1 x2 x3 x4 x5 x6 : Option Value} : Wp S N d MX0_useCredit 5 [x0, x1, x2, x3, x4, x5, x6] [.int v0, .ref v1] I J P Q ↔ ((S v1 = 12 ∨ S v1 = 13 ∨ S v1 = 14) ∧ vp_in v0 (N v1)) ∧ Wp S N d MX0_useCredit 6 [x0, x1, x2, x3, x4, x5, x6] [va_rf (P v1 v0.toNatClampNeg)] I J P Q := wp_ald rfl rfl dX0_useCredit_5
theorem e_X0_useCredit_6 {v0 : Nat} {x0 x1 x2 x3 x4 x5 x6 : Option Value} : Wp S N d MX0_useCredit 6 [x0, x1, x2, x3, x4, x5, x6] [.ref v0] I J P Q ↔ Wp S N d MX0_useCredit 7 [x0, x1, x2, x3, x4, x5, x6] [.int 0, .ref v0] I J P Q := wp_iconst (by decide) dX0_useCredit_6
theorem e_X0_useCredit_7 {v0 : Int32} {v1 : Nat} {x0 x1 x2 x3 x4 x5 x6 : Option Value} : Wp S N d MX0_useCredit 7 [x0, x1, x2, x3, x4, x5, x6] [.int v0, .ref v1] I J P Q ↔ (S v1 = 11 ∧ vp_in v0 (N v1)) ∧ Wp S N d MX0_useCredit 8 [x0, x1, x2, x3, x4, x5, x6] [.long (J v1 v0.toNatClampNeg)] I J P Q := wp_ald rfl rfl dX0_useCredit_7
theorem e_X0_useCredit_8 {v0 : Int64} {x0 x1 x2 x3 x4 x5 x6 : Option Value} : Wp S N d MX0_useCredit 8 [x0, x1, x2, x3, x4, x5, x6] [.long v0] I J P Q ↔ Wp S N d MX0_useCredit 9 [x0, x1, kl x2, some (.long v0), none, x5, x6] [] I J P Q := wp_sto (len := 1) rfl rfl rfl rfl (Nat.le_of_ble_eq_true rfl) rfl dX0_useCredit_8
theorem e_X0_useCredit_9 {w : Int32} {x0 x1 x3 x4 x5 x6 : Option Value} : Wp S N d MX0_useCredit 9 [x0, x1, some (.int w), x3, x4, x5, x6] [] I J P Q ↔ Wp S N d MX0_useCredit 10 [x0, x1, some (.int w), x3, x4, x5, x6] [.int w] I J P Q := wp_lod (len := 1) rfl rfl rfl rfl dX0_useCredit_9
theorem e_X0_useCredit_10 {v0 : Int32} {x0 x1 x2 x3 x4 x5 x6 : Option Value} : Wp S N d MX0_useCredit 10 [x0, x1, x2, x3, x4, x5, x6] [.int v0] I J P Q ↔ Wp S N d MX0_useCredit 11 [x0, x1, x2, x3, x4, x5, x6] [.int 2, .int v0] I J P Q := wp_iconst (by decide) dX0_useCredit_10
theorem e_X0_useCredit_11 {v0 : Int32} {v1 : Int32} {x0 x1 x2 x3 x4 x5 x6 : Option Value} : Wp S N d MX0_useCredit 11 [x0, x1, x2, x3, x4, x5, x6] [.int v0, .int v1] I J P Q ↔ (¬ v1 = v0 → Wp S N d MX0_useCredit 23 [x0, x1, x2, x3, x4, x5, x6] [] I J P Q) ∧ (v1 = v0 → Wp S N d MX0_useCredit 14 [x0, x1, x2, x3, x4, x5, x6] [] I J P Q) := wp_brn rfl rfl (by decide) dX0_useCredit_11
theorem e_X0_useCredit_14 {w : Int64} {x0 x1 x2 x4 x5 x6 : Option Value} : Wp S N d MX0_useCredit 14 [x0, x1, x2, some (.long w), x4, x5, x6] [] I J P Q ↔ Wp S N d MX0_useCredit 15 [x0, x1, x2, some (.long w), x4, x5, x6] [.long w] I J P Q := wp_lod (len := 1) rfl rfl rfl rfl dX0_useCredit_14
theorem e_X0_useCredit_15 {v0 : Int64} {w : Nat} {x1 x2 x3 x4 x5 x6 : Option Value} : Wp S N d MX0_useCredit 15 [some (.ref w), x1, x2, x3, x4, x5, x6] [.long v0] I J P Q ↔ Wp S N d MX0_useCredit 16 [some (.ref w), x1, x2, x3, x4, x5, x6] [.ref w, .long v0] I J P Q := wp_lod (len := 1) rfl rfl rfl rfl dX0_useCredit_15
theorem e_X0_useCredit_16 {v0 : Nat} {v1 : Int64} {x0 x1 x2 x3 x4 x5 x6 : Option Value} : Wp S N d MX0_useCredit 16 [x0, x1, x2, x3, x4, x5, x6] [.ref v0, .long v1] I J P Q ↔ S v0 = 0 ∧ Wp S N d MX0_useCredit 19 [x0, x1, x2, x3, x4, x5, x6] [va_rf (P v0 4), .long v1] I J P Q := wp_getf rfl rfl rfl rfl dX0_useCredit_16
theorem e_X0_useCredit_19 {v0 : Nat} {v1 : Int64} {w : Int32} {x0 x2 x3 x4 x5 x6 : Option Value} : Wp S N d MX0_useCredit 19 [x0, some (.int w), x2, x3, x4, x5, x6] [.ref v0, .long v1] I J P Q ↔ Wp S N d MX0_useCredit 20 [x0, some (.int w), x2, x3, x4, x5, x6] [.int w, .ref v0, .long v1] I J P Q := wp_lod (len := 1) rfl rfl rfl rfl dX0_useCredit_19
theorem e_X0_useCredit_20 {v0 : Int32} {v1 : Nat} {v2 : Int64} {x0 x1 x2 x3 x4 x5 x6 : Option Value} : Wp S N d MX0_useCredit 20 [x0, x1, x2, x3, x4, x5, x6] [.int v0, .ref v1, .long v2] I J P Q ↔ (S v1 = 11 ∧ vp_in v0 (N v1)) ∧ Wp S N d MX0_useCredit 21 [x0, x1, x2, x3, x4, x5, x6] [.long (J v1 v0.toNatClampNeg), .long v2] I J P Q := wp_ald rfl rfl dX0_useCredit_20
theorem e_X0_useCredit_21 {v0 : Int64} {v1 : Int64} {x0 x1 x2 x3 x4 x5 x6 : Option Value} : Wp S N d MX0_useCredit 21 [x0, x1, x2, x3, x4, x5, x6] [.long v0, .long v1] I J P Q ↔ Wp S N d MX0_useCredit 22 [x0, x1, x2, x3, x4, x5, x6] [.long (v1 + v0)] I J P Q := wp_alu (len := 1) rfl rfl rfl dX0_useCredit_21
theorem e_X0_useCredit_22 {v0 : Int64} {x0 x1 x2 x3 x4 x5 x6 : Option Value} : Wp S N d MX0_useCredit 22 [x0, x1, x2, x3, x4, x5, x6] [.long v0] I J P Q ↔ Wp S N d MX0_useCredit 23 [x0, x1, kl x2, some (.long v0), none, x5, x6] [] I J P Q := wp_sto (len := 1) rfl rfl rfl rfl (Nat.le_of_ble_eq_true rfl) rfl dX0_useCredit_22
theorem e_X0_useCredit_23 {w : Int32} {x0 x1 x3 x4 x5 x6 : Option Value} : Wp S N d MX0_useCredit 23 [x0, x1, some (.int w), x3, x4, x5, x6] [] I J P Q ↔ Wp S N d MX0_useCredit 24 [x0, x1, some (.int w), x3, x4, x5, x6] [.int w] I J P Q := wp_lod (len := 1) rfl rfl rfl rfl dX0_useCredit_23
theorem e_X0_useCredit_24 {v0 : Int32} {x0 x1 x2 x3 x4 x5 x6 : Option Value} : Wp S N d MX0_useCredit 24 [x0, x1, x2, x3, x4, x5, x6] [.int v0] I J P Q ↔ Wp S N d MX0_useCredit 25 [x0, x1, x2, x3, x4, x5, x6] [.int 1, .int v0] I J P Q := wp_iconst (by decide) dX0_useCredit_24
theorem e_X0_useCredit_25 {v0 : Int32} {v1 : Int32} {x0 x1 x2 x3 x4 x5 x6 : Option Value} : Wp S N d MX0_useCredit 25 [x0, x1, x2, x3, x4, x5, x6] [.int v0, .int v1] I J P Q ↔ (¬ v1 = v0 → Wp S N d MX0_useCredit 32 [x0, x1, x2, x3, x4, x5, x6] [] I J P Q) ∧ (v1 = v0 → Wp S N d MX0_useCredit 28 [x0, x1, x2, x3, x4, x5, x6] [] I J P Q) := wp_brn rfl rfl (by decide) dX0_useCredit_25
theorem e_X0_useCredit_28 {w : Int64} {x0 x1 x2 x4 x5 x6 : Option Value} : Wp S N d MX0_useCredit 28 [x0, x1, x2, some (.long w), x4, x5, x6] [] I J P Q ↔ Wp S N d MX0_useCredit 29 [x0, x1, x2, some (.long w), x4, x5, x6] [.long w] I J P Q := wp_lod (len := 1) rfl rfl rfl rfl dX0_useCredit_28
theorem e_X0_useCredit_29 {v0 : Int64} {x0 x1 x2 x3 x4 x5 x6 : Option Value} : Wp S N d MX0_useCredit 29 [x0, x1, x2, x3, x4, x5, x6] [.long v0] I J P Q ↔ Wp S N d MX0_useCredit 44 [x0, x1, x2, x3, x4, x5, x6] [.long v0] I J P Q := wp_go (len := 3) rfl (fun _ _ => rfl) rfl (by decide) dX0_useCredit_29
theorem e_X0_useCredit_32 {w : Int64} {x0 x1 x2 x4 x5 x6 : Option Value} : Wp S N d MX0_useCredit 32 [x0, x1, x2, some (.long w), x4, x5, x6] [] I J P Q ↔ Wp S N d MX0_useCredit 33 [x0, x1, x2, some (.long w), x4, x5, x6] [.long w] I J P Q := wp_lod (len := 1) rfl rfl rfl rfl dX0_useCredit_32
theorem e_X0_useCredit_33 {v0 : Int64} {x0 x1 x2 x3 x4 x5 x6 : Option Value} : Wp S N d MX0_useCredit 33 [x0, x1, x2, x3, x4, x5, x6] [.long v0] I J P Q ↔ Wp S N d MX0_useCredit 34 [x0, x1, x2, x3, x4, x5, x6] [.long 0, .long v0] I J P Q := wp_lconst (by decide) dX0_useCredit_33
theorem e_X0_useCredit_34 {v0 : Int64} {v1 : Int64} {w : Nat} {x1 x2 x3 x4 x5 x6 : Option Value} : Wp S N d MX0_useCredit 34 [some (.ref w), x1, x2, x3, x4, x5, x6] [.long v0, .long v1] I J P Q ↔ Wp S N d MX0_useCredit 35 [some (.ref w), x1, x2, x3, x4, x5, x6] [.ref w, .long v0, .long v1] I J P Q := wp_lod (len := 1) rfl rfl rfl rfl dX0_useCredit_34
theorem e_X0_useCredit_35 {v0 : Nat} {v1 : Int64} {v2 : Int64} {x0 x1 x2 x3 x4 x5 x6 : Option Value} : Wp S N d MX0_useCredit 35 [x0, x1, x2, x3, x4, x5, x6] [.ref v0, .long v1, .long v2] I J P Q ↔ S v0 = 0 ∧ Wp S N d MX0_useCredit 38 [x0, x1, x2, x3, x4, x5, x6] [.long (J v0 7), .long v1, .long v2] I J P Q := wp_getf rfl rfl rfl rfl dX0_useCredit_35
theorem e_X0_useCredit_38 {v0 : Int64} {v1 : Int64} {v2 : Int64} {x0 x1 x2 x3 x4 x5 x6 : Option Value} : Wp S N (d + 1) MX0_useCredit 38 [x0, x1, x2, x3, x4, x5, x6] [.long v0, .long v1, .long v2] I J P Q ↔ Wp S N (d + 1) MX0_useCredit 41 [x0, x1, x2, x3, x4, x5, x6] [.long (if v0 < v1 then v1 else v0), .long v2] I J P Q := wp_lmax rfl rfl (Nat.le_of_ble_eq_true rfl) dX0_useCredit_38
theorem e_X0_useCredit_41 {v0 : Int64} {v1 : Int64} {x0 x1 x2 x3 x4 x5 x6 : Option Value} : Wp S N (d + 1) MX0_useCredit 41 [x0, x1, x2, x3, x4, x5, x6] [.long v0, .long v1] I J P Q ↔ Wp S N (d + 1) MX0_useCredit 44 [x0, x1, x2, x3, x4, x5, x6] [.long (if v0 < v1 then v0 else v1)] I J P Q := wp_lmin rfl rfl (Nat.le_of_ble_eq_true rfl) dX0_useCredit_41
theorem e_X0_useCredit_44 {v0 : Int64} {x0 x1 x2 x3 x4 x5 x6 : Option Value} : Wp S N d MX0_useCredit 44 [x0, x1, x2, x3, x4, x5, x6] [.long v0] I J P Q ↔ Wp S N d MX0_useCredit 46 [x0, x1, x2, x3, kl x4, some (.long v0), none] [] I J P Q := wp_sto (len := 2) rfl rfl rfl rfl (Nat.le_of_ble_eq_true rfl) rfl dX0_useCredit_44
theorem e_X0_useCredit_46 {w : Nat} {x1 x2 x3 x4 x5 x6 : Option Value} : Wp S N d MX0_useCredit 46 [some (.ref w), x1, x2, x3, x4, x5, x6] [] I J P Q ↔ Wp S N d MX0_useCredit 47 [some (.ref w), x1, x2, x3, x4, x5, x6] [.ref w] I J P Q := wp_lod (len := 1) rfl rfl rfl rfl dX0_useCredit_46
theorem e_X0_useCredit_47 {v0 : Nat} {x0 x1 x2 x3 x4 x5 x6 : Option Value} : Wp S N d MX0_useCredit 47 [x0, x1, x2, x3, x4, x5, x6] [.ref v0] I J P Q ↔ Wp S N d MX0_useCredit 48 [x0, x1, x2, x3, x4, x5, x6] [.ref v0, .ref v0] I J P Q := wp_alu (len := 1) rfl rfl rfl dX0_useCredit_47
theorem e_X0_useCredit_48 {v0 : Nat} {v1 : Nat} {x0 x1 x2 x3 x4 x5 x6 : Option Value} : Wp S N d MX0_useCredit 48 [x0, x1, x2, x3, x4, x5, x6] [.ref v0, .ref v1] I J P Q ↔ S v0 = 0 ∧ Wp S N d MX0_useCredit 51 [x0, x1, x2, x3, x4, x5, x6] [.long (J v0 7), .ref v1] I J P Q := wp_getf rfl rfl rfl rfl dX0_useCredit_48
theorem e_X0_useCredit_51 {v0 : Int64} {v1 : Nat} {w : Int64} {x0 x1 x2 x3 x4 x6 : Option Value} : Wp S N d MX0_useCredit 51 [x0, x1, x2, x3, x4, some (.long w), x6] [.long v0, .ref v1] I J P Q ↔ Wp S N d MX0_useCredit 53 [x0, x1, x2, x3, x4, some (.long w), x6] [.long w, .long v0, .ref v1] I J P Q := wp_lod (len := 2) rfl rfl rfl rfl dX0_useCredit_51
theorem e_X0_useCredit_53 {v0 : Int64} {v1 : Int64} {v2 : Nat} {x0 x1 x2 x3 x4 x5 x6 : Option Value} : Wp S N d MX0_useCredit 53 [x0, x1, x2, x3, x4, x5, x6] [.long v0, .long v1, .ref v2] I J P Q ↔ Wp S N d MX0_useCredit 54 [x0, x1, x2, x3, x4, x5, x6] [.long (v1 - v0), .ref v2] I J P Q := wp_alu (len := 1) rfl rfl rfl dX0_useCredit_53
theorem e_X0_useCredit_54 {v0 : Int64} {v1 : Nat} {x0 x1 x2 x3 x4 x5 x6 : Option Value} : Wp S N d MX0_useCredit 54 [x0, x1, x2, x3, x4, x5, x6] [.long v0, .ref v1] I J P Q ↔ S v1 = 0 ∧ Wp S N d MX0_useCredit 57 [x0, x1, x2, x3, x4, x5, x6] [] I (u2 J v1 7 v0) P Q := wp_putJ rfl rfl rfl rfl dX0_useCredit_54
theorem e_X0_useCredit_57 {w : Nat} {x1 x2 x3 x4 x5 x6 : Option Value} : Wp S N d MX0_useCredit 57 [some (.ref w), x1, x2, x3, x4, x5, x6] [] I J P Q ↔ Wp S N d MX0_useCredit 58 [some (.ref w), x1, x2, x3, x4, x5, x6] [.ref w] I J P Q := wp_lod (len := 1) rfl rfl rfl rfl dX0_useCredit_57
theorem e_X0_useCredit_58 {v0 : Nat} {x0 x1 x2 x3 x4 x5 x6 : Option Value} : Wp S N d MX0_useCredit 58 [x0, x1, x2, x3, x4, x5, x6] [.ref v0] I J P Q ↔ S v0 = 0 ∧ Wp S N d MX0_useCredit 61 [x0, x1, x2, x3, x4, x5, x6] [va_rf (P v0 6)] I J P Q := wp_getf rfl rfl rfl rfl dX0_useCredit_58
theorem e_X0_useCredit_61 {v0 : Nat} {w : Int32} {x0 x2 x3 x4 x5 x6 : Option Value} : Wp S N d MX0_useCredit 61 [x0, some (.int w), x2, x3, x4, x5, x6] [.ref v0] I J P Q ↔ Wp S N d MX0_useCredit 62 [x0, some (.int w), x2, x3, x4, x5, x6] [.int w, .ref v0] I J P Q := wp_lod (len := 1) rfl rfl rfl rfl dX0_useCredit_61
theorem e_X0_useCredit_62 {v0 : Int32} {v1 : Nat} {x0 x1 x2 x3 x4 x5 x6 : Option Value} : Wp S N d MX0_useCredit 62 [x0, x1, x2, x3, x4, x5, x6] [.int v0, .ref v1] I J P Q ↔ ((S v1 = 12 ∨ S v1 = 13 ∨ S v1 = 14) ∧ vp_in v0 (N v1)) ∧ Wp S N d MX0_useCredit 63 [x0, x1, x2, x3, x4, x5, x6] [va_rf (P v1 v0.toNatClampNeg)] I J P Q := wp_ald rfl rfl dX0_useCredit_62
theorem e_X0_useCredit_63 {v0 : Nat} {x0 x1 x2 x3 x4 x5 x6 : Option Value} : Wp S N d MX0_useCredit 63 [x0, x1, x2, x3, x4, x5, x6] [.ref v0] I J P Q ↔ Wp S N d MX0_useCredit 64 [x0, x1, x2, x3, x4, x5, x6] [.int 1, .ref v0] I J P Q := wp_iconst (by decide) dX0_useCredit_63
theorem e_X0_useCredit_64 {v0 : Int32} {v1 : Nat} {w : Int64} {x0 x1 x2 x3 x4 x6 : Option Value} : Wp S N d MX0_useCredit 64 [x0, x1, x2, x3, x4, some (.long w), x6] [.int v0, .ref v1] I J P Q ↔ Wp S N d MX0_useCredit 66 [x0, x1, x2, x3, x4, some (.long w), x6] [.long w, .int v0, .ref v1] I J P Q := wp_lod (len := 2) rfl rfl rfl rfl dX0_useCredit_64
theorem e_X0_useCredit_66 {v0 : Int64} {v1 : Int32} {v2 : Nat} {x0 x1 x2 x3 x4 x5 x6 : Option Value} : Wp S N d MX0_useCredit 66 [x0, x1, x2, x3, x4, x5, x6] [.long v0, .int v1, .ref v2] I J P Q ↔ (S v2 = 11 ∧ vp_in v1 (N v2)) ∧ Wp S N d MX0_useCredit 67 [x0, x1, x2, x3, x4, x5, x6] [] I (u2 J v2 v1.toNatClampNeg v0) P Q := wp_ast rfl rfl dX0_useCredit_66
theorem e_X0_useCredit_67 {w : Nat} {x1 x2 x3 x4 x5 x6 : Option Value} : Wp S N d MX0_useCredit 67 [some (.ref w), x1, x2, x3, x4, x5, x6] [] I J P Q ↔ Wp S N d MX0_useCredit 68 [some (.ref w), x1, x2, x3, x4, x5, x6] [.ref w] I J P Q := wp_lod (len := 1) rfl rfl rfl rfl dX0_useCredit_67
theorem e_X0_useCredit_68 {v0 : Nat} {x0 x1 x2 x3 x4 x5 x6 : Option Value} : Wp S N d MX0_useCredit 68 [x0, x1, x2, x3, x4, x5, x6] [.ref v0] I J P Q ↔ S v0 = 0 ∧ Wp S N d MX0_useCredit 71 [x0, x1, x2, x3, x4, x5, x6] [va_rf (P v0 6)] I J P Q := wp_getf rfl rfl rfl rfl dX0_useCredit_68
theorem e_X0_useCredit_71 {v0 : Nat} {w : Int32} {x0 x2 x3 x4 x5 x6 : Option Value} : Wp S N d MX0_useCredit 71 [x0, some (.int w), x2, x3, x4, x5, x6] [.ref v0] I J P Q ↔ Wp S N d MX0_useCredit 72 [x0, some (.int w), x2, x3, x4, x5, x6] [.int w, .ref v0] I J P Q := wp_lod (len := 1) rfl rfl rfl rfl dX0_useCredit_71
theorem e_X0_useCredit_72 {v0 : Int32} {v1 : Nat} {x0 x1 x2 x3 x4 x5 x6 : Option Value} : Wp S N d MX0_useCredit 72 [x0, x1, x2, x3, x4, x5, x6] [.int v0, .ref v1] I J P Q ↔ ((S v1 = 12 ∨ S v1 = 13 ∨ S v1 = 14) ∧ vp_in v0 (N v1)) ∧ Wp S N d MX0_useCredit 73 [x0, x1, x2, x3, x4, x5, x6] [va_rf (P v1 v0.toNatClampNeg)] I J P Q := wp_ald rfl rfl dX0_useCredit_72
theorem e_X0_useCredit_73 {v0 : Nat} {x0 x1 x2 x3 x4 x5 x6 : Option Value} : Wp S N d MX0_useCredit 73 [x0, x1, x2, x3, x4, x5, x6] [.ref v0] I J P Q ↔ Wp S N d MX0_useCredit 74 [x0, x1, x2, x3, x4, x5, x6] [.int 2, .ref v0] I J P Q := wp_iconst (by decide) dX0_useCredit_73
theorem e_X0_useCredit_74 {v0 : Int32} {v1 : Nat} {w : Int32} {x0 x1 x3 x4 x5 x6 : Option Value} : Wp S N d MX0_useCredit 74 [x0, x1, some (.int w), x3, x4, x5, x6] [.int v0, .ref v1] I J P Q ↔ Wp S N d MX0_useCredit 75 [x0, x1, some (.int w), x3, x4, x5, x6] [.int w, .int v0, .ref v1] I J P Q := wp_lod (len := 1) rfl rfl rfl rfl dX0_useCredit_74
theorem e_X0_useCredit_75 {v0 : Int32} {v1 : Int32} {v2 : Nat} {x0 x1 x2 x3 x4 x5 x6 : Option Value} : Wp S N d MX0_useCredit 75 [x0, x1, x2, x3, x4, x5, x6] [.int v0, .int v1, .ref v2] I J P Q ↔ (¬ v0 = 0 → Wp S N d MX0_useCredit 85 [x0, x1, x2, x3, x4, x5, x6] [.int v1, .ref v2] I J P Q) ∧ (v0 = 0 → Wp S N d MX0_useCredit 78 [x0, x1, x2, x3, x4, x5, x6] [.int v1, .ref v2] I J P Q) := wp_brn rfl rfl (by decide) dX0_useCredit_75
theorem e_X0_useCredit_78 {v0 : Int32} {v1 : Nat} {w : Int64} {x0 x1 x2 x4 x5 x6 : Option Value} : Wp S N d MX0_useCredit 78 [x0, x1, x2, some (.long w), x4, x5, x6] [.int v0, .ref v1] I J P Q ↔ Wp S N d MX0_useCredit 79 [x0, x1, x2, some (.long w), x4, x5, x6] [.long w, .int v0, .ref v1] I J P Q := wp_lod (len := 1) rfl rfl rfl rfl dX0_useCredit_78
theorem e_X0_useCredit_79 {v0 : Int64} {v1 : Int32} {v2 : Nat} {w : Int64} {x0 x1 x2 x3 x4 x6 : Option Value} : Wp S N d MX0_useCredit 79 [x0, x1, x2, x3, x4, some (.long w), x6] [.long v0, .int v1, .ref v2] I J P Q ↔ Wp S N d MX0_useCredit 81 [x0, x1, x2, x3, x4, some (.long w), x6] [.long w, .long v0, .int v1, .ref v2] I J P Q := wp_lod (len := 2) rfl rfl rfl rfl dX0_useCredit_79
theorem e_X0_useCredit_81 {v0 : Int64} {v1 : Int64} {v2 : Int32} {v3 : Nat} {x0 x1 x2 x3 x4 x5 x6 : Option Value} : Wp S N d MX0_useCredit 81 [x0, x1, x2, x3, x4, x5, x6] [.long v0, .long v1, .int v2, .ref v3] I J P Q ↔ Wp S N d MX0_useCredit 82 [x0, x1, x2, x3, x4, x5, x6] [.long (v1 - v0), .int v2, .ref v3] I J P Q := wp_alu (len := 1) rfl rfl rfl dX0_useCredit_81
theorem e_X0_useCredit_82 {v0 : Int64} {v1 : Int32} {v2 : Nat} {x0 x1 x2 x3 x4 x5 x6 : Option Value} : Wp S N d MX0_useCredit 82 [x0, x1, x2, x3, x4, x5, x6] [.long v0, .int v1, .ref v2] I J P Q ↔ Wp S N d MX0_useCredit 86 [x0, x1, x2, x3, x4, x5, x6] [.long v0, .int v1, .ref v2] I J P Q := wp_go (len := 3) rfl (fun _ _ => rfl) rfl (by decide) dX0_useCredit_82
theorem e_X0_useCredit_85 {v0 : Int32} {v1 : Nat} {x0 x1 x2 x3 x4 x5 x6 : Option Value} : Wp S N d MX0_useCredit 85 [x0, x1, x2, x3, x4, x5, x6] [.int v0, .ref v1] I J P Q ↔ Wp S N d MX0_useCredit 86 [x0, x1, x2, x3, x4, x5, x6] [.long 0, .int v0, .ref v1] I J P Q := wp_lconst (by decide) dX0_useCredit_85
theorem e_X0_useCredit_86 {v0 : Int64} {v1 : Int32} {v2 : Nat} {x0 x1 x2 x3 x4 x5 x6 : Option Value} : Wp S N d MX0_useCredit 86 [x0, x1, x2, x3, x4, x5, x6] [.long v0, .int v1, .ref v2] I J P Q ↔ (S v2 = 11 ∧ vp_in v1 (N v2)) ∧ Wp S N d MX0_useCredit 87 [x0, x1, x2, x3, x4, x5, x6] [] I (u2 J v2 v1.toNatClampNeg v0) P Q := wp_ast rfl rfl dX0_useCredit_86
theorem e_X0_useCredit_87 {w : Nat} {x1 x2 x3 x4 x5 x6 : Option Value} : Wp S N d MX0_useCredit 87 [some (.ref w), x1, x2, x3, x4, x5, x6] [] I J P Q ↔ Wp S N d MX0_useCredit 88 [some (.ref w), x1, x2, x3, x4, x5, x6] [.ref w] I J P Q := wp_lod (len := 1) rfl rfl rfl rfl dX0_useCredit_87
theorem e_X0_useCredit_88 {v0 : Nat} {x0 x1 x2 x3 x4 x5 x6 : Option Value} : Wp S N d MX0_useCredit 88 [x0, x1, x2, x3, x4, x5, x6] [.ref v0] I J P Q ↔ S v0 = 0 ∧ Wp S N d MX0_useCredit 91 [x0, x1, x2, x3, x4, x5, x6] [va_rf (P v0 6)] I J P Q := wp_getf rfl rfl rfl rfl dX0_useCredit_88
theorem e_X0_useCredit_91 {v0 : Nat} {w : Int32} {x0 x2 x3 x4 x5 x6 : Option Value} : Wp S N d MX0_useCredit 91 [x0, some (.int w), x2, x3, x4, x5, x6] [.ref v0] I J P Q ↔ Wp S N d MX0_useCredit 92 [x0, some (.int w), x2, x3, x4, x5, x6] [.int w, .ref v0] I J P Q := wp_lod (len := 1) rfl rfl rfl rfl dX0_useCredit_91
theorem e_X0_useCredit_92 {v0 : Int32} {v1 : Nat} {x0 x1 x2 x3 x4 x5 x6 : Option Value} : Wp S N d MX0_useCredit 92 [x0, x1, x2, x3, x4, x5, x6] [.int v0, .ref v1] I J P Q ↔ ((S v1 = 12 ∨ S v1 = 13 ∨ S v1 = 14) ∧ vp_in v0 (N v1)) ∧ Wp S N d MX0_useCredit 93 [x0, x1, x2, x3, x4, x5, x6] [va_rf (P v1 v0.toNatClampNeg)] I J P Q := wp_ald rfl rfl dX0_useCredit_92
theorem e_X0_useCredit_93 {v0 : Nat} {x0 x1 x2 x3 x4 x5 x6 : Option Value} : Wp S N d MX0_useCredit 93 [x0, x1, x2, x3, x4, x5, x6] [.ref v0] I J P Q ↔ Wp S N d MX0_useCredit 94 [x0, x1, x2, x3, x4, x5, x6] [.int 3, .ref v0] I J P Q := wp_iconst (by decide) dX0_useCredit_93
theorem e_X0_useCredit_94 {v0 : Int32} {v1 : Nat} {w : Int32} {x0 x1 x3 x4 x5 x6 : Option Value} : Wp S N d MX0_useCredit 94 [x0, x1, some (.int w), x3, x4, x5, x6] [.int v0, .ref v1] I J P Q ↔ Wp S N d MX0_useCredit 95 [x0, x1, some (.int w), x3, x4, x5, x6] [.int w, .int v0, .ref v1] I J P Q := wp_lod (len := 1) rfl rfl rfl rfl dX0_useCredit_94
theorem e_X0_useCredit_95 {v0 : Int32} {v1 : Int32} {v2 : Nat} {x0 x1 x2 x3 x4 x5 x6 : Option Value} : Wp S N d MX0_useCredit 95 [x0, x1, x2, x3, x4, x5, x6] [.int v0, .int v1, .ref v2] I J P Q ↔ Wp S N d MX0_useCredit 96 [x0, x1, x2, x3, x4, x5, x6] [.int 2, .int v0, .int v1, .ref v2] I J P Q := wp_iconst (by decide) dX0_useCredit_95
theorem e_X0_useCredit_96 {v0 : Int32} {v1 : Int32} {v2 : Int32} {v3 : Nat} {x0 x1 x2 x3 x4 x5 x6 : Option Value} : Wp S N d MX0_useCredit 96 [x0, x1, x2, x3, x4, x5, x6] [.int v0, .int v1, .int v2, .ref v3] I J P Q ↔ (¬ v1 = v0 → Wp S N d MX0_useCredit 106 [x0, x1, x2, x3, x4, x5, x6] [.int v2, .ref v3] I J P Q) ∧ (v1 = v0 → Wp S N d MX0_useCredit 99 [x0, x1, x2, x3, x4, x5, x6] [.int v2, .ref v3] I J P Q) := wp_brn rfl rfl (by decide) dX0_useCredit_96
theorem e_X0_useCredit_99 {v0 : Int32} {v1 : Nat} {w : Int64} {x0 x1 x2 x4 x5 x6 : Option Value} : Wp S N d MX0_useCredit 99 [x0, x1, x2, some (.long w), x4, x5, x6] [.int v0, .ref v1] I J P Q ↔ Wp S N d MX0_useCredit 100 [x0, x1, x2, some (.long w), x4, x5, x6] [.long w, .int v0, .ref v1] I J P Q := wp_lod (len := 1) rfl rfl rfl rfl dX0_useCredit_99
theorem e_X0_useCredit_100 {v0 : Int64} {v1 : Int32} {v2 : Nat} {w : Int64} {x0 x1 x2 x3 x4 x6 : Option Value} : Wp S N d MX0_useCredit 100 [x0, x1, x2, x3, x4, some (.long w), x6] [.long v0, .int v1, .ref v2] I J P Q ↔ Wp S N d MX0_useCredit 102 [x0, x1, x2, x3, x4, some (.long w), x6] [.long w, .long v0, .int v1, .ref v2] I J P Q := wp_lod (len := 2) rfl rfl rfl rfl dX0_useCredit_100
theorem e_X0_useCredit_102 {v0 : Int64} {v1 : Int64} {v2 : Int32} {v3 : Nat} {x0 x1 x2 x3 x4 x5 x6 : Option Value} : Wp S N d MX0_useCredit 102 [x0, x1, x2, x3, x4, x5, x6] [.long v0, .long v1, .int v2, .ref v3] I J P Q ↔ Wp S N d MX0_useCredit 103 [x0, x1, x2, x3, x4, x5, x6] [.long (v1 - v0), .int v2, .ref v3] I J P Q := wp_alu (len := 1) rfl rfl rfl dX0_useCredit_102
theorem e_X0_useCredit_103 {v0 : Int64} {v1 : Int32} {v2 : Nat} {x0 x1 x2 x3 x4 x5 x6 : Option Value} : Wp S N d MX0_useCredit 103 [x0, x1, x2, x3, x4, x5, x6] [.long v0, .int v1, .ref v2] I J P Q ↔ Wp S N d MX0_useCredit 107 [x0, x1, x2, x3, x4, x5, x6] [.long v0, .int v1, .ref v2] I J P Q := wp_go (len := 3) rfl (fun _ _ => rfl) rfl (by decide) dX0_useCredit_103
theorem e_X0_useCredit_106 {v0 : Int32} {v1 : Nat} {x0 x1 x2 x3 x4 x5 x6 : Option Value} : Wp S N d MX0_useCredit 106 [x0, x1, x2, x3, x4, x5, x6] [.int v0, .ref v1] I J P Q ↔ Wp S N d MX0_useCredit 107 [x0, x1, x2, x3, x4, x5, x6] [.long 0, .int v0, .ref v1] I J P Q := wp_lconst (by decide) dX0_useCredit_106
theorem e_X0_useCredit_107 {v0 : Int64} {v1 : Int32} {v2 : Nat} {x0 x1 x2 x3 x4 x5 x6 : Option Value} : Wp S N d MX0_useCredit 107 [x0, x1, x2, x3, x4, x5, x6] [.long v0, .int v1, .ref v2] I J P Q ↔ (S v2 = 11 ∧ vp_in v1 (N v2)) ∧ Wp S N d MX0_useCredit 108 [x0, x1, x2, x3, x4, x5, x6] [] I (u2 J v2 v1.toNatClampNeg v0) P Q := wp_ast rfl rfl dX0_useCredit_107
theorem e_X0_useCredit_108 {w : Nat} {x1 x2 x3 x4 x5 x6 : Option Value} : Wp S N d MX0_useCredit 108 [some (.ref w), x1, x2, x3, x4, x5, x6] [] I J P Q ↔ Wp S N d MX0_useCredit 109 [some (.ref w), x1, x2, x3, x4, x5, x6] [.ref w] I J P Q := wp_lod (len := 1) rfl rfl rfl rfl dX0_useCredit_108
theorem e_X0_useCredit_109 {v0 : Nat} {x0 x1 x2 x3 x4 x5 x6 : Option Value} : Wp S N d MX0_useCredit 109 [x0, x1, x2, x3, x4, x5, x6] [.ref v0] I J P Q ↔ S v0 = 0 ∧ Wp S N d MX0_useCredit 112 [x0, x1, x2, x3, x4, x5, x6] [va_rf (P v0 6)] I J P Q := wp_getf rfl rfl rfl rfl dX0_useCredit_109
theorem e_X0_useCredit_112 {v0 : Nat} {w : Int32} {x0 x2 x3 x4 x5 x6 : Option Value} : Wp S N d MX0_useCredit 112 [x0, some (.int w), x2, x3, x4, x5, x6] [.ref v0] I J P Q ↔ Wp S N d MX0_useCredit 113 [x0, some (.int w), x2, x3, x4, x5, x6] [.int w, .ref v0] I J P Q := wp_lod (len := 1) rfl rfl rfl rfl dX0_useCredit_112
theorem e_X0_useCredit_113 {v0 : Int32} {v1 : Nat} {x0 x1 x2 x3 x4 x5 x6 : Option Value} : Wp S N d MX0_useCredit 113 [x0, x1, x2, x3, x4, x5, x6] [.int v0, .ref v1] I J P Q ↔ ((S v1 = 12 ∨ S v1 = 13 ∨ S v1 = 14) ∧ vp_in v0 (N v1)) ∧ Wp S N d MX0_useCredit 114 [x0, x1, x2, x3, x4, x5, x6] [va_rf (P v1 v0.toNatClampNeg)] I J P Q := wp_ald rfl rfl dX0_useCredit_113
theorem e_X0_useCredit_114 {v0 : Nat} {x0 x1 x2 x3 x4 x5 x6 : Option Value} : Wp S N d MX0_useCredit 114 [x0, x1, x2, x3, x4, x5, x6] [.ref v0] I J P Q ↔ Wp S N d MX0_useCredit 115 [x0, x1, x2, x3, x4, x5, x6] [.int 4, .ref v0] I J P Q := wp_iconst (by decide) dX0_useCredit_114
theorem e_X0_useCredit_115 {v0 : Int32} {v1 : Nat} {w : Nat} {x1 x2 x3 x4 x5 x6 : Option Value} : Wp S N d MX0_useCredit 115 [some (.ref w), x1, x2, x3, x4, x5, x6] [.int v0, .ref v1] I J P Q ↔ Wp S N d MX0_useCredit 116 [some (.ref w), x1, x2, x3, x4, x5, x6] [.ref w, .int v0, .ref v1] I J P Q := wp_lod (len := 1) rfl rfl rfl rfl dX0_useCredit_115
theorem e_X0_useCredit_116 {v0 : Nat} {v1 : Int32} {v2 : Nat} {x0 x1 x2 x3 x4 x5 x6 : Option Value} : Wp S N d MX0_useCredit 116 [x0, x1, x2, x3, x4, x5, x6] [.ref v0, .int v1, .ref v2] I J P Q ↔ S v0 = 0 ∧ Wp S N d MX0_useCredit 119 [x0, x1, x2, x3, x4, x5, x6] [.long (J v0 7), .int v1, .ref v2] I J P Q := wp_getf rfl rfl rfl rfl dX0_useCredit_116
theorem e_X0_useCredit_119 {v0 : Int64} {v1 : Int32} {v2 : Nat} {x0 x1 x2 x3 x4 x5 x6 : Option Value} : Wp S N d MX0_useCredit 119 [x0, x1, x2, x3, x4, x5, x6] [.long v0, .int v1, .ref v2] I J P Q ↔ (S v2 = 11 ∧ vp_in v1 (N v2)) ∧ Wp S N d MX0_useCredit 120 [x0, x1, x2, x3, x4, x5, x6] [] I (u2 J v2 v1.toNatClampNeg v0) P Q := wp_ast rfl rfl dX0_useCredit_119
theorem e_X0_useCredit_120  {x0 x1 x2 x3 x4 x5 x6 : Option Value} : Wp S N d MX0_useCredit 120 [x0, x1, x2, x3, x4, x5, x6] [] I J P Q ↔ Q none I J P := wp_vret rfl dX0_useCredit_120
theorem dX0_valueOf_0 : decode cX0_valueOf 0 = .ok (.aload_n 1, 1) := by decide +kernel
theorem dX0_valueOf_1 : decode cX0_valueOf 1 = .ok (.iconst 1, 1) := by decide +kernel
theorem dX0_valueOf_2 : decode cX0_valueOf 2 = .ok (.iaload, 1) := by decide +kernel
theorem dX0_valueOf_3 : decode cX0_valueOf 3 = .ok (.i2l, 1) := by decide +kernel
theorem dX0_valueOf_4 : decode cX0_valueOf 4 = .ok (.ldc2_w 69, 3) := by decide +kernel
theorem dX0_valueOf_7 : decode cX0_valueOf 7 = .ok (.lmul, 1) := by decide +kernel
theorem dX0_valueOf_8 : decode cX0_valueOf 8 = .ok (.lstore_n 2, 1) := by decide +kernel
theorem dX0_valueOf_9 : decode cX0_valueOf 9 = .ok (.aload_n 1, 1) := by decide +kernel
theorem dX0_valueOf_10 : decode cX0_valueOf 10 = .ok (.iconst 5, 1) := by decide +kernel
theorem dX0_valueOf_11 : decode cX0_valueOf 11 = .ok (.iaload, 1) := by decide +kernel
theorem dX0_valueOf_12 : decode cX0_valueOf 12 = .ok (.iconst 1, 1) := by decide +kernel
theorem dX0_valueOf_13 : decode cX0_valueOf 13 = .ok (.if_icmp .ne 11, 3) := by decide +kernel
theorem dX0_valueOf_16 : decode cX0_valueOf 16 = .ok (.lload_n 2, 1) := by decide +kernel
theorem dX0_valueOf_17 : decode cX0_valueOf 17 = .ok (.aload_n 0, 1) := by decide +kernel
theorem dX0_valueOf_18 : decode cX0_valueOf 18 = .ok (.getfield 39, 3) := by decide +kernel
theorem dX0_valueOf_21 : decode cX0_valueOf 21 = .ok (.i2l, 1) := by decide +kernel
theorem dX0_valueOf_22 : decode cX0_valueOf 22 = .ok (.lmul, 1) := by decide +kernel
theorem dX0_valueOf_23 : decode cX0_valueOf 23 = .ok (.lstore_n 2, 1) := by decide +kernel
theorem dX0_valueOf_24 : decode cX0_valueOf 24 = .ok (.aload_n 1, 1) := by decide +kernel
theorem dX0_valueOf_25 : decode cX0_valueOf 25 = .ok (.iconst 2, 1) := by decide +kernel
theorem dX0_valueOf_26 : decode cX0_valueOf 26 = .ok (.iaload, 1) := by decide +kernel
theorem dX0_valueOf_27 : decode cX0_valueOf 27 = .ok (.ifCond .eq 25, 3) := by decide +kernel
theorem dX0_valueOf_30 : decode cX0_valueOf 30 = .ok (.aload_n 0, 1) := by decide +kernel
theorem dX0_valueOf_31 : decode cX0_valueOf 31 = .ok (.getfield 29, 3) := by decide +kernel
theorem dX0_valueOf_34 : decode cX0_valueOf 34 = .ok (.aload_n 1, 1) := by decide +kernel
theorem dX0_valueOf_35 : decode cX0_valueOf 35 = .ok (.iconst 2, 1) := by decide +kernel
theorem dX0_valueOf_36 : decode cX0_valueOf 36 = .ok (.iaload, 1) := by decide +kernel
theorem dX0_valueOf_37 : decode cX0_valueOf 37 = .ok (.imul, 1) := by decide +kernel
theorem dX0_valueOf_38 : decode cX0_valueOf 38 = .ok (.i2l, 1) := by decide +kernel
theorem dX0_valueOf_39 : decode cX0_valueOf 39 = .ok (.ldc2_w 107, 3) := by decide +kernel
theorem dX0_valueOf_42 : decode cX0_valueOf 42 = .ok (.lmul, 1) := by decide +kernel
theorem dX0_valueOf_43 : decode cX0_valueOf 43 = .ok (.lstore 4, 2) := by decide +kernel
theorem dX0_valueOf_45 : decode cX0_valueOf 45 = .ok (.lload_n 2, 1) := by decide +kernel
theorem dX0_valueOf_46 : decode cX0_valueOf 46 = .ok (.lload 4, 2) := by decide +kernel
theorem dX0_valueOf_48 : decode cX0_valueOf 48 = .ok (.invokestatic 115, 3) := by decide +kernel
theorem dX0_valueOf_51 : decode cX0_valueOf 51 = .ok (.lstore_n 2, 1) := by decide +kernel
theorem dX0_valueOf_52 : decode cX0_valueOf 52 = .ok (.lconst 0, 1) := by decide +kernel
theorem dX0_valueOf_53 : decode cX0_valueOf 53 = .ok (.lload_n 2, 1) := by decide +kernel
theorem dX0_valueOf_54 : decode cX0_valueOf 54 = .ok (.aload_n 0, 1) := by decide +kernel
theorem dX0_valueOf_55 : decode cX0_valueOf 55 = .ok (.aload_n 1, 1) := by decide +kernel
theorem dX0_valueOf_56 : decode cX0_valueOf 56 = .ok (.iconst 3, 1) := by decide +kernel
theorem dX0_valueOf_57 : decode cX0_valueOf 57 = .ok (.iaload, 1) := by decide +kernel
theorem dX0_valueOf_58 : decode cX0_valueOf 58 = .ok (.aload_n 1, 1) := by decide +kernel
theorem dX0_valueOf_59 : decode cX0_valueOf 59 = .ok (.iconst 4, 1) := by decide +kernel
theorem dX0_valueOf_60 : decode cX0_valueOf 60 = .ok (.iaload, 1) := by decide +kernel
theorem dX0_valueOf_61 : decode cX0_valueOf 61 = .ok (.invokevirtual 71, 3) := by decide +kernel
theorem dX0_valueOf_64 : decode cX0_valueOf 64 = .ok (.lsub, 1) := by decide +kernel
theorem dX0_valueOf_65 : decode cX0_valueOf 65 = .ok (.invokestatic 75, 3) := by decide +kernel
theorem dX0_valueOf_68 : decode cX0_valueOf 68 = .ok (.lreturn, 1) := by decide +kernel
theorem c_X0_valueOf {a0 : Nat} {a1 : Nat} : CWp S N d MX0_valueOf [.ref a0, .ref a1] I J P Q ↔ Wp S N d MX0_valueOf 0 [some (.ref a0), some (.ref a1), none, none, none, none] [] I J P Q := by
  rw [cwp_iff]
  exact ⟨fun h => h.2, fun h => ⟨Nat.le_of_ble_eq_true rfl, h⟩⟩
theorem e_X0_valueOf_0 {w : Nat} {x0 x2 x3 x4 x5 : Option Value} : Wp S N d MX0_valueOf 0 [x0, some (.ref w), x2, x3, x4, x5] [] I J P Q ↔ Wp S N d MX0_valueOf 1 [x0, some (.ref w), x2, x3, x4, x5] [.ref w] I J P Q := wp_lod (len := 1) rfl rfl rfl rfl dX0_valueOf_0
theorem e_X0_valueOf_1 {v0 : Nat} {x0 x1 x2 x3 x4 x5 : Option Value} : Wp S N d MX0_valueOf 1 [x0, x1, x2, x3, x4, x5] [.ref v0] I J P Q ↔ Wp S N d MX0_valueOf 2 [x0, x1, x2, x3, x4, x5] [.int 1, .ref v0] I J P Q := wp_iconst (by decide) dX0_valueOf_1
theorem e_X0_valueOf_2 {v0 : Int32} {v1 : Nat} {x0 x1 x2 x3 x4 x5 : Option Value} : Wp S N d MX0_valueOf 2 [x0, x1, x2, x3, x4, x5] [.int v0, .ref v1] I J P Q ↔ (S v1 = 10 ∧ vp_in v0 (N v1)) ∧ Wp S N d MX0_valueOf 3 [x0, x1, x2, x3, x4, x5] [.int (I v1 v0.toNatClampNeg)] I J P Q := wp_ald rfl rfl dX0_valueOf_2
theorem e_X0_valueOf_3 {v0 : Int32} {x0 x1 x2 x3 x4 x5 : Option Value} : Wp S N d MX0_valueOf 3 [x0, x1, x2, x3, x4, x5] [.int v0] I J P Q ↔ Wp S N d MX0_valueOf 4 [x0, x1, x2, x3, x4, x5] [.long v0.toInt64] I J P Q := wp_alu (len := 1) rfl rfl rfl dX0_valueOf_3
theorem e_X0_valueOf_4 {v0 : Int64} {x0 x1 x2 x3 x4 x5 : Option Value} : Wp S N d MX0_valueOf 4 [x0, x1, x2, x3, x4, x5] [.long v0] I J P Q ↔ Wp S N d MX0_valueOf 7 [x0, x1, x2, x3, x4, x5] [.long 1000000, .long v0] I J P Q := wp_ldc2 rfl dX0_valueOf_4
theorem e_X0_valueOf_7 {v0 : Int64} {v1 : Int64} {x0 x1 x2 x3 x4 x5 : Option Value} : Wp S N d MX0_valueOf 7 [x0, x1, x2, x3, x4, x5] [.long v0, .long v1] I J P Q ↔ Wp S N d MX0_valueOf 8 [x0, x1, x2, x3, x4, x5] [.long (v1 * v0)] I J P Q := wp_alu (len := 1) rfl rfl rfl dX0_valueOf_7
theorem e_X0_valueOf_8 {v0 : Int64} {x0 x1 x2 x3 x4 x5 : Option Value} : Wp S N d MX0_valueOf 8 [x0, x1, x2, x3, x4, x5] [.long v0] I J P Q ↔ Wp S N d MX0_valueOf 9 [x0, kl x1, some (.long v0), none, x4, x5] [] I J P Q := wp_sto (len := 1) rfl rfl rfl rfl (Nat.le_of_ble_eq_true rfl) rfl dX0_valueOf_8
theorem e_X0_valueOf_9 {w : Nat} {x0 x2 x3 x4 x5 : Option Value} : Wp S N d MX0_valueOf 9 [x0, some (.ref w), x2, x3, x4, x5] [] I J P Q ↔ Wp S N d MX0_valueOf 10 [x0, some (.ref w), x2, x3, x4, x5] [.ref w] I J P Q := wp_lod (len := 1) rfl rfl rfl rfl dX0_valueOf_9
theorem e_X0_valueOf_10 {v0 : Nat} {x0 x1 x2 x3 x4 x5 : Option Value} : Wp S N d MX0_valueOf 10 [x0, x1, x2, x3, x4, x5] [.ref v0] I J P Q ↔ Wp S N d MX0_valueOf 11 [x0, x1, x2, x3, x4, x5] [.int 5, .ref v0] I J P Q := wp_iconst (by decide) dX0_valueOf_10
theorem e_X0_valueOf_11 {v0 : Int32} {v1 : Nat} {x0 x1 x2 x3 x4 x5 : Option Value} : Wp S N d MX0_valueOf 11 [x0, x1, x2, x3, x4, x5] [.int v0, .ref v1] I J P Q ↔ (S v1 = 10 ∧ vp_in v0 (N v1)) ∧ Wp S N d MX0_valueOf 12 [x0, x1, x2, x3, x4, x5] [.int (I v1 v0.toNatClampNeg)] I J P Q := wp_ald rfl rfl dX0_valueOf_11
theorem e_X0_valueOf_12 {v0 : Int32} {x0 x1 x2 x3 x4 x5 : Option Value} : Wp S N d MX0_valueOf 12 [x0, x1, x2, x3, x4, x5] [.int v0] I J P Q ↔ Wp S N d MX0_valueOf 13 [x0, x1, x2, x3, x4, x5] [.int 1, .int v0] I J P Q := wp_iconst (by decide) dX0_valueOf_12
theorem e_X0_valueOf_13 {v0 : Int32} {v1 : Int32} {x0 x1 x2 x3 x4 x5 : Option Value} : Wp S N d MX0_valueOf 13 [x0, x1, x2, x3, x4, x5] [.int v0, .int v1] I J P Q ↔ (¬ v1 = v0 → Wp S N d MX0_valueOf 24 [x0, x1, x2, x3, x4, x5] [] I J P Q) ∧ (v1 = v0 → Wp S N d MX0_valueOf 16 [x0, x1, x2, x3, x4, x5] [] I J P Q) := wp_brn rfl rfl (by decide) dX0_valueOf_13
theorem e_X0_valueOf_16 {w : Int64} {x0 x1 x3 x4 x5 : Option Value} : Wp S N d MX0_valueOf 16 [x0, x1, some (.long w), x3, x4, x5] [] I J P Q ↔ Wp S N d MX0_valueOf 17 [x0, x1, some (.long w), x3, x4, x5] [.long w] I J P Q := wp_lod (len := 1) rfl rfl rfl rfl dX0_valueOf_16
theorem e_X0_valueOf_17 {v0 : Int64} {w : Nat} {x1 x2 x3 x4 x5 : Option Value} : Wp S N d MX0_valueOf 17 [some (.ref w), x1, x2, x3, x4, x5] [.long v0] I J P Q ↔ Wp S N d MX0_valueOf 18 [some (.ref w), x1, x2, x3, x4, x5] [.ref w, .long v0] I J P Q := wp_lod (len := 1) rfl rfl rfl rfl dX0_valueOf_17
theorem e_X0_valueOf_18 {v0 : Nat} {v1 : Int64} {x0 x1 x2 x3 x4 x5 : Option Value} : Wp S N d MX0_valueOf 18 [x0, x1, x2, x3, x4, x5] [.ref v0, .long v1] I J P Q ↔ S v0 = 0 ∧ Wp S N d MX0_valueOf 21 [x0, x1, x2, x3, x4, x5] [.int (I v0 2), .long v1] I J P Q := wp_getf rfl rfl rfl rfl dX0_valueOf_18
theorem e_X0_valueOf_21 {v0 : Int32} {v1 : Int64} {x0 x1 x2 x3 x4 x5 : Option Value} : Wp S N d MX0_valueOf 21 [x0, x1, x2, x3, x4, x5] [.int v0, .long v1] I J P Q ↔ Wp S N d MX0_valueOf 22 [x0, x1, x2, x3, x4, x5] [.long v0.toInt64, .long v1] I J P Q := wp_alu (len := 1) rfl rfl rfl dX0_valueOf_21
theorem e_X0_valueOf_22 {v0 : Int64} {v1 : Int64} {x0 x1 x2 x3 x4 x5 : Option Value} : Wp S N d MX0_valueOf 22 [x0, x1, x2, x3, x4, x5] [.long v0, .long v1] I J P Q ↔ Wp S N d MX0_valueOf 23 [x0, x1, x2, x3, x4, x5] [.long (v1 * v0)] I J P Q := wp_alu (len := 1) rfl rfl rfl dX0_valueOf_22
theorem e_X0_valueOf_23 {v0 : Int64} {x0 x1 x2 x3 x4 x5 : Option Value} : Wp S N d MX0_valueOf 23 [x0, x1, x2, x3, x4, x5] [.long v0] I J P Q ↔ Wp S N d MX0_valueOf 24 [x0, kl x1, some (.long v0), none, x4, x5] [] I J P Q := wp_sto (len := 1) rfl rfl rfl rfl (Nat.le_of_ble_eq_true rfl) rfl dX0_valueOf_23
theorem e_X0_valueOf_24 {w : Nat} {x0 x2 x3 x4 x5 : Option Value} : Wp S N d MX0_valueOf 24 [x0, some (.ref w), x2, x3, x4, x5] [] I J P Q ↔ Wp S N d MX0_valueOf 25 [x0, some (.ref w), x2, x3, x4, x5] [.ref w] I J P Q := wp_lod (len := 1) rfl rfl rfl rfl dX0_valueOf_24
theorem e_X0_valueOf_25 {v0 : Nat} {x0 x1 x2 x3 x4 x5 : Option Value} : Wp S N d MX0_valueOf 25 [x0, x1, x2, x3, x4, x5] [.ref v0] I J P Q ↔ Wp S N d MX0_valueOf 26 [x0, x1, x2, x3, x4, x5] [.int 2, .ref v0] I J P Q := wp_iconst (by decide) dX0_valueOf_25
theorem e_X0_valueOf_26 {v0 : Int32} {v1 : Nat} {x0 x1 x2 x3 x4 x5 : Option Value} : Wp S N d MX0_valueOf 26 [x0, x1, x2, x3, x4, x5] [.int v0, .ref v1] I J P Q ↔ (S v1 = 10 ∧ vp_in v0 (N v1)) ∧ Wp S N d MX0_valueOf 27 [x0, x1, x2, x3, x4, x5] [.int (I v1 v0.toNatClampNeg)] I J P Q := wp_ald rfl rfl dX0_valueOf_26
theorem e_X0_valueOf_27 {v0 : Int32} {x0 x1 x2 x3 x4 x5 : Option Value} : Wp S N d MX0_valueOf 27 [x0, x1, x2, x3, x4, x5] [.int v0] I J P Q ↔ (v0 = 0 → Wp S N d MX0_valueOf 52 [x0, x1, x2, x3, x4, x5] [] I J P Q) ∧ (¬ v0 = 0 → Wp S N d MX0_valueOf 30 [x0, x1, x2, x3, x4, x5] [] I J P Q) := wp_br rfl rfl (by decide) dX0_valueOf_27
theorem e_X0_valueOf_30 {w : Nat} {x1 x2 x3 x4 x5 : Option Value} : Wp S N d MX0_valueOf 30 [some (.ref w), x1, x2, x3, x4, x5] [] I J P Q ↔ Wp S N d MX0_valueOf 31 [some (.ref w), x1, x2, x3, x4, x5] [.ref w] I J P Q := wp_lod (len := 1) rfl rfl rfl rfl dX0_valueOf_30
theorem e_X0_valueOf_31 {v0 : Nat} {x0 x1 x2 x3 x4 x5 : Option Value} : Wp S N d MX0_valueOf 31 [x0, x1, x2, x3, x4, x5] [.ref v0] I J P Q ↔ S v0 = 0 ∧ Wp S N d MX0_valueOf 34 [x0, x1, x2, x3, x4, x5] [.int (I v0 0)] I J P Q := wp_getf rfl rfl rfl rfl dX0_valueOf_31
theorem e_X0_valueOf_34 {v0 : Int32} {w : Nat} {x0 x2 x3 x4 x5 : Option Value} : Wp S N d MX0_valueOf 34 [x0, some (.ref w), x2, x3, x4, x5] [.int v0] I J P Q ↔ Wp S N d MX0_valueOf 35 [x0, some (.ref w), x2, x3, x4, x5] [.ref w, .int v0] I J P Q := wp_lod (len := 1) rfl rfl rfl rfl dX0_valueOf_34
theorem e_X0_valueOf_35 {v0 : Nat} {v1 : Int32} {x0 x1 x2 x3 x4 x5 : Option Value} : Wp S N d MX0_valueOf 35 [x0, x1, x2, x3, x4, x5] [.ref v0, .int v1] I J P Q ↔ Wp S N d MX0_valueOf 36 [x0, x1, x2, x3, x4, x5] [.int 2, .ref v0, .int v1] I J P Q := wp_iconst (by decide) dX0_valueOf_35
theorem e_X0_valueOf_36 {v0 : Int32} {v1 : Nat} {v2 : Int32} {x0 x1 x2 x3 x4 x5 : Option Value} : Wp S N d MX0_valueOf 36 [x0, x1, x2, x3, x4, x5] [.int v0, .ref v1, .int v2] I J P Q ↔ (S v1 = 10 ∧ vp_in v0 (N v1)) ∧ Wp S N d MX0_valueOf 37 [x0, x1, x2, x3, x4, x5] [.int (I v1 v0.toNatClampNeg), .int v2] I J P Q := wp_ald rfl rfl dX0_valueOf_36
theorem e_X0_valueOf_37 {v0 : Int32} {v1 : Int32} {x0 x1 x2 x3 x4 x5 : Option Value} : Wp S N d MX0_valueOf 37 [x0, x1, x2, x3, x4, x5] [.int v0, .int v1] I J P Q ↔ Wp S N d MX0_valueOf 38 [x0, x1, x2, x3, x4, x5] [.int (v1 * v0)] I J P Q := wp_alu (len := 1) rfl rfl rfl dX0_valueOf_37
theorem e_X0_valueOf_38 {v0 : Int32} {x0 x1 x2 x3 x4 x5 : Option Value} : Wp S N d MX0_valueOf 38 [x0, x1, x2, x3, x4, x5] [.int v0] I J P Q ↔ Wp S N d MX0_valueOf 39 [x0, x1, x2, x3, x4, x5] [.long v0.toInt64] I J P Q := wp_alu (len := 1) rfl rfl rfl dX0_valueOf_38
theorem e_X0_valueOf_39 {v0 : Int64} {x0 x1 x2 x3 x4 x5 : Option Value} : Wp S N d MX0_valueOf 39 [x0, x1, x2, x3, x4, x5] [.long v0] I J P Q ↔ Wp S N d MX0_valueOf 42 [x0, x1, x2, x3, x4, x5] [.long 1000, .long v0] I J P Q := wp_ldc2 rfl dX0_valueOf_39
theorem e_X0_valueOf_42 {v0 : Int64} {v1 : Int64} {x0 x1 x2 x3 x4 x5 : Option Value} : Wp S N d MX0_valueOf 42 [x0, x1, x2, x3, x4, x5] [.long v0, .long v1] I J P Q ↔ Wp S N d MX0_valueOf 43 [x0, x1, x2, x3, x4, x5] [.long (v1 * v0)] I J P Q := wp_alu (len := 1) rfl rfl rfl dX0_valueOf_42
theorem e_X0_valueOf_43 {v0 : Int64} {x0 x1 x2 x3 x4 x5 : Option Value} : Wp S N d MX0_valueOf 43 [x0, x1, x2, x3, x4, x5] [.long v0] I J P Q ↔ Wp S N d MX0_valueOf 45 [x0, x1, x2, kl x3, some (.long v0), none] [] I J P Q := wp_sto (len := 2) rfl rfl rfl rfl (Nat.le_of_ble_eq_true rfl) rfl dX0_valueOf_43
theorem e_X0_valueOf_45 {w : Int64} {x0 x1 x3 x4 x5 : Option Value} : Wp S N d MX0_valueOf 45 [x0, x1, some (.long w), x3, x4, x5] [] I J P Q ↔ Wp S N d MX0_valueOf 46 [x0, x1, some (.long w), x3, x4, x5] [.long w] I J P Q := wp_lod (len := 1) rfl rfl rfl rfl dX0_valueOf_45
theorem e_X0_valueOf_46 {v0 : Int64} {w : Int64} {x0 x1 x2 x3 x5 : Option Value} : Wp S N d MX0_valueOf 46 [x0, x1, x2, x3, some (.long w), x5] [.long v0] I J P Q ↔ Wp S N d MX0_valueOf 48 [x0, x1, x2, x3, some (.long w), x5] [.long w, .long v0] I J P Q := wp_lod (len := 2) rfl rfl rfl rfl dX0_valueOf_46
theorem e_X0_valueOf_48 {v0 : Int64} {v1 : Int64} {x0 x1 x2 x3 x4 x5 : Option Value} : Wp S N (d + 1) MX0_valueOf 48 [x0, x1, x2, x3, x4, x5] [.long v0, .long v1] I J P Q ↔ Wp S N (d + 1) MX0_valueOf 51 [x0, x1, x2, x3, x4, x5] [.long (if v0 < v1 then v0 else v1)] I J P Q := wp_lmin rfl rfl (Nat.le_of_ble_eq_true rfl) dX0_valueOf_48
theorem e_X0_valueOf_51 {v0 : Int64} {x0 x1 x2 x3 x4 x5 : Option Value} : Wp S N d MX0_valueOf 51 [x0, x1, x2, x3, x4, x5] [.long v0] I J P Q ↔ Wp S N d MX0_valueOf 52 [x0, kl x1, some (.long v0), none, x4, x5] [] I J P Q := wp_sto (len := 1) rfl rfl rfl rfl (Nat.le_of_ble_eq_true rfl) rfl dX0_valueOf_51
theorem e_X0_valueOf_52  {x0 x1 x2 x3 x4 x5 : Option Value} : Wp S N d MX0_valueOf 52 [x0, x1, x2, x3, x4, x5] [] I J P Q ↔ Wp S N d MX0_valueOf 53 [x0, x1, x2, x3, x4, x5] [.long 0] I J P Q := wp_lconst (by decide) dX0_valueOf_52
theorem e_X0_valueOf_53 {v0 : Int64} {w : Int64} {x0 x1 x3 x4 x5 : Option Value} : Wp S N d MX0_valueOf 53 [x0, x1, some (.long w), x3, x4, x5] [.long v0] I J P Q ↔ Wp S N d MX0_valueOf 54 [x0, x1, some (.long w), x3, x4, x5] [.long w, .long v0] I J P Q := wp_lod (len := 1) rfl rfl rfl rfl dX0_valueOf_53
theorem e_X0_valueOf_54 {v0 : Int64} {v1 : Int64} {w : Nat} {x1 x2 x3 x4 x5 : Option Value} : Wp S N d MX0_valueOf 54 [some (.ref w), x1, x2, x3, x4, x5] [.long v0, .long v1] I J P Q ↔ Wp S N d MX0_valueOf 55 [some (.ref w), x1, x2, x3, x4, x5] [.ref w, .long v0, .long v1] I J P Q := wp_lod (len := 1) rfl rfl rfl rfl dX0_valueOf_54
theorem e_X0_valueOf_55 {v0 : Nat} {v1 : Int64} {v2 : Int64} {w : Nat} {x0 x2 x3 x4 x5 : Option Value} : Wp S N d MX0_valueOf 55 [x0, some (.ref w), x2, x3, x4, x5] [.ref v0, .long v1, .long v2] I J P Q ↔ Wp S N d MX0_valueOf 56 [x0, some (.ref w), x2, x3, x4, x5] [.ref w, .ref v0, .long v1, .long v2] I J P Q := wp_lod (len := 1) rfl rfl rfl rfl dX0_valueOf_55
theorem e_X0_valueOf_56 {v0 : Nat} {v1 : Nat} {v2 : Int64} {v3 : Int64} {x0 x1 x2 x3 x4 x5 : Option Value} : Wp S N d MX0_valueOf 56 [x0, x1, x2, x3, x4, x5] [.ref v0, .ref v1, .long v2, .long v3] I J P Q ↔ Wp S N d MX0_valueOf 57 [x0, x1, x2, x3, x4, x5] [.int 3, .ref v0, .ref v1, .long v2, .long v3] I J P Q := wp_iconst (by decide) dX0_valueOf_56
theorem e_X0_valueOf_57 {v0 : Int32} {v1 : Nat} {v2 : Nat} {v3 : Int64} {v4 : Int64} {x0 x1 x2 x3 x4 x5 : Option Value} : Wp S N d MX0_valueOf 57 [x0, x1, x2, x3, x4, x5] [.int v0, .ref v1, .ref v2, .long v3, .long v4] I J P Q ↔ (S v1 = 10 ∧ vp_in v0 (N v1)) ∧ Wp S N d MX0_valueOf 58 [x0, x1, x2, x3, x4, x5] [.int (I v1 v0.toNatClampNeg), .ref v2, .long v3, .long v4] I J P Q := wp_ald rfl rfl dX0_valueOf_57
theorem e_X0_valueOf_58 {v0 : Int32} {v1 : Nat} {v2 : Int64} {v3 : Int64} {w : Nat} {x0 x2 x3 x4 x5 : Option Value} : Wp S N d MX0_valueOf 58 [x0, some (.ref w), x2, x3, x4, x5] [.int v0, .ref v1, .long v2, .long v3] I J P Q ↔ Wp S N d MX0_valueOf 59 [x0, some (.ref w), x2, x3, x4, x5] [.ref w, .int v0, .ref v1, .long v2, .long v3] I J P Q := wp_lod (len := 1) rfl rfl rfl rfl dX0_valueOf_58
theorem e_X0_valueOf_59 {v0 : Nat} {v1 : Int32} {v2 : Nat} {v3 : Int64} {v4 : Int64} {x0 x1 x2 x3 x4 x5 : Option Value} : Wp S N d MX0_valueOf 59 [x0, x1, x2, x3, x4, x5] [.ref v0, .int v1, .ref v2, .long v3, .long v4] I J P Q ↔ Wp S N d MX0_valueOf 60 [x0, x1, x2, x3, x4, x5] [.int 4, .ref v0, .int v1, .ref v2, .long v3, .long v4] I J P Q := wp_iconst (by decide) dX0_valueOf_59
theorem e_X0_valueOf_60 {v0 : Int32} {v1 : Nat} {v2 : Int32} {v3 : Nat} {v4 : Int64} {v5 : Int64} {x0 x1 x2 x3 x4 x5 : Option Value} : Wp S N d MX0_valueOf 60 [x0, x1, x2, x3, x4, x5] [.int v0, .ref v1, .int v2, .ref v3, .long v4, .long v5] I J P Q ↔ (S v1 = 10 ∧ vp_in v0 (N v1)) ∧ Wp S N d MX0_valueOf 61 [x0, x1, x2, x3, x4, x5] [.int (I v1 v0.toNatClampNeg), .int v2, .ref v3, .long v4, .long v5] I J P Q := wp_ald rfl rfl dX0_valueOf_60
theorem e_X0_valueOf_61 {v0 : Int32} {v1 : Int32} {v2 : Nat} {v3 : Int64} {v4 : Int64} {x0 x1 x2 x3 x4 x5 : Option Value} : Wp S N (d + 1) MX0_valueOf 61 [x0, x1, x2, x3, x4, x5] [.int v0, .int v1, .ref v2, .long v3, .long v4] I J P Q ↔ S v2 = 0 ∧ CWp S N d MX0_shareAbove [.ref v2, .int v1, .int v0] I J P (fun r I1 J1 P1 => Wp S N (d + 1) MX0_valueOf 64 [x0, x1, x2, x3, x4, x5] (r.toList ++ [.long v3, .long v4]) I1 J1 P1 Q) := wp_callV (M' := MX0_shareAbove) (As := [.int v1, .int v0]) rfl rfl rfl rfl (by decide) (Nat.le_of_ble_eq_true rfl) dX0_valueOf_61
theorem e_X0_valueOf_64 {v0 : Int64} {v1 : Int64} {v2 : Int64} {x0 x1 x2 x3 x4 x5 : Option Value} : Wp S N d MX0_valueOf 64 [x0, x1, x2, x3, x4, x5] [.long v0, .long v1, .long v2] I J P Q ↔ Wp S N d MX0_valueOf 65 [x0, x1, x2, x3, x4, x5] [.long (v1 - v0), .long v2] I J P Q := wp_alu (len := 1) rfl rfl rfl dX0_valueOf_64
theorem e_X0_valueOf_65 {v0 : Int64} {v1 : Int64} {x0 x1 x2 x3 x4 x5 : Option Value} : Wp S N (d + 1) MX0_valueOf 65 [x0, x1, x2, x3, x4, x5] [.long v0, .long v1] I J P Q ↔ Wp S N (d + 1) MX0_valueOf 68 [x0, x1, x2, x3, x4, x5] [.long (if v0 < v1 then v1 else v0)] I J P Q := wp_lmax rfl rfl (Nat.le_of_ble_eq_true rfl) dX0_valueOf_65
theorem e_X0_valueOf_68 {v0 : Int64} {x0 x1 x2 x3 x4 x5 : Option Value} : Wp S N d MX0_valueOf 68 [x0, x1, x2, x3, x4, x5] [.long v0] I J P Q ↔ Q (some (.long v0)) I J P := wp_lret rfl dX0_valueOf_68
theorem dX0_curvePart_0 : decode cX0_curvePart 0 = .ok (.iload_n 1, 1) := by decide +kernel
theorem dX0_curvePart_1 : decode cX0_curvePart 1 = .ok (.iconst 4, 1) := by decide +kernel
theorem dX0_curvePart_2 : decode cX0_curvePart 2 = .ok (.if_icmp .ge 12, 3) := by decide +kernel
theorem dX0_curvePart_5 : decode cX0_curvePart 5 = .ok (.aload_n 0, 1) := by decide +kernel
theorem dX0_curvePart_6 : decode cX0_curvePart 6 = .ok (.getfield 15, 3) := by decide +kernel
theorem dX0_curvePart_9 : decode cX0_curvePart 9 = .ok (.iconst 2, 1) := by decide +kernel
theorem dX0_curvePart_10 : decode cX0_curvePart 10 = .ok (.iload_n 1, 1) := by decide +kernel
theorem dX0_curvePart_11 : decode cX0_curvePart 11 = .ok (.iadd, 1) := by decide +kernel
theorem dX0_curvePart_12 : decode cX0_curvePart 12 = .ok (.laload, 1) := by decide +kernel
theorem dX0_curvePart_13 : decode cX0_curvePart 13 = .ok (.lreturn, 1) := by decide +kernel
theorem dX0_curvePart_14 : decode cX0_curvePart 14 = .ok (.aload_n 0, 1) := by decide +kernel
theorem dX0_curvePart_15 : decode cX0_curvePart 15 = .ok (.getfield 20, 3) := by decide +kernel
theorem dX0_curvePart_18 : decode cX0_curvePart 18 = .ok (.iload_n 1, 1) := by decide +kernel
theorem dX0_curvePart_19 : decode cX0_curvePart 19 = .ok (.iconst 4, 1) := by decide +kernel
theorem dX0_curvePart_20 : decode cX0_curvePart 20 = .ok (.isub, 1) := by decide +kernel
theorem dX0_curvePart_21 : decode cX0_curvePart 21 = .ok (.aaload, 1) := by decide +kernel
theorem dX0_curvePart_22 : decode cX0_curvePart 22 = .ok (.iconst 4, 1) := by decide +kernel
theorem dX0_curvePart_23 : decode cX0_curvePart 23 = .ok (.laload, 1) := by decide +kernel
theorem dX0_curvePart_24 : decode cX0_curvePart 24 = .ok (.lreturn, 1) := by decide +kernel
theorem c_X0_curvePart {a0 : Nat} {a1 : Int32} : CWp S N d MX0_curvePart [.ref a0, .int a1] I J P Q ↔ Wp S N d MX0_curvePart 0 [some (.ref a0), some (.int a1)] [] I J P Q := by
  rw [cwp_iff]
  exact ⟨fun h => h.2, fun h => ⟨Nat.le_of_ble_eq_true rfl, h⟩⟩
theorem e_X0_curvePart_0 {w : Int32} {x0 : Option Value} : Wp S N d MX0_curvePart 0 [x0, some (.int w)] [] I J P Q ↔ Wp S N d MX0_curvePart 1 [x0, some (.int w)] [.int w] I J P Q := wp_lod (len := 1) rfl rfl rfl rfl dX0_curvePart_0
theorem e_X0_curvePart_1 {v0 : Int32} {x0 x1 : Option Value} : Wp S N d MX0_curvePart 1 [x0, x1] [.int v0] I J P Q ↔ Wp S N d MX0_curvePart 2 [x0, x1] [.int 4, .int v0] I J P Q := wp_iconst (by decide) dX0_curvePart_1
theorem e_X0_curvePart_2 {v0 : Int32} {v1 : Int32} {x0 x1 : Option Value} : Wp S N d MX0_curvePart 2 [x0, x1] [.int v0, .int v1] I J P Q ↔ (v0 ≤ v1 → Wp S N d MX0_curvePart 14 [x0, x1] [] I J P Q) ∧ (¬ v0 ≤ v1 → Wp S N d MX0_curvePart 5 [x0, x1] [] I J P Q) := wp_br rfl rfl (by decide) dX0_curvePart_2
theorem e_X0_curvePart_5 {w : Nat} {x1 : Option Value} : Wp S N d MX0_curvePart 5 [some (.ref w), x1] [] I J P Q ↔ Wp S N d MX0_curvePart 6 [some (.ref w), x1] [.ref w] I J P Q := wp_lod (len := 1) rfl rfl rfl rfl dX0_curvePart_5
theorem e_X0_curvePart_6 {v0 : Nat} {x0 x1 : Option Value} : Wp S N d MX0_curvePart 6 [x0, x1] [.ref v0] I J P Q ↔ S v0 = 0 ∧ Wp S N d MX0_curvePart 9 [x0, x1] [va_rf (P v0 5)] I J P Q := wp_getf rfl rfl rfl rfl dX0_curvePart_6
theorem e_X0_curvePart_9 {v0 : Nat} {x0 x1 : Option Value} : Wp S N d MX0_curvePart 9 [x0, x1] [.ref v0] I J P Q ↔ Wp S N d MX0_curvePart 10 [x0, x1] [.int 2, .ref v0] I J P Q := wp_iconst (by decide) dX0_curvePart_9
theorem e_X0_curvePart_10 {v0 : Int32} {v1 : Nat} {w : Int32} {x0 : Option Value} : Wp S N d MX0_curvePart 10 [x0, some (.int w)] [.int v0, .ref v1] I J P Q ↔ Wp S N d MX0_curvePart 11 [x0, some (.int w)] [.int w, .int v0, .ref v1] I J P Q := wp_lod (len := 1) rfl rfl rfl rfl dX0_curvePart_10
theorem e_X0_curvePart_11 {v0 : Int32} {v1 : Int32} {v2 : Nat} {x0 x1 : Option Value} : Wp S N d MX0_curvePart 11 [x0, x1] [.int v0, .int v1, .ref v2] I J P Q ↔ Wp S N d MX0_curvePart 12 [x0, x1] [.int (v1 + v0), .ref v2] I J P Q := wp_alu (len := 1) rfl rfl rfl dX0_curvePart_11
theorem e_X0_curvePart_12 {v0 : Int32} {v1 : Nat} {x0 x1 : Option Value} : Wp S N d MX0_curvePart 12 [x0, x1] [.int v0, .ref v1] I J P Q ↔ (S v1 = 11 ∧ vp_in v0 (N v1)) ∧ Wp S N d MX0_curvePart 13 [x0, x1] [.long (J v1 v0.toNatClampNeg)] I J P Q := wp_ald rfl rfl dX0_curvePart_12
theorem e_X0_curvePart_13 {v0 : Int64} {x0 x1 : Option Value} : Wp S N d MX0_curvePart 13 [x0, x1] [.long v0] I J P Q ↔ Q (some (.long v0)) I J P := wp_lret rfl dX0_curvePart_13
theorem e_X0_curvePart_14 {w : Nat} {x1 : Option Value} : Wp S N d MX0_curvePart 14 [some (.ref w), x1] [] I J P Q ↔ Wp S N d MX0_curvePart 15 [some (.ref w), x1] [.ref w] I J P Q := wp_lod (len := 1) rfl rfl rfl rfl dX0_curvePart_14
theorem e_X0_curvePart_15 {v0 : Nat} {x0 x1 : Option Value} : Wp S N d MX0_curvePart 15 [x0, x1] [.ref v0] I J P Q ↔ S v0 = 0 ∧ Wp S N d MX0_curvePart 18 [x0, x1] [va_rf (P v0 6)] I J P Q := wp_getf rfl rfl rfl rfl dX0_curvePart_15
theorem e_X0_curvePart_18 {v0 : Nat} {w : Int32} {x0 : Option Value} : Wp S N d MX0_curvePart 18 [x0, some (.int w)] [.ref v0] I J P Q ↔ Wp S N d MX0_curvePart 19 [x0, some (.int w)] [.int w, .ref v0] I J P Q := wp_lod (len := 1) rfl rfl rfl rfl dX0_curvePart_18
theorem e_X0_curvePart_19 {v0 : Int32} {v1 : Nat} {x0 x1 : Option Value} : Wp S N d MX0_curvePart 19 [x0, x1] [.int v0, .ref v1] I J P Q ↔ Wp S N d MX0_curvePart 20 [x0, x1] [.int 4, .int v0, .ref v1] I J P Q := wp_iconst (by decide) dX0_curvePart_19
theorem e_X0_curvePart_20 {v0 : Int32} {v1 : Int32} {v2 : Nat} {x0 x1 : Option Value} : Wp S N d MX0_curvePart 20 [x0, x1] [.int v0, .int v1, .ref v2] I J P Q ↔ Wp S N d MX0_curvePart 21 [x0, x1] [.int (v1 - v0), .ref v2] I J P Q := wp_alu (len := 1) rfl rfl rfl dX0_curvePart_20
theorem e_X0_curvePart_21 {v0 : Int32} {v1 : Nat} {x0 x1 : Option Value} : Wp S N d MX0_curvePart 21 [x0, x1] [.int v0, .ref v1] I J P Q ↔ ((S v1 = 12 ∨ S v1 = 13 ∨ S v1 = 14) ∧ vp_in v0 (N v1)) ∧ Wp S N d MX0_curvePart 22 [x0, x1] [va_rf (P v1 v0.toNatClampNeg)] I J P Q := wp_ald rfl rfl dX0_curvePart_21
theorem e_X0_curvePart_22 {v0 : Nat} {x0 x1 : Option Value} : Wp S N d MX0_curvePart 22 [x0, x1] [.ref v0] I J P Q ↔ Wp S N d MX0_curvePart 23 [x0, x1] [.int 4, .ref v0] I J P Q := wp_iconst (by decide) dX0_curvePart_22
theorem e_X0_curvePart_23 {v0 : Int32} {v1 : Nat} {x0 x1 : Option Value} : Wp S N d MX0_curvePart 23 [x0, x1] [.int v0, .ref v1] I J P Q ↔ (S v1 = 11 ∧ vp_in v0 (N v1)) ∧ Wp S N d MX0_curvePart 24 [x0, x1] [.long (J v1 v0.toNatClampNeg)] I J P Q := wp_ald rfl rfl dX0_curvePart_23
theorem e_X0_curvePart_24 {v0 : Int64} {x0 x1 : Option Value} : Wp S N d MX0_curvePart 24 [x0, x1] [.long v0] I J P Q ↔ Q (some (.long v0)) I J P := wp_lret rfl dX0_curvePart_24
theorem dX1_settle_0 : decode cX1_settle 0 = .ok (.aload_n 0, 1) := by decide +kernel
theorem dX1_settle_1 : decode cX1_settle 1 = .ok (.iload_n 2, 1) := by decide +kernel
theorem dX1_settle_2 : decode cX1_settle 2 = .ok (.iload_n 3, 1) := by decide +kernel
theorem dX1_settle_3 : decode cX1_settle 3 = .ok (.invokestatic 16, 3) := by decide +kernel
theorem dX1_settle_6 : decode cX1_settle 6 = .ok (.putfield 22, 3) := by decide +kernel
theorem dX1_settle_9 : decode cX1_settle 9 = .ok (.aload_n 0, 1) := by decide +kernel
theorem dX1_settle_10 : decode cX1_settle 10 = .ok (.iload_n 2, 1) := by decide +kernel
theorem dX1_settle_11 : decode cX1_settle 11 = .ok (.iload_n 3, 1) := by decide +kernel
theorem dX1_settle_12 : decode cX1_settle 12 = .ok (.invokestatic 26, 3) := by decide +kernel
theorem dX1_settle_15 : decode cX1_settle 15 = .ok (.putfield 29, 3) := by decide +kernel
theorem dX1_settle_18 : decode cX1_settle 18 = .ok (.aload_n 0, 1) := by decide +kernel
theorem dX1_settle_19 : decode cX1_settle 19 = .ok (.aload_n 1, 1) := by decide +kernel
theorem dX1_settle_20 : decode cX1_settle 20 = .ok (.getfield 32, 3) := by decide +kernel
theorem dX1_settle_23 : decode cX1_settle 23 = .ok (.aload_n 0, 1) := by decide +kernel
theorem dX1_settle_24 : decode cX1_settle 24 = .ok (.getfield 22, 3) := by decide +kernel
theorem dX1_settle_27 : decode cX1_settle 27 = .ok (.iaload, 1) := by decide +kernel
theorem dX1_settle_28 : decode cX1_settle 28 = .ok (.aload_n 1, 1) := by decide +kernel
theorem dX1_settle_29 : decode cX1_settle 29 = .ok (.getfield 32, 3) := by decide +kernel
theorem dX1_settle_32 : decode cX1_settle 32 = .ok (.aload_n 0, 1) := by decide +kernel
theorem dX1_settle_33 : decode cX1_settle 33 = .ok (.getfield 29, 3) := by decide +kernel
theorem dX1_settle_36 : decode cX1_settle 36 = .ok (.iaload, 1) := by decide +kernel
theorem dX1_settle_37 : decode cX1_settle 37 = .ok (.iadd, 1) := by decide +kernel
theorem dX1_settle_38 : decode cX1_settle 38 = .ok (.putfield 38, 3) := by decide +kernel
theorem dX1_settle_41 : decode cX1_settle 41 = .ok (.aload_n 0, 1) := by decide +kernel
theorem dX1_settle_42 : decode cX1_settle 42 = .ok (.getfield 10, 3) := by decide +kernel
theorem dX1_settle_45 : decode cX1_settle 45 = .ok (.aload_n 1, 1) := by decide +kernel
theorem dX1_settle_46 : decode cX1_settle 46 = .ok (.aload_n 0, 1) := by decide +kernel
theorem dX1_settle_47 : decode cX1_settle 47 = .ok (.getfield 22, 3) := by decide +kernel
theorem dX1_settle_50 : decode cX1_settle 50 = .ok (.aload_n 0, 1) := by decide +kernel
theorem dX1_settle_51 : decode cX1_settle 51 = .ok (.getfield 29, 3) := by decide +kernel
theorem dX1_settle_54 : decode cX1_settle 54 = .ok (.invokevirtual 41, 3) := by decide +kernel
theorem dX1_settle_57 : decode cX1_settle 57 = .ok (.aload_n 0, 1) := by decide +kernel
theorem dX1_settle_58 : decode cX1_settle 58 = .ok (.getfield 10, 3) := by decide +kernel
theorem dX1_settle_61 : decode cX1_settle 61 = .ok (.aload_n 1, 1) := by decide +kernel
theorem dX1_settle_62 : decode cX1_settle 62 = .ok (.getfield 45, 3) := by decide +kernel
theorem dX1_settle_65 : decode cX1_settle 65 = .ok (.invokevirtual 49, 3) := by decide +kernel
theorem dX1_settle_68 : decode cX1_settle 68 = .ok (.aload_n 0, 1) := by decide +kernel
theorem dX1_settle_69 : decode cX1_settle 69 = .ok (.aload_n 0, 1) := by decide +kernel
theorem dX1_settle_70 : decode cX1_settle 70 = .ok (.getfield 10, 3) := by decide +kernel
theorem dX1_settle_73 : decode cX1_settle 73 = .ok (.getfield 53, 3) := by decide +kernel
theorem dX1_settle_76 : decode cX1_settle 76 = .ok (.putfield 57, 3) := by decide +kernel
theorem dX1_settle_79 : decode cX1_settle 79 = .ok (.aload_n 0, 1) := by decide +kernel
theorem dX1_settle_80 : decode cX1_settle 80 = .ok (.iconst 0, 1) := by decide +kernel
theorem dX1_settle_81 : decode cX1_settle 81 = .ok (.putfield 60, 3) := by decide +kernel
theorem dX1_settle_84 : decode cX1_settle 84 = .ok (.aload_n 0, 1) := by decide +kernel
theorem dX1_settle_85 : decode cX1_settle 85 = .ok (.aload_n 0, 1) := by decide +kernel
theorem dX1_settle_86 : decode cX1_settle 86 = .ok (.aload_n 1, 1) := by decide +kernel
theorem dX1_settle_87 : decode cX1_settle 87 = .ok (.iconst 0, 1) := by decide +kernel
theorem dX1_settle_88 : decode cX1_settle 88 = .ok (.invokevirtual 63, 3) := by decide +kernel
theorem dX1_settle_91 : decode cX1_settle 91 = .ok (.putfield 67, 3) := by decide +kernel
theorem dX1_settle_94 : decode cX1_settle 94 = .ok (.iconst 1, 1) := by decide +kernel
theorem dX1_settle_95 : decode cX1_settle 95 = .ok (.istore 4, 2) := by decide +kernel
theorem dX1_settle_97 : decode cX1_settle 97 = .ok (.iload 4, 2) := by decide +kernel
theorem dX1_settle_99 : decode cX1_settle 99 = .ok (.aload_n 0, 1) := by decide +kernel
theorem dX1_settle_100 : decode cX1_settle 100 = .ok (.getfield 38, 3) := by decide +kernel
theorem dX1_settle_103 : decode cX1_settle 103 = .ok (.if_icmp .gt 40, 3) := by decide +kernel
theorem dX1_settle_106 : decode cX1_settle 106 = .ok (.aload_n 0, 1) := by decide +kernel
theorem dX1_settle_107 : decode cX1_settle 107 = .ok (.aload_n 1, 1) := by decide +kernel
theorem dX1_settle_108 : decode cX1_settle 108 = .ok (.iload 4, 2) := by decide +kernel
theorem dX1_settle_110 : decode cX1_settle 110 = .ok (.invokevirtual 63, 3) := by decide +kernel
theorem dX1_settle_113 : decode cX1_settle 113 = .ok (.lstore 5, 2) := by decide +kernel
theorem dX1_settle_115 : decode cX1_settle 115 = .ok (.lload 5, 2) := by decide +kernel
theorem dX1_settle_117 : decode cX1_settle 117 = .ok (.aload_n 0, 1) := by decide +kernel
theorem dX1_settle_118 : decode cX1_settle 118 = .ok (.getfield 67, 3) := by decide +kernel
theorem dX1_settle_121 : decode cX1_settle 121 = .ok (.lcmp, 1) := by decide +kernel
theorem dX1_settle_122 : decode cX1_settle 122 = .ok (.ifCond .ge 15, 3) := by decide +kernel
theorem dX1_settle_125 : decode cX1_settle 125 = .ok (.aload_n 0, 1) := by decide +kernel
theorem dX1_settle_126 : decode cX1_settle 126 = .ok (.lload 5, 2) := by decide +kernel
theorem dX1_settle_128 : decode cX1_settle 128 = .ok (.putfield 67, 3) := by decide +kernel
theorem dX1_settle_131 : decode cX1_settle 131 = .ok (.aload_n 0, 1) := by decide +kernel
theorem dX1_settle_132 : decode cX1_settle 132 = .ok (.iload 4, 2) := by decide +kernel
theorem dX1_settle_134 : decode cX1_settle 134 = .ok (.putfield 60, 3) := by decide +kernel
theorem dX1_settle_137 : decode cX1_settle 137 = .ok (.iinc 4 1, 3) := by decide +kernel
theorem dX1_settle_140 : decode cX1_settle 140 = .ok (.goto (-43), 3) := by decide +kernel
theorem dX1_settle_143 : decode cX1_settle 143 = .ok (.return_, 1) := by decide +kernel
theorem c_X1_settle {a0 : Nat} {a1 : Nat} {a2 : Int32} {a3 : Int32} : CWp S N d MX1_settle [.ref a0, .ref a1, .int a2, .int a3] I J P Q ↔ Wp S N d MX1_settle 0 [some (.ref a0), some (.ref a1), some (.int a2), some (.int a3), none, none, none] [] I J P Q := by
  rw [cwp_iff]
  exact ⟨fun h => h.2, fun h => ⟨Nat.le_of_ble_eq_true rfl, h⟩⟩
theorem e_X1_settle_0 {w : Nat} {x1 x2 x3 x4 x5 x6 : Option Value} : Wp S N d MX1_settle 0 [some (.ref w), x1, x2, x3, x4, x5, x6] [] I J P Q ↔ Wp S N d MX1_settle 1 [some (.ref w), x1, x2, x3, x4, x5, x6] [.ref w] I J P Q := wp_lod (len := 1) rfl rfl rfl rfl dX1_settle_0
theorem e_X1_settle_1 {v0 : Nat} {w : Int32} {x0 x1 x3 x4 x5 x6 : Option Value} : Wp S N d MX1_settle 1 [x0, x1, some (.int w), x3, x4, x5, x6] [.ref v0] I J P Q ↔ Wp S N d MX1_settle 2 [x0, x1, some (.int w), x3, x4, x5, x6] [.int w, .ref v0] I J P Q := wp_lod (len := 1) rfl rfl rfl rfl dX1_settle_1
theorem e_X1_settle_2 {v0 : Int32} {v1 : Nat} {w : Int32} {x0 x1 x2 x4 x5 x6 : Option Value} : Wp S N d MX1_settle 2 [x0, x1, x2, some (.int w), x4, x5, x6] [.int v0, .ref v1] I J P Q ↔ Wp S N d MX1_settle 3 [x0, x1, x2, some (.int w), x4, x5, x6] [.int w, .int v0, .ref v1] I J P Q := wp_lod (len := 1) rfl rfl rfl rfl dX1_settle_2
theorem e_X1_settle_3 {v0 : Int32} {v1 : Int32} {v2 : Nat} {x0 x1 x2 x3 x4 x5 x6 : Option Value} : Wp S N (d + 1) MX1_settle 3 [x0, x1, x2, x3, x4, x5, x6] [.int v0, .int v1, .ref v2] I J P Q ↔ Wp S N (d + 1) MX1_settle 6 [x0, x1, x2, x3, x4, x5, x6] [.int (if v0 < v1 then v0 else v1), .ref v2] I J P Q := wp_imin rfl rfl (Nat.le_of_ble_eq_true rfl) dX1_settle_3
theorem e_X1_settle_6 {v0 : Int32} {v1 : Nat} {x0 x1 x2 x3 x4 x5 x6 : Option Value} : Wp S N d MX1_settle 6 [x0, x1, x2, x3, x4, x5, x6] [.int v0, .ref v1] I J P Q ↔ S v1 = 1 ∧ Wp S N d MX1_settle 9 [x0, x1, x2, x3, x4, x5, x6] [] (u2 I v1 1 v0) J P Q := wp_putI rfl rfl rfl rfl dX1_settle_6
theorem e_X1_settle_9 {w : Nat} {x1 x2 x3 x4 x5 x6 : Option Value} : Wp S N d MX1_settle 9 [some (.ref w), x1, x2, x3, x4, x5, x6] [] I J P Q ↔ Wp S N d MX1_settle 10 [some (.ref w), x1, x2, x3, x4, x5, x6] [.ref w] I J P Q := wp_lod (len := 1) rfl rfl rfl rfl dX1_settle_9
theorem e_X1_settle_10 {v0 : Nat} {w : Int32} {x0 x1 x3 x4 x5 x6 : Option Value} : Wp S N d MX1_settle 10 [x0, x1, some (.int w), x3, x4, x5, x6] [.ref v0] I J P Q ↔ Wp S N d MX1_settle 11 [x0, x1, some (.int w), x3, x4, x5, x6] [.int w, .ref v0] I J P Q := wp_lod (len := 1) rfl rfl rfl rfl dX1_settle_10
theorem e_X1_settle_11 {v0 : Int32} {v1 : Nat} {w : Int32} {x0 x1 x2 x4 x5 x6 : Option Value} : Wp S N d MX1_settle 11 [x0, x1, x2, some (.int w), x4, x5, x6] [.int v0, .ref v1] I J P Q ↔ Wp S N d MX1_settle 12 [x0, x1, x2, some (.int w), x4, x5, x6] [.int w, .int v0, .ref v1] I J P Q := wp_lod (len := 1) rfl rfl rfl rfl dX1_settle_11
theorem e_X1_settle_12 {v0 : Int32} {v1 : Int32} {v2 : Nat} {x0 x1 x2 x3 x4 x5 x6 : Option Value} : Wp S N (d + 1) MX1_settle 12 [x0, x1, x2, x3, x4, x5, x6] [.int v0, .int v1, .ref v2] I J P Q ↔ Wp S N (d + 1) MX1_settle 15 [x0, x1, x2, x3, x4, x5, x6] [.int (if v1 < v0 then v0 else v1), .ref v2] I J P Q := wp_imax rfl rfl (Nat.le_of_ble_eq_true rfl) dX1_settle_12
theorem e_X1_settle_15 {v0 : Int32} {v1 : Nat} {x0 x1 x2 x3 x4 x5 x6 : Option Value} : Wp S N d MX1_settle 15 [x0, x1, x2, x3, x4, x5, x6] [.int v0, .ref v1] I J P Q ↔ S v1 = 1 ∧ Wp S N d MX1_settle 18 [x0, x1, x2, x3, x4, x5, x6] [] (u2 I v1 2 v0) J P Q := wp_putI rfl rfl rfl rfl dX1_settle_15
theorem e_X1_settle_18 {w : Nat} {x1 x2 x3 x4 x5 x6 : Option Value} : Wp S N d MX1_settle 18 [some (.ref w), x1, x2, x3, x4, x5, x6] [] I J P Q ↔ Wp S N d MX1_settle 19 [some (.ref w), x1, x2, x3, x4, x5, x6] [.ref w] I J P Q := wp_lod (len := 1) rfl rfl rfl rfl dX1_settle_18
theorem e_X1_settle_19 {v0 : Nat} {w : Nat} {x0 x2 x3 x4 x5 x6 : Option Value} : Wp S N d MX1_settle 19 [x0, some (.ref w), x2, x3, x4, x5, x6] [.ref v0] I J P Q ↔ Wp S N d MX1_settle 20 [x0, some (.ref w), x2, x3, x4, x5, x6] [.ref w, .ref v0] I J P Q := wp_lod (len := 1) rfl rfl rfl rfl dX1_settle_19
theorem e_X1_settle_20 {v0 : Nat} {v1 : Nat} {x0 x1 x2 x3 x4 x5 x6 : Option Value} : Wp S N d MX1_settle 20 [x0, x1, x2, x3, x4, x5, x6] [.ref v0, .ref v1] I J P Q ↔ S v0 = 5 ∧ Wp S N d MX1_settle 23 [x0, x1, x2, x3, x4, x5, x6] [va_rf (P v0 3), .ref v1] I J P Q := wp_getf rfl rfl rfl rfl dX1_settle_20
theorem e_X1_settle_23 {v0 : Nat} {v1 : Nat} {w : Nat} {x1 x2 x3 x4 x5 x6 : Option Value} : Wp S N d MX1_settle 23 [some (.ref w), x1, x2, x3, x4, x5, x6] [.ref v0, .ref v1] I J P Q ↔ Wp S N d MX1_settle 24 [some (.ref w), x1, x2, x3, x4, x5, x6] [.ref w, .ref v0, .ref v1] I J P Q := wp_lod (len := 1) rfl rfl rfl rfl dX1_settle_23
theorem e_X1_settle_24 {v0 : Nat} {v1 : Nat} {v2 : Nat} {x0 x1 x2 x3 x4 x5 x6 : Option Value} : Wp S N d MX1_settle 24 [x0, x1, x2, x3, x4, x5, x6] [.ref v0, .ref v1, .ref v2] I J P Q ↔ S v0 = 1 ∧ Wp S N d MX1_settle 27 [x0, x1, x2, x3, x4, x5, x6] [.int (I v0 1), .ref v1, .ref v2] I J P Q := wp_getf rfl rfl rfl rfl dX1_settle_24
theorem e_X1_settle_27 {v0 : Int32} {v1 : Nat} {v2 : Nat} {x0 x1 x2 x3 x4 x5 x6 : Option Value} : Wp S N d MX1_settle 27 [x0, x1, x2, x3, x4, x5, x6] [.int v0, .ref v1, .ref v2] I J P Q ↔ (S v1 = 10 ∧ vp_in v0 (N v1)) ∧ Wp S N d MX1_settle 28 [x0, x1, x2, x3, x4, x5, x6] [.int (I v1 v0.toNatClampNeg), .ref v2] I J P Q := wp_ald rfl rfl dX1_settle_27
theorem e_X1_settle_28 {v0 : Int32} {v1 : Nat} {w : Nat} {x0 x2 x3 x4 x5 x6 : Option Value} : Wp S N d MX1_settle 28 [x0, some (.ref w), x2, x3, x4, x5, x6] [.int v0, .ref v1] I J P Q ↔ Wp S N d MX1_settle 29 [x0, some (.ref w), x2, x3, x4, x5, x6] [.ref w, .int v0, .ref v1] I J P Q := wp_lod (len := 1) rfl rfl rfl rfl dX1_settle_28
theorem e_X1_settle_29 {v0 : Nat} {v1 : Int32} {v2 : Nat} {x0 x1 x2 x3 x4 x5 x6 : Option Value} : Wp S N d MX1_settle 29 [x0, x1, x2, x3, x4, x5, x6] [.ref v0, .int v1, .ref v2] I J P Q ↔ S v0 = 5 ∧ Wp S N d MX1_settle 32 [x0, x1, x2, x3, x4, x5, x6] [va_rf (P v0 3), .int v1, .ref v2] I J P Q := wp_getf rfl rfl rfl rfl dX1_settle_29
theorem e_X1_settle_32 {v0 : Nat} {v1 : Int32} {v2 : Nat} {w : Nat} {x1 x2 x3 x4 x5 x6 : Option Value} : Wp S N d MX1_settle 32 [some (.ref w), x1, x2, x3, x4, x5, x6] [.ref v0, .int v1, .ref v2] I J P Q ↔ Wp S N d MX1_settle 33 [some (.ref w), x1, x2, x3, x4, x5, x6] [.ref w, .ref v0, .int v1, .ref v2] I J P Q := wp_lod (len := 1) rfl rfl rfl rfl dX1_settle_32
theorem e_X1_settle_33 {v0 : Nat} {v1 : Nat} {v2 : Int32} {v3 : Nat} {x0 x1 x2 x3 x4 x5 x6 : Option Value} : Wp S N d MX1_settle 33 [x0, x1, x2, x3, x4, x5, x6] [.ref v0, .ref v1, .int v2, .ref v3] I J P Q ↔ S v0 = 1 ∧ Wp S N d MX1_settle 36 [x0, x1, x2, x3, x4, x5, x6] [.int (I v0 2), .ref v1, .int v2, .ref v3] I J P Q := wp_getf rfl rfl rfl rfl dX1_settle_33
theorem e_X1_settle_36 {v0 : Int32} {v1 : Nat} {v2 : Int32} {v3 : Nat} {x0 x1 x2 x3 x4 x5 x6 : Option Value} : Wp S N d MX1_settle 36 [x0, x1, x2, x3, x4, x5, x6] [.int v0, .ref v1, .int v2, .ref v3] I J P Q ↔ (S v1 = 10 ∧ vp_in v0 (N v1)) ∧ Wp S N d MX1_settle 37 [x0, x1, x2, x3, x4, x5, x6] [.int (I v1 v0.toNatClampNeg), .int v2, .ref v3] I J P Q := wp_ald rfl rfl dX1_settle_36
theorem e_X1_settle_37 {v0 : Int32} {v1 : Int32} {v2 : Nat} {x0 x1 x2 x3 x4 x5 x6 : Option Value} : Wp S N d MX1_settle 37 [x0, x1, x2, x3, x4, x5, x6] [.int v0, .int v1, .ref v2] I J P Q ↔ Wp S N d MX1_settle 38 [x0, x1, x2, x3, x4, x5, x6] [.int (v1 + v0), .ref v2] I J P Q := wp_alu (len := 1) rfl rfl rfl dX1_settle_37
theorem e_X1_settle_38 {v0 : Int32} {v1 : Nat} {x0 x1 x2 x3 x4 x5 x6 : Option Value} : Wp S N d MX1_settle 38 [x0, x1, x2, x3, x4, x5, x6] [.int v0, .ref v1] I J P Q ↔ S v1 = 1 ∧ Wp S N d MX1_settle 41 [x0, x1, x2, x3, x4, x5, x6] [] (u2 I v1 3 v0) J P Q := wp_putI rfl rfl rfl rfl dX1_settle_38
theorem e_X1_settle_41 {w : Nat} {x1 x2 x3 x4 x5 x6 : Option Value} : Wp S N d MX1_settle 41 [some (.ref w), x1, x2, x3, x4, x5, x6] [] I J P Q ↔ Wp S N d MX1_settle 42 [some (.ref w), x1, x2, x3, x4, x5, x6] [.ref w] I J P Q := wp_lod (len := 1) rfl rfl rfl rfl dX1_settle_41
theorem e_X1_settle_42 {v0 : Nat} {x0 x1 x2 x3 x4 x5 x6 : Option Value} : Wp S N d MX1_settle 42 [x0, x1, x2, x3, x4, x5, x6] [.ref v0] I J P Q ↔ S v0 = 1 ∧ Wp S N d MX1_settle 45 [x0, x1, x2, x3, x4, x5, x6] [va_rf (P v0 0)] I J P Q := wp_getf rfl rfl rfl rfl dX1_settle_42
theorem e_X1_settle_45 {v0 : Nat} {w : Nat} {x0 x2 x3 x4 x5 x6 : Option Value} : Wp S N d MX1_settle 45 [x0, some (.ref w), x2, x3, x4, x5, x6] [.ref v0] I J P Q ↔ Wp S N d MX1_settle 46 [x0, some (.ref w), x2, x3, x4, x5, x6] [.ref w, .ref v0] I J P Q := wp_lod (len := 1) rfl rfl rfl rfl dX1_settle_45
theorem e_X1_settle_46 {v0 : Nat} {v1 : Nat} {w : Nat} {x1 x2 x3 x4 x5 x6 : Option Value} : Wp S N d MX1_settle 46 [some (.ref w), x1, x2, x3, x4, x5, x6] [.ref v0, .ref v1] I J P Q ↔ Wp S N d MX1_settle 47 [some (.ref w), x1, x2, x3, x4, x5, x6] [.ref w, .ref v0, .ref v1] I J P Q := wp_lod (len := 1) rfl rfl rfl rfl dX1_settle_46
theorem e_X1_settle_47 {v0 : Nat} {v1 : Nat} {v2 : Nat} {x0 x1 x2 x3 x4 x5 x6 : Option Value} : Wp S N d MX1_settle 47 [x0, x1, x2, x3, x4, x5, x6] [.ref v0, .ref v1, .ref v2] I J P Q ↔ S v0 = 1 ∧ Wp S N d MX1_settle 50 [x0, x1, x2, x3, x4, x5, x6] [.int (I v0 1), .ref v1, .ref v2] I J P Q := wp_getf rfl rfl rfl rfl dX1_settle_47
theorem e_X1_settle_50 {v0 : Int32} {v1 : Nat} {v2 : Nat} {w : Nat} {x1 x2 x3 x4 x5 x6 : Option Value} : Wp S N d MX1_settle 50 [some (.ref w), x1, x2, x3, x4, x5, x6] [.int v0, .ref v1, .ref v2] I J P Q ↔ Wp S N d MX1_settle 51 [some (.ref w), x1, x2, x3, x4, x5, x6] [.ref w, .int v0, .ref v1, .ref v2] I J P Q := wp_lod (len := 1) rfl rfl rfl rfl dX1_settle_50
theorem e_X1_settle_51 {v0 : Nat} {v1 : Int32} {v2 : Nat} {v3 : Nat} {x0 x1 x2 x3 x4 x5 x6 : Option Value} : Wp S N d MX1_settle 51 [x0, x1, x2, x3, x4, x5, x6] [.ref v0, .int v1, .ref v2, .ref v3] I J P Q ↔ S v0 = 1 ∧ Wp S N d MX1_settle 54 [x0, x1, x2, x3, x4, x5, x6] [.int (I v0 2), .int v1, .ref v2, .ref v3] I J P Q := wp_getf rfl rfl rfl rfl dX1_settle_51
theorem e_X1_settle_54 {v0 : Int32} {v1 : Int32} {v2 : Nat} {v3 : Nat} {x0 x1 x2 x3 x4 x5 x6 : Option Value} : Wp S N (d + 1) MX1_settle 54 [x0, x1, x2, x3, x4, x5, x6] [.int v0, .int v1, .ref v2, .ref v3] I J P Q ↔ S v3 = 0 ∧ CWp S N d MX0_takeTogether [.ref v3, .ref v2, .int v1, .int v0] I J P (fun r I1 J1 P1 => Wp S N (d + 1) MX1_settle 57 [x0, x1, x2, x3, x4, x5, x6] (r.toList ++ []) I1 J1 P1 Q) := wp_callV (M' := MX0_takeTogether) (As := [.ref v2, .int v1, .int v0]) rfl rfl rfl rfl (by decide) (Nat.le_of_ble_eq_true rfl) dX1_settle_54
theorem e_X1_settle_57 {w : Nat} {x1 x2 x3 x4 x5 x6 : Option Value} : Wp S N d MX1_settle 57 [some (.ref w), x1, x2, x3, x4, x5, x6] [] I J P Q ↔ Wp S N d MX1_settle 58 [some (.ref w), x1, x2, x3, x4, x5, x6] [.ref w] I J P Q := wp_lod (len := 1) rfl rfl rfl rfl dX1_settle_57
theorem e_X1_settle_58 {v0 : Nat} {x0 x1 x2 x3 x4 x5 x6 : Option Value} : Wp S N d MX1_settle 58 [x0, x1, x2, x3, x4, x5, x6] [.ref v0] I J P Q ↔ S v0 = 1 ∧ Wp S N d MX1_settle 61 [x0, x1, x2, x3, x4, x5, x6] [va_rf (P v0 0)] I J P Q := wp_getf rfl rfl rfl rfl dX1_settle_58
theorem e_X1_settle_61 {v0 : Nat} {w : Nat} {x0 x2 x3 x4 x5 x6 : Option Value} : Wp S N d MX1_settle 61 [x0, some (.ref w), x2, x3, x4, x5, x6] [.ref v0] I J P Q ↔ Wp S N d MX1_settle 62 [x0, some (.ref w), x2, x3, x4, x5, x6] [.ref w, .ref v0] I J P Q := wp_lod (len := 1) rfl rfl rfl rfl dX1_settle_61
theorem e_X1_settle_62 {v0 : Nat} {v1 : Nat} {x0 x1 x2 x3 x4 x5 x6 : Option Value} : Wp S N d MX1_settle 62 [x0, x1, x2, x3, x4, x5, x6] [.ref v0, .ref v1] I J P Q ↔ S v0 = 5 ∧ Wp S N d MX1_settle 65 [x0, x1, x2, x3, x4, x5, x6] [va_rf (P v0 0), .ref v1] I J P Q := wp_getf rfl rfl rfl rfl dX1_settle_62
theorem e_X1_settle_65 {v0 : Nat} {v1 : Nat} {x0 x1 x2 x3 x4 x5 x6 : Option Value} : Wp S N (d + 1) MX1_settle 65 [x0, x1, x2, x3, x4, x5, x6] [.ref v0, .ref v1] I J P Q ↔ S v1 = 0 ∧ CWp S N d MX0_compute [.ref v1, .ref v0] I J P (fun r I1 J1 P1 => Wp S N (d + 1) MX1_settle 68 [x0, x1, x2, x3, x4, x5, x6] (r.toList ++ []) I1 J1 P1 Q) := wp_callV (M' := MX0_compute) (As := [.ref v0]) rfl rfl rfl rfl (by decide) (Nat.le_of_ble_eq_true rfl) dX1_settle_65
theorem e_X1_settle_68 {w : Nat} {x1 x2 x3 x4 x5 x6 : Option Value} : Wp S N d MX1_settle 68 [some (.ref w), x1, x2, x3, x4, x5, x6] [] I J P Q ↔ Wp S N d MX1_settle 69 [some (.ref w), x1, x2, x3, x4, x5, x6] [.ref w] I J P Q := wp_lod (len := 1) rfl rfl rfl rfl dX1_settle_68
theorem e_X1_settle_69 {v0 : Nat} {w : Nat} {x1 x2 x3 x4 x5 x6 : Option Value} : Wp S N d MX1_settle 69 [some (.ref w), x1, x2, x3, x4, x5, x6] [.ref v0] I J P Q ↔ Wp S N d MX1_settle 70 [some (.ref w), x1, x2, x3, x4, x5, x6] [.ref w, .ref v0] I J P Q := wp_lod (len := 1) rfl rfl rfl rfl dX1_settle_69
theorem e_X1_settle_70 {v0 : Nat} {v1 : Nat} {x0 x1 x2 x3 x4 x5 x6 : Option Value} : Wp S N d MX1_settle 70 [x0, x1, x2, x3, x4, x5, x6] [.ref v0, .ref v1] I J P Q ↔ S v0 = 1 ∧ Wp S N d MX1_settle 73 [x0, x1, x2, x3, x4, x5, x6] [va_rf (P v0 0), .ref v1] I J P Q := wp_getf rfl rfl rfl rfl dX1_settle_70
theorem e_X1_settle_73 {v0 : Nat} {v1 : Nat} {x0 x1 x2 x3 x4 x5 x6 : Option Value} : Wp S N d MX1_settle 73 [x0, x1, x2, x3, x4, x5, x6] [.ref v0, .ref v1] I J P Q ↔ S v0 = 0 ∧ Wp S N d MX1_settle 76 [x0, x1, x2, x3, x4, x5, x6] [.long (J v0 7), .ref v1] I J P Q := wp_getf rfl rfl rfl rfl dX1_settle_73
theorem e_X1_settle_76 {v0 : Int64} {v1 : Nat} {x0 x1 x2 x3 x4 x5 x6 : Option Value} : Wp S N d MX1_settle 76 [x0, x1, x2, x3, x4, x5, x6] [.long v0, .ref v1] I J P Q ↔ S v1 = 1 ∧ Wp S N d MX1_settle 79 [x0, x1, x2, x3, x4, x5, x6] [] I (u2 J v1 4 v0) P Q := wp_putJ rfl rfl rfl rfl dX1_settle_76
theorem e_X1_settle_79 {w : Nat} {x1 x2 x3 x4 x5 x6 : Option Value} : Wp S N d MX1_settle 79 [some (.ref w), x1, x2, x3, x4, x5, x6] [] I J P Q ↔ Wp S N d MX1_settle 80 [some (.ref w), x1, x2, x3, x4, x5, x6] [.ref w] I J P Q := wp_lod (len := 1) rfl rfl rfl rfl dX1_settle_79
theorem e_X1_settle_80 {v0 : Nat} {x0 x1 x2 x3 x4 x5 x6 : Option Value} : Wp S N d MX1_settle 80 [x0, x1, x2, x3, x4, x5, x6] [.ref v0] I J P Q ↔ Wp S N d MX1_settle 81 [x0, x1, x2, x3, x4, x5, x6] [.int 0, .ref v0] I J P Q := wp_iconst (by decide) dX1_settle_80
theorem e_X1_settle_81 {v0 : Int32} {v1 : Nat} {x0 x1 x2 x3 x4 x5 x6 : Option Value} : Wp S N d MX1_settle 81 [x0, x1, x2, x3, x4, x5, x6] [.int v0, .ref v1] I J P Q ↔ S v1 = 1 ∧ Wp S N d MX1_settle 84 [x0, x1, x2, x3, x4, x5, x6] [] (u2 I v1 6 v0) J P Q := wp_putI rfl rfl rfl rfl dX1_settle_81
theorem e_X1_settle_84 {w : Nat} {x1 x2 x3 x4 x5 x6 : Option Value} : Wp S N d MX1_settle 84 [some (.ref w), x1, x2, x3, x4, x5, x6] [] I J P Q ↔ Wp S N d MX1_settle 85 [some (.ref w), x1, x2, x3, x4, x5, x6] [.ref w] I J P Q := wp_lod (len := 1) rfl rfl rfl rfl dX1_settle_84
theorem e_X1_settle_85 {v0 : Nat} {w : Nat} {x1 x2 x3 x4 x5 x6 : Option Value} : Wp S N d MX1_settle 85 [some (.ref w), x1, x2, x3, x4, x5, x6] [.ref v0] I J P Q ↔ Wp S N d MX1_settle 86 [some (.ref w), x1, x2, x3, x4, x5, x6] [.ref w, .ref v0] I J P Q := wp_lod (len := 1) rfl rfl rfl rfl dX1_settle_85
theorem e_X1_settle_86 {v0 : Nat} {v1 : Nat} {w : Nat} {x0 x2 x3 x4 x5 x6 : Option Value} : Wp S N d MX1_settle 86 [x0, some (.ref w), x2, x3, x4, x5, x6] [.ref v0, .ref v1] I J P Q ↔ Wp S N d MX1_settle 87 [x0, some (.ref w), x2, x3, x4, x5, x6] [.ref w, .ref v0, .ref v1] I J P Q := wp_lod (len := 1) rfl rfl rfl rfl dX1_settle_86
theorem e_X1_settle_87 {v0 : Nat} {v1 : Nat} {v2 : Nat} {x0 x1 x2 x3 x4 x5 x6 : Option Value} : Wp S N d MX1_settle 87 [x0, x1, x2, x3, x4, x5, x6] [.ref v0, .ref v1, .ref v2] I J P Q ↔ Wp S N d MX1_settle 88 [x0, x1, x2, x3, x4, x5, x6] [.int 0, .ref v0, .ref v1, .ref v2] I J P Q := wp_iconst (by decide) dX1_settle_87
theorem e_X1_settle_88 {v0 : Int32} {v1 : Nat} {v2 : Nat} {v3 : Nat} {x0 x1 x2 x3 x4 x5 x6 : Option Value} : Wp S N (d + 1) MX1_settle 88 [x0, x1, x2, x3, x4, x5, x6] [.int v0, .ref v1, .ref v2, .ref v3] I J P Q ↔ S v2 = 1 ∧ CWp S N d MX1_dividedTax [.ref v2, .ref v1, .int v0] I J P (fun r I1 J1 P1 => Wp S N (d + 1) MX1_settle 91 [x0, x1, x2, x3, x4, x5, x6] (r.toList ++ [.ref v3]) I1 J1 P1 Q) := wp_callV (M' := MX1_dividedTax) (As := [.ref v1, .int v0]) rfl rfl rfl rfl (by decide) (Nat.le_of_ble_eq_true rfl) dX1_settle_88
theorem e_X1_settle_91 {v0 : Int64} {v1 : Nat} {x0 x1 x2 x3 x4 x5 x6 : Option Value} : Wp S N d MX1_settle 91 [x0, x1, x2, x3, x4, x5, x6] [.long v0, .ref v1] I J P Q ↔ S v1 = 1 ∧ Wp S N d MX1_settle 94 [x0, x1, x2, x3, x4, x5, x6] [] I (u2 J v1 5 v0) P Q := wp_putJ rfl rfl rfl rfl dX1_settle_91
theorem e_X1_settle_94  {x0 x1 x2 x3 x4 x5 x6 : Option Value} : Wp S N d MX1_settle 94 [x0, x1, x2, x3, x4, x5, x6] [] I J P Q ↔ Wp S N d MX1_settle 95 [x0, x1, x2, x3, x4, x5, x6] [.int 1] I J P Q := wp_iconst (by decide) dX1_settle_94
theorem e_X1_settle_95 {v0 : Int32} {x0 x1 x2 x3 x4 x5 x6 : Option Value} : Wp S N d MX1_settle 95 [x0, x1, x2, x3, x4, x5, x6] [.int v0] I J P Q ↔ Wp S N d MX1_settle 97 [x0, x1, x2, kl x3, some (.int v0), x5, x6] [] I J P Q := wp_sto (len := 2) rfl rfl rfl rfl (Nat.le_of_ble_eq_true rfl) rfl dX1_settle_95
theorem e_X1_settle_97 {w : Int32} {x0 x1 x2 x3 x5 x6 : Option Value} : Wp S N d MX1_settle 97 [x0, x1, x2, x3, some (.int w), x5, x6] [] I J P Q ↔ Wp S N d MX1_settle 99 [x0, x1, x2, x3, some (.int w), x5, x6] [.int w] I J P Q := wp_lod (len := 2) rfl rfl rfl rfl dX1_settle_97
theorem e_X1_settle_99 {v0 : Int32} {w : Nat} {x1 x2 x3 x4 x5 x6 : Option Value} : Wp S N d MX1_settle 99 [some (.ref w), x1, x2, x3, x4, x5, x6] [.int v0] I J P Q ↔ Wp S N d MX1_settle 100 [some (.ref w), x1, x2, x3, x4, x5, x6] [.ref w, .int v0] I J P Q := wp_lod (len := 1) rfl rfl rfl rfl dX1_settle_99
theorem e_X1_settle_100 {v0 : Nat} {v1 : Int32} {x0 x1 x2 x3 x4 x5 x6 : Option Value} : Wp S N d MX1_settle 100 [x0, x1, x2, x3, x4, x5, x6] [.ref v0, .int v1] I J P Q ↔ S v0 = 1 ∧ Wp S N d MX1_settle 103 [x0, x1, x2, x3, x4, x5, x6] [.int (I v0 3), .int v1] I J P Q := wp_getf rfl rfl rfl rfl dX1_settle_100
theorem e_X1_settle_103 {v0 : Int32} {v1 : Int32} {x0 x1 x2 x3 x4 x5 x6 : Option Value} : Wp S N d MX1_settle 103 [x0, x1, x2, x3, x4, x5, x6] [.int v0, .int v1] I J P Q ↔ (v0 < v1 → Wp S N d MX1_settle 143 [x0, x1, x2, x3, x4, x5, x6] [] I J P Q) ∧ (¬ v0 < v1 → Wp S N d MX1_settle 106 [x0, x1, x2, x3, x4, x5, x6] [] I J P Q) := wp_br rfl rfl (by decide) dX1_settle_103
theorem e_X1_settle_106 {w : Nat} {x1 x2 x3 x4 x5 x6 : Option Value} : Wp S N d MX1_settle 106 [some (.ref w), x1, x2, x3, x4, x5, x6] [] I J P Q ↔ Wp S N d MX1_settle 107 [some (.ref w), x1, x2, x3, x4, x5, x6] [.ref w] I J P Q := wp_lod (len := 1) rfl rfl rfl rfl dX1_settle_106
theorem e_X1_settle_107 {v0 : Nat} {w : Nat} {x0 x2 x3 x4 x5 x6 : Option Value} : Wp S N d MX1_settle 107 [x0, some (.ref w), x2, x3, x4, x5, x6] [.ref v0] I J P Q ↔ Wp S N d MX1_settle 108 [x0, some (.ref w), x2, x3, x4, x5, x6] [.ref w, .ref v0] I J P Q := wp_lod (len := 1) rfl rfl rfl rfl dX1_settle_107
theorem e_X1_settle_108 {v0 : Nat} {v1 : Nat} {w : Int32} {x0 x1 x2 x3 x5 x6 : Option Value} : Wp S N d MX1_settle 108 [x0, x1, x2, x3, some (.int w), x5, x6] [.ref v0, .ref v1] I J P Q ↔ Wp S N d MX1_settle 110 [x0, x1, x2, x3, some (.int w), x5, x6] [.int w, .ref v0, .ref v1] I J P Q := wp_lod (len := 2) rfl rfl rfl rfl dX1_settle_108
theorem e_X1_settle_110 {v0 : Int32} {v1 : Nat} {v2 : Nat} {x0 x1 x2 x3 x4 x5 x6 : Option Value} : Wp S N (d + 1) MX1_settle 110 [x0, x1, x2, x3, x4, x5, x6] [.int v0, .ref v1, .ref v2] I J P Q ↔ S v2 = 1 ∧ CWp S N d MX1_dividedTax [.ref v2, .ref v1, .int v0] I J P (fun r I1 J1 P1 => Wp S N (d + 1) MX1_settle 113 [x0, x1, x2, x3, x4, x5, x6] (r.toList ++ []) I1 J1 P1 Q) := wp_callV (M' := MX1_dividedTax) (As := [.ref v1, .int v0]) rfl rfl rfl rfl (by decide) (Nat.le_of_ble_eq_true rfl) dX1_settle_110
theorem e_X1_settle_113 {v0 : Int64} {x0 x1 x2 x3 x4 x5 x6 : Option Value} : Wp S N d MX1_settle 113 [x0, x1, x2, x3, x4, x5, x6] [.long v0] I J P Q ↔ Wp S N d MX1_settle 115 [x0, x1, x2, x3, kl x4, some (.long v0), none] [] I J P Q := wp_sto (len := 2) rfl rfl rfl rfl (Nat.le_of_ble_eq_true rfl) rfl dX1_settle_113
theorem e_X1_settle_115 {w : Int64} {x0 x1 x2 x3 x4 x6 : Option Value} : Wp S N d MX1_settle 115 [x0, x1, x2, x3, x4, some (.long w), x6] [] I J P Q ↔ Wp S N d MX1_settle 117 [x0, x1, x2, x3, x4, some (.long w), x6] [.long w] I J P Q := wp_lod (len := 2) rfl rfl rfl rfl dX1_settle_115
theorem e_X1_settle_117 {v0 : Int64} {w : Nat} {x1 x2 x3 x4 x5 x6 : Option Value} : Wp S N d MX1_settle 117 [some (.ref w), x1, x2, x3, x4, x5, x6] [.long v0] I J P Q ↔ Wp S N d MX1_settle 118 [some (.ref w), x1, x2, x3, x4, x5, x6] [.ref w, .long v0] I J P Q := wp_lod (len := 1) rfl rfl rfl rfl dX1_settle_117
theorem e_X1_settle_118 {v0 : Nat} {v1 : Int64} {x0 x1 x2 x3 x4 x5 x6 : Option Value} : Wp S N d MX1_settle 118 [x0, x1, x2, x3, x4, x5, x6] [.ref v0, .long v1] I J P Q ↔ S v0 = 1 ∧ Wp S N d MX1_settle 121 [x0, x1, x2, x3, x4, x5, x6] [.long (J v0 5), .long v1] I J P Q := wp_getf rfl rfl rfl rfl dX1_settle_118
theorem e_X1_settle_121 {v0 : Int64} {v1 : Int64} {x0 x1 x2 x3 x4 x5 x6 : Option Value} : Wp S N d MX1_settle 121 [x0, x1, x2, x3, x4, x5, x6] [.long v0, .long v1] I J P Q ↔ Wp S N d MX1_settle 122 [x0, x1, x2, x3, x4, x5, x6] [.int (lg_cmp v1 v0)] I J P Q := wp_alu (len := 1) rfl rfl rfl dX1_settle_121
theorem e_X1_settle_122 {v0 : Int32} {x0 x1 x2 x3 x4 x5 x6 : Option Value} : Wp S N d MX1_settle 122 [x0, x1, x2, x3, x4, x5, x6] [.int v0] I J P Q ↔ (0 ≤ v0 → Wp S N d MX1_settle 137 [x0, x1, x2, x3, x4, x5, x6] [] I J P Q) ∧ (¬ 0 ≤ v0 → Wp S N d MX1_settle 125 [x0, x1, x2, x3, x4, x5, x6] [] I J P Q) := wp_br rfl rfl (by decide) dX1_settle_122
theorem e_X1_settle_125 {w : Nat} {x1 x2 x3 x4 x5 x6 : Option Value} : Wp S N d MX1_settle 125 [some (.ref w), x1, x2, x3, x4, x5, x6] [] I J P Q ↔ Wp S N d MX1_settle 126 [some (.ref w), x1, x2, x3, x4, x5, x6] [.ref w] I J P Q := wp_lod (len := 1) rfl rfl rfl rfl dX1_settle_125
theorem e_X1_settle_126 {v0 : Nat} {w : Int64} {x0 x1 x2 x3 x4 x6 : Option Value} : Wp S N d MX1_settle 126 [x0, x1, x2, x3, x4, some (.long w), x6] [.ref v0] I J P Q ↔ Wp S N d MX1_settle 128 [x0, x1, x2, x3, x4, some (.long w), x6] [.long w, .ref v0] I J P Q := wp_lod (len := 2) rfl rfl rfl rfl dX1_settle_126
theorem e_X1_settle_128 {v0 : Int64} {v1 : Nat} {x0 x1 x2 x3 x4 x5 x6 : Option Value} : Wp S N d MX1_settle 128 [x0, x1, x2, x3, x4, x5, x6] [.long v0, .ref v1] I J P Q ↔ S v1 = 1 ∧ Wp S N d MX1_settle 131 [x0, x1, x2, x3, x4, x5, x6] [] I (u2 J v1 5 v0) P Q := wp_putJ rfl rfl rfl rfl dX1_settle_128
theorem e_X1_settle_131 {w : Nat} {x1 x2 x3 x4 x5 x6 : Option Value} : Wp S N d MX1_settle 131 [some (.ref w), x1, x2, x3, x4, x5, x6] [] I J P Q ↔ Wp S N d MX1_settle 132 [some (.ref w), x1, x2, x3, x4, x5, x6] [.ref w] I J P Q := wp_lod (len := 1) rfl rfl rfl rfl dX1_settle_131
theorem e_X1_settle_132 {v0 : Nat} {w : Int32} {x0 x1 x2 x3 x5 x6 : Option Value} : Wp S N d MX1_settle 132 [x0, x1, x2, x3, some (.int w), x5, x6] [.ref v0] I J P Q ↔ Wp S N d MX1_settle 134 [x0, x1, x2, x3, some (.int w), x5, x6] [.int w, .ref v0] I J P Q := wp_lod (len := 2) rfl rfl rfl rfl dX1_settle_132
theorem e_X1_settle_134 {v0 : Int32} {v1 : Nat} {x0 x1 x2 x3 x4 x5 x6 : Option Value} : Wp S N d MX1_settle 134 [x0, x1, x2, x3, x4, x5, x6] [.int v0, .ref v1] I J P Q ↔ S v1 = 1 ∧ Wp S N d MX1_settle 137 [x0, x1, x2, x3, x4, x5, x6] [] (u2 I v1 6 v0) J P Q := wp_putI rfl rfl rfl rfl dX1_settle_134
theorem e_X1_settle_137 {w : Int32} {x0 x1 x2 x3 x5 x6 : Option Value} : Wp S N d MX1_settle 137 [x0, x1, x2, x3, some (.int w), x5, x6] [] I J P Q ↔ Wp S N d MX1_settle 140 [x0, x1, x2, kl x3, some (.int (w + 1)), x5, x6] [] I J P Q := wp_inc rfl rfl dX1_settle_137
theorem e_X1_settle_140  {x0 x1 x2 x3 x4 x5 x6 : Option Value} : Wp S N d MX1_settle 140 [x0, x1, x2, x3, x4, x5, x6] [] I J P Q ↔ Wp S N d MX1_settle 97 [x0, x1, x2, x3, x4, x5, x6] [] I J P Q := wp_go (len := 3) rfl (fun _ _ => rfl) rfl (by decide) dX1_settle_140
theorem e_X1_settle_143  {x0 x1 x2 x3 x4 x5 x6 : Option Value} : Wp S N d MX1_settle 143 [x0, x1, x2, x3, x4, x5, x6] [] I J P Q ↔ Q none I J P := wp_vret rfl dX1_settle_143
theorem dX1_dividedTax_0 : decode cX1_dividedTax 0 = .ok (.aload_n 0, 1) := by decide +kernel
theorem dX1_dividedTax_1 : decode cX1_dividedTax 1 = .ok (.getfield 10, 3) := by decide +kernel
theorem dX1_dividedTax_4 : decode cX1_dividedTax 4 = .ok (.aload_n 1, 1) := by decide +kernel
theorem dX1_dividedTax_5 : decode cX1_dividedTax 5 = .ok (.aload_n 0, 1) := by decide +kernel
theorem dX1_dividedTax_6 : decode cX1_dividedTax 6 = .ok (.getfield 22, 3) := by decide +kernel
theorem dX1_dividedTax_9 : decode cX1_dividedTax 9 = .ok (.iload_n 2, 1) := by decide +kernel
theorem dX1_dividedTax_10 : decode cX1_dividedTax 10 = .ok (.invokevirtual 70, 3) := by decide +kernel
theorem dX1_dividedTax_13 : decode cX1_dividedTax 13 = .ok (.aload_n 0, 1) := by decide +kernel
theorem dX1_dividedTax_14 : decode cX1_dividedTax 14 = .ok (.getfield 10, 3) := by decide +kernel
theorem dX1_dividedTax_17 : decode cX1_dividedTax 17 = .ok (.aload_n 1, 1) := by decide +kernel
theorem dX1_dividedTax_18 : decode cX1_dividedTax 18 = .ok (.getfield 45, 3) := by decide +kernel
theorem dX1_dividedTax_21 : decode cX1_dividedTax 21 = .ok (.invokevirtual 49, 3) := by decide +kernel
theorem dX1_dividedTax_24 : decode cX1_dividedTax 24 = .ok (.aload_n 0, 1) := by decide +kernel
theorem dX1_dividedTax_25 : decode cX1_dividedTax 25 = .ok (.getfield 10, 3) := by decide +kernel
theorem dX1_dividedTax_28 : decode cX1_dividedTax 28 = .ok (.getfield 53, 3) := by decide +kernel
theorem dX1_dividedTax_31 : decode cX1_dividedTax 31 = .ok (.lstore_n 3, 1) := by decide +kernel
theorem dX1_dividedTax_32 : decode cX1_dividedTax 32 = .ok (.aload_n 0, 1) := by decide +kernel
theorem dX1_dividedTax_33 : decode cX1_dividedTax 33 = .ok (.getfield 10, 3) := by decide +kernel
theorem dX1_dividedTax_36 : decode cX1_dividedTax 36 = .ok (.aload_n 1, 1) := by decide +kernel
theorem dX1_dividedTax_37 : decode cX1_dividedTax 37 = .ok (.aload_n 0, 1) := by decide +kernel
theorem dX1_dividedTax_38 : decode cX1_dividedTax 38 = .ok (.getfield 29, 3) := by decide +kernel
theorem dX1_dividedTax_41 : decode cX1_dividedTax 41 = .ok (.aload_n 0, 1) := by decide +kernel
theorem dX1_dividedTax_42 : decode cX1_dividedTax 42 = .ok (.getfield 38, 3) := by decide +kernel
theorem dX1_dividedTax_45 : decode cX1_dividedTax 45 = .ok (.iload_n 2, 1) := by decide +kernel
theorem dX1_dividedTax_46 : decode cX1_dividedTax 46 = .ok (.isub, 1) := by decide +kernel
theorem dX1_dividedTax_47 : decode cX1_dividedTax 47 = .ok (.invokevirtual 70, 3) := by decide +kernel
theorem dX1_dividedTax_50 : decode cX1_dividedTax 50 = .ok (.aload_n 0, 1) := by decide +kernel
theorem dX1_dividedTax_51 : decode cX1_dividedTax 51 = .ok (.getfield 10, 3) := by decide +kernel
theorem dX1_dividedTax_54 : decode cX1_dividedTax 54 = .ok (.aload_n 1, 1) := by decide +kernel
theorem dX1_dividedTax_55 : decode cX1_dividedTax 55 = .ok (.getfield 45, 3) := by decide +kernel
theorem dX1_dividedTax_58 : decode cX1_dividedTax 58 = .ok (.invokevirtual 49, 3) := by decide +kernel
theorem dX1_dividedTax_61 : decode cX1_dividedTax 61 = .ok (.lload_n 3, 1) := by decide +kernel
theorem dX1_dividedTax_62 : decode cX1_dividedTax 62 = .ok (.aload_n 0, 1) := by decide +kernel
theorem dX1_dividedTax_63 : decode cX1_dividedTax 63 = .ok (.getfield 10, 3) := by decide +kernel
theorem dX1_dividedTax_66 : decode cX1_dividedTax 66 = .ok (.getfield 53, 3) := by decide +kernel
theorem dX1_dividedTax_69 : decode cX1_dividedTax 69 = .ok (.ladd, 1) := by decide +kernel
theorem dX1_dividedTax_70 : decode cX1_dividedTax 70 = .ok (.lreturn, 1) := by decide +kernel
theorem c_X1_dividedTax {a0 : Nat} {a1 : Nat} {a2 : Int32} : CWp S N d MX1_dividedTax [.ref a0, .ref a1, .int a2] I J P Q ↔ Wp S N d MX1_dividedTax 0 [some (.ref a0), some (.ref a1), some (.int a2), none, none] [] I J P Q := by
  rw [cwp_iff]
  exact ⟨fun h => h.2, fun h => ⟨Nat.le_of_ble_eq_true rfl, h⟩⟩
theorem e_X1_dividedTax_0 {w : Nat} {x1 x2 x3 x4 : Option Value} : Wp S N d MX1_dividedTax 0 [some (.ref w), x1, x2, x3, x4] [] I J P Q ↔ Wp S N d MX1_dividedTax 1 [some (.ref w), x1, x2, x3, x4] [.ref w] I J P Q := wp_lod (len := 1) rfl rfl rfl rfl dX1_dividedTax_0
theorem e_X1_dividedTax_1 {v0 : Nat} {x0 x1 x2 x3 x4 : Option Value} : Wp S N d MX1_dividedTax 1 [x0, x1, x2, x3, x4] [.ref v0] I J P Q ↔ S v0 = 1 ∧ Wp S N d MX1_dividedTax 4 [x0, x1, x2, x3, x4] [va_rf (P v0 0)] I J P Q := wp_getf rfl rfl rfl rfl dX1_dividedTax_1
theorem e_X1_dividedTax_4 {v0 : Nat} {w : Nat} {x0 x2 x3 x4 : Option Value} : Wp S N d MX1_dividedTax 4 [x0, some (.ref w), x2, x3, x4] [.ref v0] I J P Q ↔ Wp S N d MX1_dividedTax 5 [x0, some (.ref w), x2, x3, x4] [.ref w, .ref v0] I J P Q := wp_lod (len := 1) rfl rfl rfl rfl dX1_dividedTax_4
theorem e_X1_dividedTax_5 {v0 : Nat} {v1 : Nat} {w : Nat} {x1 x2 x3 x4 : Option Value} : Wp S N d MX1_dividedTax 5 [some (.ref w), x1, x2, x3, x4] [.ref v0, .ref v1] I J P Q ↔ Wp S N d MX1_dividedTax 6 [some (.ref w), x1, x2, x3, x4] [.ref w, .ref v0, .ref v1] I J P Q := wp_lod (len := 1) rfl rfl rfl rfl dX1_dividedTax_5
theorem e_X1_dividedTax_6 {v0 : Nat} {v1 : Nat} {v2 : Nat} {x0 x1 x2 x3 x4 : Option Value} : Wp S N d MX1_dividedTax 6 [x0, x1, x2, x3, x4] [.ref v0, .ref v1, .ref v2] I J P Q ↔ S v0 = 1 ∧ Wp S N d MX1_dividedTax 9 [x0, x1, x2, x3, x4] [.int (I v0 1), .ref v1, .ref v2] I J P Q := wp_getf rfl rfl rfl rfl dX1_dividedTax_6
theorem e_X1_dividedTax_9 {v0 : Int32} {v1 : Nat} {v2 : Nat} {w : Int32} {x0 x1 x3 x4 : Option Value} : Wp S N d MX1_dividedTax 9 [x0, x1, some (.int w), x3, x4] [.int v0, .ref v1, .ref v2] I J P Q ↔ Wp S N d MX1_dividedTax 10 [x0, x1, some (.int w), x3, x4] [.int w, .int v0, .ref v1, .ref v2] I J P Q := wp_lod (len := 1) rfl rfl rfl rfl dX1_dividedTax_9
theorem e_X1_dividedTax_10 {v0 : Int32} {v1 : Int32} {v2 : Nat} {v3 : Nat} {x0 x1 x2 x3 x4 : Option Value} : Wp S N (d + 1) MX1_dividedTax 10 [x0, x1, x2, x3, x4] [.int v0, .int v1, .ref v2, .ref v3] I J P Q ↔ S v3 = 0 ∧ CWp S N d MX0_takeAlone [.ref v3, .ref v2, .int v1, .int v0] I J P (fun r I1 J1 P1 => Wp S N (d + 1) MX1_dividedTax 13 [x0, x1, x2, x3, x4] (r.toList ++ []) I1 J1 P1 Q) := wp_callV (M' := MX0_takeAlone) (As := [.ref v2, .int v1, .int v0]) rfl rfl rfl rfl (by decide) (Nat.le_of_ble_eq_true rfl) dX1_dividedTax_10
theorem e_X1_dividedTax_13 {w : Nat} {x1 x2 x3 x4 : Option Value} : Wp S N d MX1_dividedTax 13 [some (.ref w), x1, x2, x3, x4] [] I J P Q ↔ Wp S N d MX1_dividedTax 14 [some (.ref w), x1, x2, x3, x4] [.ref w] I J P Q := wp_lod (len := 1) rfl rfl rfl rfl dX1_dividedTax_13
theorem e_X1_dividedTax_14 {v0 : Nat} {x0 x1 x2 x3 x4 : Option Value} : Wp S N d MX1_dividedTax 14 [x0, x1, x2, x3, x4] [.ref v0] I J P Q ↔ S v0 = 1 ∧ Wp S N d MX1_dividedTax 17 [x0, x1, x2, x3, x4] [va_rf (P v0 0)] I J P Q := wp_getf rfl rfl rfl rfl dX1_dividedTax_14
theorem e_X1_dividedTax_17 {v0 : Nat} {w : Nat} {x0 x2 x3 x4 : Option Value} : Wp S N d MX1_dividedTax 17 [x0, some (.ref w), x2, x3, x4] [.ref v0] I J P Q ↔ Wp S N d MX1_dividedTax 18 [x0, some (.ref w), x2, x3, x4] [.ref w, .ref v0] I J P Q := wp_lod (len := 1) rfl rfl rfl rfl dX1_dividedTax_17
theorem e_X1_dividedTax_18 {v0 : Nat} {v1 : Nat} {x0 x1 x2 x3 x4 : Option Value} : Wp S N d MX1_dividedTax 18 [x0, x1, x2, x3, x4] [.ref v0, .ref v1] I J P Q ↔ S v0 = 5 ∧ Wp S N d MX1_dividedTax 21 [x0, x1, x2, x3, x4] [va_rf (P v0 0), .ref v1] I J P Q := wp_getf rfl rfl rfl rfl dX1_dividedTax_18
theorem e_X1_dividedTax_21 {v0 : Nat} {v1 : Nat} {x0 x1 x2 x3 x4 : Option Value} : Wp S N (d + 1) MX1_dividedTax 21 [x0, x1, x2, x3, x4] [.ref v0, .ref v1] I J P Q ↔ S v1 = 0 ∧ CWp S N d MX0_compute [.ref v1, .ref v0] I J P (fun r I1 J1 P1 => Wp S N (d + 1) MX1_dividedTax 24 [x0, x1, x2, x3, x4] (r.toList ++ []) I1 J1 P1 Q) := wp_callV (M' := MX0_compute) (As := [.ref v0]) rfl rfl rfl rfl (by decide) (Nat.le_of_ble_eq_true rfl) dX1_dividedTax_21
theorem e_X1_dividedTax_24 {w : Nat} {x1 x2 x3 x4 : Option Value} : Wp S N d MX1_dividedTax 24 [some (.ref w), x1, x2, x3, x4] [] I J P Q ↔ Wp S N d MX1_dividedTax 25 [some (.ref w), x1, x2, x3, x4] [.ref w] I J P Q := wp_lod (len := 1) rfl rfl rfl rfl dX1_dividedTax_24
theorem e_X1_dividedTax_25 {v0 : Nat} {x0 x1 x2 x3 x4 : Option Value} : Wp S N d MX1_dividedTax 25 [x0, x1, x2, x3, x4] [.ref v0] I J P Q ↔ S v0 = 1 ∧ Wp S N d MX1_dividedTax 28 [x0, x1, x2, x3, x4] [va_rf (P v0 0)] I J P Q := wp_getf rfl rfl rfl rfl dX1_dividedTax_25
theorem e_X1_dividedTax_28 {v0 : Nat} {x0 x1 x2 x3 x4 : Option Value} : Wp S N d MX1_dividedTax 28 [x0, x1, x2, x3, x4] [.ref v0] I J P Q ↔ S v0 = 0 ∧ Wp S N d MX1_dividedTax 31 [x0, x1, x2, x3, x4] [.long (J v0 7)] I J P Q := wp_getf rfl rfl rfl rfl dX1_dividedTax_28
theorem e_X1_dividedTax_31 {v0 : Int64} {x0 x1 x2 x3 x4 : Option Value} : Wp S N d MX1_dividedTax 31 [x0, x1, x2, x3, x4] [.long v0] I J P Q ↔ Wp S N d MX1_dividedTax 32 [x0, x1, kl x2, some (.long v0), none] [] I J P Q := wp_sto (len := 1) rfl rfl rfl rfl (Nat.le_of_ble_eq_true rfl) rfl dX1_dividedTax_31
theorem e_X1_dividedTax_32 {w : Nat} {x1 x2 x3 x4 : Option Value} : Wp S N d MX1_dividedTax 32 [some (.ref w), x1, x2, x3, x4] [] I J P Q ↔ Wp S N d MX1_dividedTax 33 [some (.ref w), x1, x2, x3, x4] [.ref w] I J P Q := wp_lod (len := 1) rfl rfl rfl rfl dX1_dividedTax_32
theorem e_X1_dividedTax_33 {v0 : Nat} {x0 x1 x2 x3 x4 : Option Value} : Wp S N d MX1_dividedTax 33 [x0, x1, x2, x3, x4] [.ref v0] I J P Q ↔ S v0 = 1 ∧ Wp S N d MX1_dividedTax 36 [x0, x1, x2, x3, x4] [va_rf (P v0 0)] I J P Q := wp_getf rfl rfl rfl rfl dX1_dividedTax_33
theorem e_X1_dividedTax_36 {v0 : Nat} {w : Nat} {x0 x2 x3 x4 : Option Value} : Wp S N d MX1_dividedTax 36 [x0, some (.ref w), x2, x3, x4] [.ref v0] I J P Q ↔ Wp S N d MX1_dividedTax 37 [x0, some (.ref w), x2, x3, x4] [.ref w, .ref v0] I J P Q := wp_lod (len := 1) rfl rfl rfl rfl dX1_dividedTax_36
theorem e_X1_dividedTax_37 {v0 : Nat} {v1 : Nat} {w : Nat} {x1 x2 x3 x4 : Option Value} : Wp S N d MX1_dividedTax 37 [some (.ref w), x1, x2, x3, x4] [.ref v0, .ref v1] I J P Q ↔ Wp S N d MX1_dividedTax 38 [some (.ref w), x1, x2, x3, x4] [.ref w, .ref v0, .ref v1] I J P Q := wp_lod (len := 1) rfl rfl rfl rfl dX1_dividedTax_37
theorem e_X1_dividedTax_38 {v0 : Nat} {v1 : Nat} {v2 : Nat} {x0 x1 x2 x3 x4 : Option Value} : Wp S N d MX1_dividedTax 38 [x0, x1, x2, x3, x4] [.ref v0, .ref v1, .ref v2] I J P Q ↔ S v0 = 1 ∧ Wp S N d MX1_dividedTax 41 [x0, x1, x2, x3, x4] [.int (I v0 2), .ref v1, .ref v2] I J P Q := wp_getf rfl rfl rfl rfl dX1_dividedTax_38
theorem e_X1_dividedTax_41 {v0 : Int32} {v1 : Nat} {v2 : Nat} {w : Nat} {x1 x2 x3 x4 : Option Value} : Wp S N d MX1_dividedTax 41 [some (.ref w), x1, x2, x3, x4] [.int v0, .ref v1, .ref v2] I J P Q ↔ Wp S N d MX1_dividedTax 42 [some (.ref w), x1, x2, x3, x4] [.ref w, .int v0, .ref v1, .ref v2] I J P Q := wp_lod (len := 1) rfl rfl rfl rfl dX1_dividedTax_41
theorem e_X1_dividedTax_42 {v0 : Nat} {v1 : Int32} {v2 : Nat} {v3 : Nat} {x0 x1 x2 x3 x4 : Option Value} : Wp S N d MX1_dividedTax 42 [x0, x1, x2, x3, x4] [.ref v0, .int v1, .ref v2, .ref v3] I J P Q ↔ S v0 = 1 ∧ Wp S N d MX1_dividedTax 45 [x0, x1, x2, x3, x4] [.int (I v0 3), .int v1, .ref v2, .ref v3] I J P Q := wp_getf rfl rfl rfl rfl dX1_dividedTax_42
theorem e_X1_dividedTax_45 {v0 : Int32} {v1 : Int32} {v2 : Nat} {v3 : Nat} {w : Int32} {x0 x1 x3 x4 : Option Value} : Wp S N d MX1_dividedTax 45 [x0, x1, some (.int w), x3, x4] [.int v0, .int v1, .ref v2, .ref v3] I J P Q ↔ Wp S N d MX1_dividedTax 46 [x0, x1, some (.int w), x3, x4] [.int w, .int v0, .int v1, .ref v2, .ref v3] I J P Q := wp_lod (len := 1) rfl rfl rfl rfl dX1_dividedTax_45
theorem e_X1_dividedTax_46 {v0 : Int32} {v1 : Int32} {v2 : Int32} {v3 : Nat} {v4 : Nat} {x0 x1 x2 x3 x4 : Option Value} : Wp S N d MX1_dividedTax 46 [x0, x1, x2, x3, x4] [.int v0, .int v1, .int v2, .ref v3, .ref v4] I J P Q ↔ Wp S N d MX1_dividedTax 47 [x0, x1, x2, x3, x4] [.int (v1 - v0), .int v2, .ref v3, .ref v4] I J P Q := wp_alu (len := 1) rfl rfl rfl dX1_dividedTax_46
theorem e_X1_dividedTax_47 {v0 : Int32} {v1 : Int32} {v2 : Nat} {v3 : Nat} {x0 x1 x2 x3 x4 : Option Value} : Wp S N (d + 1) MX1_dividedTax 47 [x0, x1, x2, x3, x4] [.int v0, .int v1, .ref v2, .ref v3] I J P Q ↔ S v3 = 0 ∧ CWp S N d MX0_takeAlone [.ref v3, .ref v2, .int v1, .int v0] I J P (fun r I1 J1 P1 => Wp S N (d + 1) MX1_dividedTax 50 [x0, x1, x2, x3, x4] (r.toList ++ []) I1 J1 P1 Q) := wp_callV (M' := MX0_takeAlone) (As := [.ref v2, .int v1, .int v0]) rfl rfl rfl rfl (by decide) (Nat.le_of_ble_eq_true rfl) dX1_dividedTax_47
theorem e_X1_dividedTax_50 {w : Nat} {x1 x2 x3 x4 : Option Value} : Wp S N d MX1_dividedTax 50 [some (.ref w), x1, x2, x3, x4] [] I J P Q ↔ Wp S N d MX1_dividedTax 51 [some (.ref w), x1, x2, x3, x4] [.ref w] I J P Q := wp_lod (len := 1) rfl rfl rfl rfl dX1_dividedTax_50
theorem e_X1_dividedTax_51 {v0 : Nat} {x0 x1 x2 x3 x4 : Option Value} : Wp S N d MX1_dividedTax 51 [x0, x1, x2, x3, x4] [.ref v0] I J P Q ↔ S v0 = 1 ∧ Wp S N d MX1_dividedTax 54 [x0, x1, x2, x3, x4] [va_rf (P v0 0)] I J P Q := wp_getf rfl rfl rfl rfl dX1_dividedTax_51
theorem e_X1_dividedTax_54 {v0 : Nat} {w : Nat} {x0 x2 x3 x4 : Option Value} : Wp S N d MX1_dividedTax 54 [x0, some (.ref w), x2, x3, x4] [.ref v0] I J P Q ↔ Wp S N d MX1_dividedTax 55 [x0, some (.ref w), x2, x3, x4] [.ref w, .ref v0] I J P Q := wp_lod (len := 1) rfl rfl rfl rfl dX1_dividedTax_54
theorem e_X1_dividedTax_55 {v0 : Nat} {v1 : Nat} {x0 x1 x2 x3 x4 : Option Value} : Wp S N d MX1_dividedTax 55 [x0, x1, x2, x3, x4] [.ref v0, .ref v1] I J P Q ↔ S v0 = 5 ∧ Wp S N d MX1_dividedTax 58 [x0, x1, x2, x3, x4] [va_rf (P v0 0), .ref v1] I J P Q := wp_getf rfl rfl rfl rfl dX1_dividedTax_55
theorem e_X1_dividedTax_58 {v0 : Nat} {v1 : Nat} {x0 x1 x2 x3 x4 : Option Value} : Wp S N (d + 1) MX1_dividedTax 58 [x0, x1, x2, x3, x4] [.ref v0, .ref v1] I J P Q ↔ S v1 = 0 ∧ CWp S N d MX0_compute [.ref v1, .ref v0] I J P (fun r I1 J1 P1 => Wp S N (d + 1) MX1_dividedTax 61 [x0, x1, x2, x3, x4] (r.toList ++ []) I1 J1 P1 Q) := wp_callV (M' := MX0_compute) (As := [.ref v0]) rfl rfl rfl rfl (by decide) (Nat.le_of_ble_eq_true rfl) dX1_dividedTax_58
theorem e_X1_dividedTax_61 {w : Int64} {x0 x1 x2 x4 : Option Value} : Wp S N d MX1_dividedTax 61 [x0, x1, x2, some (.long w), x4] [] I J P Q ↔ Wp S N d MX1_dividedTax 62 [x0, x1, x2, some (.long w), x4] [.long w] I J P Q := wp_lod (len := 1) rfl rfl rfl rfl dX1_dividedTax_61
theorem e_X1_dividedTax_62 {v0 : Int64} {w : Nat} {x1 x2 x3 x4 : Option Value} : Wp S N d MX1_dividedTax 62 [some (.ref w), x1, x2, x3, x4] [.long v0] I J P Q ↔ Wp S N d MX1_dividedTax 63 [some (.ref w), x1, x2, x3, x4] [.ref w, .long v0] I J P Q := wp_lod (len := 1) rfl rfl rfl rfl dX1_dividedTax_62
theorem e_X1_dividedTax_63 {v0 : Nat} {v1 : Int64} {x0 x1 x2 x3 x4 : Option Value} : Wp S N d MX1_dividedTax 63 [x0, x1, x2, x3, x4] [.ref v0, .long v1] I J P Q ↔ S v0 = 1 ∧ Wp S N d MX1_dividedTax 66 [x0, x1, x2, x3, x4] [va_rf (P v0 0), .long v1] I J P Q := wp_getf rfl rfl rfl rfl dX1_dividedTax_63
theorem e_X1_dividedTax_66 {v0 : Nat} {v1 : Int64} {x0 x1 x2 x3 x4 : Option Value} : Wp S N d MX1_dividedTax 66 [x0, x1, x2, x3, x4] [.ref v0, .long v1] I J P Q ↔ S v0 = 0 ∧ Wp S N d MX1_dividedTax 69 [x0, x1, x2, x3, x4] [.long (J v0 7), .long v1] I J P Q := wp_getf rfl rfl rfl rfl dX1_dividedTax_66
theorem e_X1_dividedTax_69 {v0 : Int64} {v1 : Int64} {x0 x1 x2 x3 x4 : Option Value} : Wp S N d MX1_dividedTax 69 [x0, x1, x2, x3, x4] [.long v0, .long v1] I J P Q ↔ Wp S N d MX1_dividedTax 70 [x0, x1, x2, x3, x4] [.long (v1 + v0)] I J P Q := wp_alu (len := 1) rfl rfl rfl dX1_dividedTax_69
theorem e_X1_dividedTax_70 {v0 : Int64} {x0 x1 x2 x3 x4 : Option Value} : Wp S N d MX1_dividedTax 70 [x0, x1, x2, x3, x4] [.long v0] I J P Q ↔ Q (some (.long v0)) I J P := wp_lret rfl dX1_dividedTax_70
theorem dX1_prefersTogether_0 : decode cX1_prefersTogether 0 = .ok (.aload_n 0, 1) := by decide +kernel
theorem dX1_prefersTogether_1 : decode cX1_prefersTogether 1 = .ok (.getfield 57, 3) := by decide +kernel
theorem dX1_prefersTogether_4 : decode cX1_prefersTogether 4 = .ok (.aload_n 0, 1) := by decide +kernel
theorem dX1_prefersTogether_5 : decode cX1_prefersTogether 5 = .ok (.getfield 67, 3) := by decide +kernel
theorem dX1_prefersTogether_8 : decode cX1_prefersTogether 8 = .ok (.lcmp, 1) := by decide +kernel
theorem dX1_prefersTogether_9 : decode cX1_prefersTogether 9 = .ok (.ifCond .ge 7, 3) := by decide +kernel
theorem dX1_prefersTogether_12 : decode cX1_prefersTogether 12 = .ok (.iconst 1, 1) := by decide +kernel
theorem dX1_prefersTogether_13 : decode cX1_prefersTogether 13 = .ok (.goto 4, 3) := by decide +kernel
theorem dX1_prefersTogether_16 : decode cX1_prefersTogether 16 = .ok (.iconst 0, 1) := by decide +kernel
theorem dX1_prefersTogether_17 : decode cX1_prefersTogether 17 = .ok (.ireturn, 1) := by decide +kernel
theorem c_X1_prefersTogether {a0 : Nat} : CWp S N d MX1_prefersTogether [.ref a0] I J P Q ↔ Wp S N d MX1_prefersTogether 0 [some (.ref a0)] [] I J P Q := by
  rw [cwp_iff]
  exact ⟨fun h => h.2, fun h => ⟨Nat.le_of_ble_eq_true rfl, h⟩⟩
theorem e_X1_prefersTogether_0 {w : Nat} : Wp S N d MX1_prefersTogether 0 [some (.ref w)] [] I J P Q ↔ Wp S N d MX1_prefersTogether 1 [some (.ref w)] [.ref w] I J P Q := wp_lod (len := 1) rfl rfl rfl rfl dX1_prefersTogether_0
theorem e_X1_prefersTogether_1 {v0 : Nat} {x0 : Option Value} : Wp S N d MX1_prefersTogether 1 [x0] [.ref v0] I J P Q ↔ S v0 = 1 ∧ Wp S N d MX1_prefersTogether 4 [x0] [.long (J v0 4)] I J P Q := wp_getf rfl rfl rfl rfl dX1_prefersTogether_1
theorem e_X1_prefersTogether_4 {v0 : Int64} {w : Nat} : Wp S N d MX1_prefersTogether 4 [some (.ref w)] [.long v0] I J P Q ↔ Wp S N d MX1_prefersTogether 5 [some (.ref w)] [.ref w, .long v0] I J P Q := wp_lod (len := 1) rfl rfl rfl rfl dX1_prefersTogether_4
theorem e_X1_prefersTogether_5 {v0 : Nat} {v1 : Int64} {x0 : Option Value} : Wp S N d MX1_prefersTogether 5 [x0] [.ref v0, .long v1] I J P Q ↔ S v0 = 1 ∧ Wp S N d MX1_prefersTogether 8 [x0] [.long (J v0 5), .long v1] I J P Q := wp_getf rfl rfl rfl rfl dX1_prefersTogether_5
theorem e_X1_prefersTogether_8 {v0 : Int64} {v1 : Int64} {x0 : Option Value} : Wp S N d MX1_prefersTogether 8 [x0] [.long v0, .long v1] I J P Q ↔ Wp S N d MX1_prefersTogether 9 [x0] [.int (lg_cmp v1 v0)] I J P Q := wp_alu (len := 1) rfl rfl rfl dX1_prefersTogether_8
theorem e_X1_prefersTogether_9 {v0 : Int32} {x0 : Option Value} : Wp S N d MX1_prefersTogether 9 [x0] [.int v0] I J P Q ↔ (0 ≤ v0 → Wp S N d MX1_prefersTogether 16 [x0] [] I J P Q) ∧ (¬ 0 ≤ v0 → Wp S N d MX1_prefersTogether 12 [x0] [] I J P Q) := wp_br rfl rfl (by decide) dX1_prefersTogether_9
theorem e_X1_prefersTogether_12  {x0 : Option Value} : Wp S N d MX1_prefersTogether 12 [x0] [] I J P Q ↔ Wp S N d MX1_prefersTogether 13 [x0] [.int 1] I J P Q := wp_iconst (by decide) dX1_prefersTogether_12
theorem e_X1_prefersTogether_13 {v0 : Int32} {x0 : Option Value} : Wp S N d MX1_prefersTogether 13 [x0] [.int v0] I J P Q ↔ Wp S N d MX1_prefersTogether 17 [x0] [.int v0] I J P Q := wp_go (len := 3) rfl (fun _ _ => rfl) rfl (by decide) dX1_prefersTogether_13
theorem e_X1_prefersTogether_16  {x0 : Option Value} : Wp S N d MX1_prefersTogether 16 [x0] [] I J P Q ↔ Wp S N d MX1_prefersTogether 17 [x0] [.int 0] I J P Q := wp_iconst (by decide) dX1_prefersTogether_16
theorem e_X1_prefersTogether_17 {v0 : Int32} (hb : isB v0) {x0 : Option Value} : Wp S N d MX1_prefersTogether 17 [x0] [.int v0] I J P Q ↔ Q (some (.int v0)) I J P := wp_zret rfl dX1_prefersTogether_17 hb
theorem dX1_carryBoth_0 : decode cX1_carryBoth 0 = .ok (.aload_n 0, 1) := by decide +kernel
theorem dX1_carryBoth_1 : decode cX1_carryBoth 1 = .ok (.invokevirtual 73, 3) := by decide +kernel
theorem dX1_carryBoth_4 : decode cX1_carryBoth 4 = .ok (.ifCond .eq 57, 3) := by decide +kernel
theorem dX1_carryBoth_7 : decode cX1_carryBoth 7 = .ok (.aload_n 0, 1) := by decide +kernel
theorem dX1_carryBoth_8 : decode cX1_carryBoth 8 = .ok (.getfield 10, 3) := by decide +kernel
theorem dX1_carryBoth_11 : decode cX1_carryBoth 11 = .ok (.aload_n 1, 1) := by decide +kernel
theorem dX1_carryBoth_12 : decode cX1_carryBoth 12 = .ok (.aload_n 0, 1) := by decide +kernel
theorem dX1_carryBoth_13 : decode cX1_carryBoth 13 = .ok (.getfield 22, 3) := by decide +kernel
theorem dX1_carryBoth_16 : decode cX1_carryBoth 16 = .ok (.aload_n 0, 1) := by decide +kernel
theorem dX1_carryBoth_17 : decode cX1_carryBoth 17 = .ok (.getfield 29, 3) := by decide +kernel
theorem dX1_carryBoth_20 : decode cX1_carryBoth 20 = .ok (.invokevirtual 41, 3) := by decide +kernel
theorem dX1_carryBoth_23 : decode cX1_carryBoth 23 = .ok (.aload_n 0, 1) := by decide +kernel
theorem dX1_carryBoth_24 : decode cX1_carryBoth 24 = .ok (.getfield 10, 3) := by decide +kernel
theorem dX1_carryBoth_27 : decode cX1_carryBoth 27 = .ok (.aload_n 1, 1) := by decide +kernel
theorem dX1_carryBoth_28 : decode cX1_carryBoth 28 = .ok (.getfield 45, 3) := by decide +kernel
theorem dX1_carryBoth_31 : decode cX1_carryBoth 31 = .ok (.invokevirtual 49, 3) := by decide +kernel
theorem dX1_carryBoth_34 : decode cX1_carryBoth 34 = .ok (.aload_n 1, 1) := by decide +kernel
theorem dX1_carryBoth_35 : decode cX1_carryBoth 35 = .ok (.getfield 45, 3) := by decide +kernel
theorem dX1_carryBoth_38 : decode cX1_carryBoth 38 = .ok (.aload_n 0, 1) := by decide +kernel
theorem dX1_carryBoth_39 : decode cX1_carryBoth 39 = .ok (.getfield 22, 3) := by decide +kernel
theorem dX1_carryBoth_42 : decode cX1_carryBoth 42 = .ok (.aload_n 0, 1) := by decide +kernel
theorem dX1_carryBoth_43 : decode cX1_carryBoth 43 = .ok (.getfield 10, 3) := by decide +kernel
theorem dX1_carryBoth_46 : decode cX1_carryBoth 46 = .ok (.invokevirtual 77, 3) := by decide +kernel
theorem dX1_carryBoth_49 : decode cX1_carryBoth 49 = .ok (.aload_n 1, 1) := by decide +kernel
theorem dX1_carryBoth_50 : decode cX1_carryBoth 50 = .ok (.getfield 45, 3) := by decide +kernel
theorem dX1_carryBoth_53 : decode cX1_carryBoth 53 = .ok (.aload_n 0, 1) := by decide +kernel
theorem dX1_carryBoth_54 : decode cX1_carryBoth 54 = .ok (.getfield 29, 3) := by decide +kernel
theorem dX1_carryBoth_57 : decode cX1_carryBoth 57 = .ok (.invokevirtual 83, 3) := by decide +kernel
theorem dX1_carryBoth_60 : decode cX1_carryBoth 60 = .ok (.return_, 1) := by decide +kernel
theorem dX1_carryBoth_61 : decode cX1_carryBoth 61 = .ok (.aload_n 0, 1) := by decide +kernel
theorem dX1_carryBoth_62 : decode cX1_carryBoth 62 = .ok (.getfield 10, 3) := by decide +kernel
theorem dX1_carryBoth_65 : decode cX1_carryBoth 65 = .ok (.aload_n 1, 1) := by decide +kernel
theorem dX1_carryBoth_66 : decode cX1_carryBoth 66 = .ok (.aload_n 0, 1) := by decide +kernel
theorem dX1_carryBoth_67 : decode cX1_carryBoth 67 = .ok (.getfield 22, 3) := by decide +kernel
theorem dX1_carryBoth_70 : decode cX1_carryBoth 70 = .ok (.aload_n 0, 1) := by decide +kernel
theorem dX1_carryBoth_71 : decode cX1_carryBoth 71 = .ok (.getfield 60, 3) := by decide +kernel
theorem dX1_carryBoth_74 : decode cX1_carryBoth 74 = .ok (.invokevirtual 70, 3) := by decide +kernel
theorem dX1_carryBoth_77 : decode cX1_carryBoth 77 = .ok (.aload_n 0, 1) := by decide +kernel
theorem dX1_carryBoth_78 : decode cX1_carryBoth 78 = .ok (.getfield 10, 3) := by decide +kernel
theorem dX1_carryBoth_81 : decode cX1_carryBoth 81 = .ok (.aload_n 1, 1) := by decide +kernel
theorem dX1_carryBoth_82 : decode cX1_carryBoth 82 = .ok (.getfield 45, 3) := by decide +kernel
theorem dX1_carryBoth_85 : decode cX1_carryBoth 85 = .ok (.invokevirtual 49, 3) := by decide +kernel
theorem dX1_carryBoth_88 : decode cX1_carryBoth 88 = .ok (.aload_n 1, 1) := by decide +kernel
theorem dX1_carryBoth_89 : decode cX1_carryBoth 89 = .ok (.getfield 45, 3) := by decide +kernel
theorem dX1_carryBoth_92 : decode cX1_carryBoth 92 = .ok (.aload_n 0, 1) := by decide +kernel
theorem dX1_carryBoth_93 : decode cX1_carryBoth 93 = .ok (.getfield 22, 3) := by decide +kernel
theorem dX1_carryBoth_96 : decode cX1_carryBoth 96 = .ok (.aload_n 0, 1) := by decide +kernel
theorem dX1_carryBoth_97 : decode cX1_carryBoth 97 = .ok (.getfield 10, 3) := by decide +kernel
theorem dX1_carryBoth_100 : decode cX1_carryBoth 100 = .ok (.invokevirtual 77, 3) := by decide +kernel
theorem dX1_carryBoth_103 : decode cX1_carryBoth 103 = .ok (.aload_n 0, 1) := by decide +kernel
theorem dX1_carryBoth_104 : decode cX1_carryBoth 104 = .ok (.getfield 10, 3) := by decide +kernel
theorem dX1_carryBoth_107 : decode cX1_carryBoth 107 = .ok (.aload_n 1, 1) := by decide +kernel
theorem dX1_carryBoth_108 : decode cX1_carryBoth 108 = .ok (.aload_n 0, 1) := by decide +kernel
theorem dX1_carryBoth_109 : decode cX1_carryBoth 109 = .ok (.getfield 29, 3) := by decide +kernel
theorem dX1_carryBoth_112 : decode cX1_carryBoth 112 = .ok (.aload_n 0, 1) := by decide +kernel
theorem dX1_carryBoth_113 : decode cX1_carryBoth 113 = .ok (.getfield 38, 3) := by decide +kernel
theorem dX1_carryBoth_116 : decode cX1_carryBoth 116 = .ok (.aload_n 0, 1) := by decide +kernel
theorem dX1_carryBoth_117 : decode cX1_carryBoth 117 = .ok (.getfield 60, 3) := by decide +kernel
theorem dX1_carryBoth_120 : decode cX1_carryBoth 120 = .ok (.isub, 1) := by decide +kernel
theorem dX1_carryBoth_121 : decode cX1_carryBoth 121 = .ok (.invokevirtual 70, 3) := by decide +kernel
theorem dX1_carryBoth_124 : decode cX1_carryBoth 124 = .ok (.aload_n 0, 1) := by decide +kernel
theorem dX1_carryBoth_125 : decode cX1_carryBoth 125 = .ok (.getfield 10, 3) := by decide +kernel
theorem dX1_carryBoth_128 : decode cX1_carryBoth 128 = .ok (.aload_n 1, 1) := by decide +kernel
theorem dX1_carryBoth_129 : decode cX1_carryBoth 129 = .ok (.getfield 45, 3) := by decide +kernel
theorem dX1_carryBoth_132 : decode cX1_carryBoth 132 = .ok (.invokevirtual 49, 3) := by decide +kernel
theorem dX1_carryBoth_135 : decode cX1_carryBoth 135 = .ok (.aload_n 1, 1) := by decide +kernel
theorem dX1_carryBoth_136 : decode cX1_carryBoth 136 = .ok (.getfield 45, 3) := by decide +kernel
theorem dX1_carryBoth_139 : decode cX1_carryBoth 139 = .ok (.aload_n 0, 1) := by decide +kernel
theorem dX1_carryBoth_140 : decode cX1_carryBoth 140 = .ok (.getfield 29, 3) := by decide +kernel
theorem dX1_carryBoth_143 : decode cX1_carryBoth 143 = .ok (.aload_n 0, 1) := by decide +kernel
theorem dX1_carryBoth_144 : decode cX1_carryBoth 144 = .ok (.getfield 10, 3) := by decide +kernel
theorem dX1_carryBoth_147 : decode cX1_carryBoth 147 = .ok (.invokevirtual 77, 3) := by decide +kernel
theorem dX1_carryBoth_150 : decode cX1_carryBoth 150 = .ok (.return_, 1) := by decide +kernel
theorem c_X1_carryBoth {a0 : Nat} {a1 : Nat} : CWp S N d MX1_carryBoth [.ref a0, .ref a1] I J P Q ↔ Wp S N d MX1_carryBoth 0 [some (.ref a0), some (.ref a1)] [] I J P Q := by
  rw [cwp_iff]
  exact ⟨fun h => h.2, fun h => ⟨Nat.le_of_ble_eq_true rfl, h⟩⟩
theorem e_X1_carryBoth_0 {w : Nat} {x1 : Option Value} : Wp S N d MX1_carryBoth 0 [some (.ref w), x1] [] I J P Q ↔ Wp S N d MX1_carryBoth 1 [some (.ref w), x1] [.ref w] I J P Q := wp_lod (len := 1) rfl rfl rfl rfl dX1_carryBoth_0
theorem e_X1_carryBoth_1 {v0 : Nat} {x0 x1 : Option Value} : Wp S N (d + 1) MX1_carryBoth 1 [x0, x1] [.ref v0] I J P Q ↔ S v0 = 1 ∧ CWp S N d MX1_prefersTogether [.ref v0] I J P (fun r I1 J1 P1 => Wp S N (d + 1) MX1_carryBoth 4 [x0, x1] (r.toList ++ []) I1 J1 P1 Q) := wp_callV (M' := MX1_prefersTogether) (As := []) rfl rfl rfl rfl (by decide) (Nat.le_of_ble_eq_true rfl) dX1_carryBoth_1
theorem e_X1_carryBoth_4 {v0 : Int32} {x0 x1 : Option Value} : Wp S N d MX1_carryBoth 4 [x0, x1] [.int v0] I J P Q ↔ (v0 = 0 → Wp S N d MX1_carryBoth 61 [x0, x1] [] I J P Q) ∧ (¬ v0 = 0 → Wp S N d MX1_carryBoth 7 [x0, x1] [] I J P Q) := wp_br rfl rfl (by decide) dX1_carryBoth_4
theorem e_X1_carryBoth_7 {w : Nat} {x1 : Option Value} : Wp S N d MX1_carryBoth 7 [some (.ref w), x1] [] I J P Q ↔ Wp S N d MX1_carryBoth 8 [some (.ref w), x1] [.ref w] I J P Q := wp_lod (len := 1) rfl rfl rfl rfl dX1_carryBoth_7
theorem e_X1_carryBoth_8 {v0 : Nat} {x0 x1 : Option Value} : Wp S N d MX1_carryBoth 8 [x0, x1] [.ref v0] I J P Q ↔ S v0 = 1 ∧ Wp S N d MX1_carryBoth 11 [x0, x1] [va_rf (P v0 0)] I J P Q := wp_getf rfl rfl rfl rfl dX1_carryBoth_8
theorem e_X1_carryBoth_11 {v0 : Nat} {w : Nat} {x0 : Option Value} : Wp S N d MX1_carryBoth 11 [x0, some (.ref w)] [.ref v0] I J P Q ↔ Wp S N d MX1_carryBoth 12 [x0, some (.ref w)] [.ref w, .ref v0] I J P Q := wp_lod (len := 1) rfl rfl rfl rfl dX1_carryBoth_11
theorem e_X1_carryBoth_12 {v0 : Nat} {v1 : Nat} {w : Nat} {x1 : Option Value} : Wp S N d MX1_carryBoth 12 [some (.ref w), x1] [.ref v0, .ref v1] I J P Q ↔ Wp S N d MX1_carryBoth 13 [some (.ref w), x1] [.ref w, .ref v0, .ref v1] I J P Q := wp_lod (len := 1) rfl rfl rfl rfl dX1_carryBoth_12
theorem e_X1_carryBoth_13 {v0 : Nat} {v1 : Nat} {v2 : Nat} {x0 x1 : Option Value} : Wp S N d MX1_carryBoth 13 [x0, x1] [.ref v0, .ref v1, .ref v2] I J P Q ↔ S v0 = 1 ∧ Wp S N d MX1_carryBoth 16 [x0, x1] [.int (I v0 1), .ref v1, .ref v2] I J P Q := wp_getf rfl rfl rfl rfl dX1_carryBoth_13
theorem e_X1_carryBoth_16 {v0 : Int32} {v1 : Nat} {v2 : Nat} {w : Nat} {x1 : Option Value} : Wp S N d MX1_carryBoth 16 [some (.ref w), x1] [.int v0, .ref v1, .ref v2] I J P Q ↔ Wp S N d MX1_carryBoth 17 [some (.ref w), x1] [.ref w, .int v0, .ref v1, .ref v2] I J P Q := wp_lod (len := 1) rfl rfl rfl rfl dX1_carryBoth_16
theorem e_X1_carryBoth_17 {v0 : Nat} {v1 : Int32} {v2 : Nat} {v3 : Nat} {x0 x1 : Option Value} : Wp S N d MX1_carryBoth 17 [x0, x1] [.ref v0, .int v1, .ref v2, .ref v3] I J P Q ↔ S v0 = 1 ∧ Wp S N d MX1_carryBoth 20 [x0, x1] [.int (I v0 2), .int v1, .ref v2, .ref v3] I J P Q := wp_getf rfl rfl rfl rfl dX1_carryBoth_17
theorem e_X1_carryBoth_20 {v0 : Int32} {v1 : Int32} {v2 : Nat} {v3 : Nat} {x0 x1 : Option Value} : Wp S N (d + 1) MX1_carryBoth 20 [x0, x1] [.int v0, .int v1, .ref v2, .ref v3] I J P Q ↔ S v3 = 0 ∧ CWp S N d MX0_takeTogether [.ref v3, .ref v2, .int v1, .int v0] I J P (fun r I1 J1 P1 => Wp S N (d + 1) MX1_carryBoth 23 [x0, x1] (r.toList ++ []) I1 J1 P1 Q) := wp_callV (M' := MX0_takeTogether) (As := [.ref v2, .int v1, .int v0]) rfl rfl rfl rfl (by decide) (Nat.le_of_ble_eq_true rfl) dX1_carryBoth_20
theorem e_X1_carryBoth_23 {w : Nat} {x1 : Option Value} : Wp S N d MX1_carryBoth 23 [some (.ref w), x1] [] I J P Q ↔ Wp S N d MX1_carryBoth 24 [some (.ref w), x1] [.ref w] I J P Q := wp_lod (len := 1) rfl rfl rfl rfl dX1_carryBoth_23
theorem e_X1_carryBoth_24 {v0 : Nat} {x0 x1 : Option Value} : Wp S N d MX1_carryBoth 24 [x0, x1] [.ref v0] I J P Q ↔ S v0 = 1 ∧ Wp S N d MX1_carryBoth 27 [x0, x1] [va_rf (P v0 0)] I J P Q := wp_getf rfl rfl rfl rfl dX1_carryBoth_24
theorem e_X1_carryBoth_27 {v0 : Nat} {w : Nat} {x0 : Option Value} : Wp S N d MX1_carryBoth 27 [x0, some (.ref w)] [.ref v0] I J P Q ↔ Wp S N d MX1_carryBoth 28 [x0, some (.ref w)] [.ref w, .ref v0] I J P Q := wp_lod (len := 1) rfl rfl rfl rfl dX1_carryBoth_27
theorem e_X1_carryBoth_28 {v0 : Nat} {v1 : Nat} {x0 x1 : Option Value} : Wp S N d MX1_carryBoth 28 [x0, x1] [.ref v0, .ref v1] I J P Q ↔ S v0 = 5 ∧ Wp S N d MX1_carryBoth 31 [x0, x1] [va_rf (P v0 0), .ref v1] I J P Q := wp_getf rfl rfl rfl rfl dX1_carryBoth_28
theorem e_X1_carryBoth_31 {v0 : Nat} {v1 : Nat} {x0 x1 : Option Value} : Wp S N (d + 1) MX1_carryBoth 31 [x0, x1] [.ref v0, .ref v1] I J P Q ↔ S v1 = 0 ∧ CWp S N d MX0_compute [.ref v1, .ref v0] I J P (fun r I1 J1 P1 => Wp S N (d + 1) MX1_carryBoth 34 [x0, x1] (r.toList ++ []) I1 J1 P1 Q) := wp_callV (M' := MX0_compute) (As := [.ref v0]) rfl rfl rfl rfl (by decide) (Nat.le_of_ble_eq_true rfl) dX1_carryBoth_31
theorem e_X1_carryBoth_34 {w : Nat} {x0 : Option Value} : Wp S N d MX1_carryBoth 34 [x0, some (.ref w)] [] I J P Q ↔ Wp S N d MX1_carryBoth 35 [x0, some (.ref w)] [.ref w] I J P Q := wp_lod (len := 1) rfl rfl rfl rfl dX1_carryBoth_34
theorem e_X1_carryBoth_35 {v0 : Nat} {x0 x1 : Option Value} : Wp S N d MX1_carryBoth 35 [x0, x1] [.ref v0] I J P Q ↔ S v0 = 5 ∧ Wp S N d MX1_carryBoth 38 [x0, x1] [va_rf (P v0 0)] I J P Q := wp_getf rfl rfl rfl rfl dX1_carryBoth_35
theorem e_X1_carryBoth_38 {v0 : Nat} {w : Nat} {x1 : Option Value} : Wp S N d MX1_carryBoth 38 [some (.ref w), x1] [.ref v0] I J P Q ↔ Wp S N d MX1_carryBoth 39 [some (.ref w), x1] [.ref w, .ref v0] I J P Q := wp_lod (len := 1) rfl rfl rfl rfl dX1_carryBoth_38
theorem e_X1_carryBoth_39 {v0 : Nat} {v1 : Nat} {x0 x1 : Option Value} : Wp S N d MX1_carryBoth 39 [x0, x1] [.ref v0, .ref v1] I J P Q ↔ S v0 = 1 ∧ Wp S N d MX1_carryBoth 42 [x0, x1] [.int (I v0 1), .ref v1] I J P Q := wp_getf rfl rfl rfl rfl dX1_carryBoth_39
theorem e_X1_carryBoth_42 {v0 : Int32} {v1 : Nat} {w : Nat} {x1 : Option Value} : Wp S N d MX1_carryBoth 42 [some (.ref w), x1] [.int v0, .ref v1] I J P Q ↔ Wp S N d MX1_carryBoth 43 [some (.ref w), x1] [.ref w, .int v0, .ref v1] I J P Q := wp_lod (len := 1) rfl rfl rfl rfl dX1_carryBoth_42
theorem e_X1_carryBoth_43 {v0 : Nat} {v1 : Int32} {v2 : Nat} {x0 x1 : Option Value} : Wp S N d MX1_carryBoth 43 [x0, x1] [.ref v0, .int v1, .ref v2] I J P Q ↔ S v0 = 1 ∧ Wp S N d MX1_carryBoth 46 [x0, x1] [va_rf (P v0 0), .int v1, .ref v2] I J P Q := wp_getf rfl rfl rfl rfl dX1_carryBoth_43
theorem e_X1_carryBoth_46 {v0 : Nat} {v1 : Int32} {v2 : Nat} {x0 x1 : Option Value} : Wp S N (d + 1) MX1_carryBoth 46 [x0, x1] [.ref v0, .int v1, .ref v2] I J P Q ↔ S v2 = 7 ∧ CWp S N d MX7_carryOn [.ref v2, .int v1, .ref v0] I J P (fun r I1 J1 P1 => Wp S N (d + 1) MX1_carryBoth 49 [x0, x1] (r.toList ++ []) I1 J1 P1 Q) := wp_callV (M' := MX7_carryOn) (As := [.int v1, .ref v0]) rfl rfl rfl rfl (by decide) (Nat.le_of_ble_eq_true rfl) dX1_carryBoth_46
theorem e_X1_carryBoth_49 {w : Nat} {x0 : Option Value} : Wp S N d MX1_carryBoth 49 [x0, some (.ref w)] [] I J P Q ↔ Wp S N d MX1_carryBoth 50 [x0, some (.ref w)] [.ref w] I J P Q := wp_lod (len := 1) rfl rfl rfl rfl dX1_carryBoth_49
theorem e_X1_carryBoth_50 {v0 : Nat} {x0 x1 : Option Value} : Wp S N d MX1_carryBoth 50 [x0, x1] [.ref v0] I J P Q ↔ S v0 = 5 ∧ Wp S N d MX1_carryBoth 53 [x0, x1] [va_rf (P v0 0)] I J P Q := wp_getf rfl rfl rfl rfl dX1_carryBoth_50
theorem e_X1_carryBoth_53 {v0 : Nat} {w : Nat} {x1 : Option Value} : Wp S N d MX1_carryBoth 53 [some (.ref w), x1] [.ref v0] I J P Q ↔ Wp S N d MX1_carryBoth 54 [some (.ref w), x1] [.ref w, .ref v0] I J P Q := wp_lod (len := 1) rfl rfl rfl rfl dX1_carryBoth_53
theorem e_X1_carryBoth_54 {v0 : Nat} {v1 : Nat} {x0 x1 : Option Value} : Wp S N d MX1_carryBoth 54 [x0, x1] [.ref v0, .ref v1] I J P Q ↔ S v0 = 1 ∧ Wp S N d MX1_carryBoth 57 [x0, x1] [.int (I v0 2), .ref v1] I J P Q := wp_getf rfl rfl rfl rfl dX1_carryBoth_54
theorem e_X1_carryBoth_57 {v0 : Int32} {v1 : Nat} {x0 x1 : Option Value} : Wp S N (d + 1) MX1_carryBoth 57 [x0, x1] [.int v0, .ref v1] I J P Q ↔ S v1 = 7 ∧ CWp S N d MX7_carryNothing [.ref v1, .int v0] I J P (fun r I1 J1 P1 => Wp S N (d + 1) MX1_carryBoth 60 [x0, x1] (r.toList ++ []) I1 J1 P1 Q) := wp_callV (M' := MX7_carryNothing) (As := [.int v0]) rfl rfl rfl rfl (by decide) (Nat.le_of_ble_eq_true rfl) dX1_carryBoth_57
theorem e_X1_carryBoth_60  {x0 x1 : Option Value} : Wp S N d MX1_carryBoth 60 [x0, x1] [] I J P Q ↔ Q none I J P := wp_vret rfl dX1_carryBoth_60
theorem e_X1_carryBoth_61 {w : Nat} {x1 : Option Value} : Wp S N d MX1_carryBoth 61 [some (.ref w), x1] [] I J P Q ↔ Wp S N d MX1_carryBoth 62 [some (.ref w), x1] [.ref w] I J P Q := wp_lod (len := 1) rfl rfl rfl rfl dX1_carryBoth_61
theorem e_X1_carryBoth_62 {v0 : Nat} {x0 x1 : Option Value} : Wp S N d MX1_carryBoth 62 [x0, x1] [.ref v0] I J P Q ↔ S v0 = 1 ∧ Wp S N d MX1_carryBoth 65 [x0, x1] [va_rf (P v0 0)] I J P Q := wp_getf rfl rfl rfl rfl dX1_carryBoth_62
theorem e_X1_carryBoth_65 {v0 : Nat} {w : Nat} {x0 : Option Value} : Wp S N d MX1_carryBoth 65 [x0, some (.ref w)] [.ref v0] I J P Q ↔ Wp S N d MX1_carryBoth 66 [x0, some (.ref w)] [.ref w, .ref v0] I J P Q := wp_lod (len := 1) rfl rfl rfl rfl dX1_carryBoth_65
theorem e_X1_carryBoth_66 {v0 : Nat} {v1 : Nat} {w : Nat} {x1 : Option Value} : Wp S N d MX1_carryBoth 66 [some (.ref w), x1] [.ref v0, .ref v1] I J P Q ↔ Wp S N d MX1_carryBoth 67 [some (.ref w), x1] [.ref w, .ref v0, .ref v1] I J P Q := wp_lod (len := 1) rfl rfl rfl rfl dX1_carryBoth_66
theorem e_X1_carryBoth_67 {v0 : Nat} {v1 : Nat} {v2 : Nat} {x0 x1 : Option Value} : Wp S N d MX1_carryBoth 67 [x0, x1] [.ref v0, .ref v1, .ref v2] I J P Q ↔ S v0 = 1 ∧ Wp S N d MX1_carryBoth 70 [x0, x1] [.int (I v0 1), .ref v1, .ref v2] I J P Q := wp_getf rfl rfl rfl rfl dX1_carryBoth_67
theorem e_X1_carryBoth_70 {v0 : Int32} {v1 : Nat} {v2 : Nat} {w : Nat} {x1 : Option Value} : Wp S N d MX1_carryBoth 70 [some (.ref w), x1] [.int v0, .ref v1, .ref v2] I J P Q ↔ Wp S N d MX1_carryBoth 71 [some (.ref w), x1] [.ref w, .int v0, .ref v1, .ref v2] I J P Q := wp_lod (len := 1) rfl rfl rfl rfl dX1_carryBoth_70
theorem e_X1_carryBoth_71 {v0 : Nat} {v1 : Int32} {v2 : Nat} {v3 : Nat} {x0 x1 : Option Value} : Wp S N d MX1_carryBoth 71 [x0, x1] [.ref v0, .int v1, .ref v2, .ref v3] I J P Q ↔ S v0 = 1 ∧ Wp S N d MX1_carryBoth 74 [x0, x1] [.int (I v0 6), .int v1, .ref v2, .ref v3] I J P Q := wp_getf rfl rfl rfl rfl dX1_carryBoth_71
theorem e_X1_carryBoth_74 {v0 : Int32} {v1 : Int32} {v2 : Nat} {v3 : Nat} {x0 x1 : Option Value} : Wp S N (d + 1) MX1_carryBoth 74 [x0, x1] [.int v0, .int v1, .ref v2, .ref v3] I J P Q ↔ S v3 = 0 ∧ CWp S N d MX0_takeAlone [.ref v3, .ref v2, .int v1, .int v0] I J P (fun r I1 J1 P1 => Wp S N (d + 1) MX1_carryBoth 77 [x0, x1] (r.toList ++ []) I1 J1 P1 Q) := wp_callV (M' := MX0_takeAlone) (As := [.ref v2, .int v1, .int v0]) rfl rfl rfl rfl (by decide) (Nat.le_of_ble_eq_true rfl) dX1_carryBoth_74
theorem e_X1_carryBoth_77 {w : Nat} {x1 : Option Value} : Wp S N d MX1_carryBoth 77 [some (.ref w), x1] [] I J P Q ↔ Wp S N d MX1_carryBoth 78 [some (.ref w), x1] [.ref w] I J P Q := wp_lod (len := 1) rfl rfl rfl rfl dX1_carryBoth_77
theorem e_X1_carryBoth_78 {v0 : Nat} {x0 x1 : Option Value} : Wp S N d MX1_carryBoth 78 [x0, x1] [.ref v0] I J P Q ↔ S v0 = 1 ∧ Wp S N d MX1_carryBoth 81 [x0, x1] [va_rf (P v0 0)] I J P Q := wp_getf rfl rfl rfl rfl dX1_carryBoth_78
theorem e_X1_carryBoth_81 {v0 : Nat} {w : Nat} {x0 : Option Value} : Wp S N d MX1_carryBoth 81 [x0, some (.ref w)] [.ref v0] I J P Q ↔ Wp S N d MX1_carryBoth 82 [x0, some (.ref w)] [.ref w, .ref v0] I J P Q := wp_lod (len := 1) rfl rfl rfl rfl dX1_carryBoth_81
theorem e_X1_carryBoth_82 {v0 : Nat} {v1 : Nat} {x0 x1 : Option Value} : Wp S N d MX1_carryBoth 82 [x0, x1] [.ref v0, .ref v1] I J P Q ↔ S v0 = 5 ∧ Wp S N d MX1_carryBoth 85 [x0, x1] [va_rf (P v0 0), .ref v1] I J P Q := wp_getf rfl rfl rfl rfl dX1_carryBoth_82
theorem e_X1_carryBoth_85 {v0 : Nat} {v1 : Nat} {x0 x1 : Option Value} : Wp S N (d + 1) MX1_carryBoth 85 [x0, x1] [.ref v0, .ref v1] I J P Q ↔ S v1 = 0 ∧ CWp S N d MX0_compute [.ref v1, .ref v0] I J P (fun r I1 J1 P1 => Wp S N (d + 1) MX1_carryBoth 88 [x0, x1] (r.toList ++ []) I1 J1 P1 Q) := wp_callV (M' := MX0_compute) (As := [.ref v0]) rfl rfl rfl rfl (by decide) (Nat.le_of_ble_eq_true rfl) dX1_carryBoth_85
theorem e_X1_carryBoth_88 {w : Nat} {x0 : Option Value} : Wp S N d MX1_carryBoth 88 [x0, some (.ref w)] [] I J P Q ↔ Wp S N d MX1_carryBoth 89 [x0, some (.ref w)] [.ref w] I J P Q := wp_lod (len := 1) rfl rfl rfl rfl dX1_carryBoth_88
theorem e_X1_carryBoth_89 {v0 : Nat} {x0 x1 : Option Value} : Wp S N d MX1_carryBoth 89 [x0, x1] [.ref v0] I J P Q ↔ S v0 = 5 ∧ Wp S N d MX1_carryBoth 92 [x0, x1] [va_rf (P v0 0)] I J P Q := wp_getf rfl rfl rfl rfl dX1_carryBoth_89
theorem e_X1_carryBoth_92 {v0 : Nat} {w : Nat} {x1 : Option Value} : Wp S N d MX1_carryBoth 92 [some (.ref w), x1] [.ref v0] I J P Q ↔ Wp S N d MX1_carryBoth 93 [some (.ref w), x1] [.ref w, .ref v0] I J P Q := wp_lod (len := 1) rfl rfl rfl rfl dX1_carryBoth_92
theorem e_X1_carryBoth_93 {v0 : Nat} {v1 : Nat} {x0 x1 : Option Value} : Wp S N d MX1_carryBoth 93 [x0, x1] [.ref v0, .ref v1] I J P Q ↔ S v0 = 1 ∧ Wp S N d MX1_carryBoth 96 [x0, x1] [.int (I v0 1), .ref v1] I J P Q := wp_getf rfl rfl rfl rfl dX1_carryBoth_93
theorem e_X1_carryBoth_96 {v0 : Int32} {v1 : Nat} {w : Nat} {x1 : Option Value} : Wp S N d MX1_carryBoth 96 [some (.ref w), x1] [.int v0, .ref v1] I J P Q ↔ Wp S N d MX1_carryBoth 97 [some (.ref w), x1] [.ref w, .int v0, .ref v1] I J P Q := wp_lod (len := 1) rfl rfl rfl rfl dX1_carryBoth_96
theorem e_X1_carryBoth_97 {v0 : Nat} {v1 : Int32} {v2 : Nat} {x0 x1 : Option Value} : Wp S N d MX1_carryBoth 97 [x0, x1] [.ref v0, .int v1, .ref v2] I J P Q ↔ S v0 = 1 ∧ Wp S N d MX1_carryBoth 100 [x0, x1] [va_rf (P v0 0), .int v1, .ref v2] I J P Q := wp_getf rfl rfl rfl rfl dX1_carryBoth_97
theorem e_X1_carryBoth_100 {v0 : Nat} {v1 : Int32} {v2 : Nat} {x0 x1 : Option Value} : Wp S N (d + 1) MX1_carryBoth 100 [x0, x1] [.ref v0, .int v1, .ref v2] I J P Q ↔ S v2 = 7 ∧ CWp S N d MX7_carryOn [.ref v2, .int v1, .ref v0] I J P (fun r I1 J1 P1 => Wp S N (d + 1) MX1_carryBoth 103 [x0, x1] (r.toList ++ []) I1 J1 P1 Q) := wp_callV (M' := MX7_carryOn) (As := [.int v1, .ref v0]) rfl rfl rfl rfl (by decide) (Nat.le_of_ble_eq_true rfl) dX1_carryBoth_100
theorem e_X1_carryBoth_103 {w : Nat} {x1 : Option Value} : Wp S N d MX1_carryBoth 103 [some (.ref w), x1] [] I J P Q ↔ Wp S N d MX1_carryBoth 104 [some (.ref w), x1] [.ref w] I J P Q := wp_lod (len := 1) rfl rfl rfl rfl dX1_carryBoth_103
theorem e_X1_carryBoth_104 {v0 : Nat} {x0 x1 : Option Value} : Wp S N d MX1_carryBoth 104 [x0, x1] [.ref v0] I J P Q ↔ S v0 = 1 ∧ Wp S N d MX1_carryBoth 107 [x0, x1] [va_rf (P v0 0)] I J P Q := wp_getf rfl rfl rfl rfl dX1_carryBoth_104
theorem e_X1_carryBoth_107 {v0 : Nat} {w : Nat} {x0 : Option Value} : Wp S N d MX1_carryBoth 107 [x0, some (.ref w)] [.ref v0] I J P Q ↔ Wp S N d MX1_carryBoth 108 [x0, some (.ref w)] [.ref w, .ref v0] I J P Q := wp_lod (len := 1) rfl rfl rfl rfl dX1_carryBoth_107
theorem e_X1_carryBoth_108 {v0 : Nat} {v1 : Nat} {w : Nat} {x1 : Option Value} : Wp S N d MX1_carryBoth 108 [some (.ref w), x1] [.ref v0, .ref v1] I J P Q ↔ Wp S N d MX1_carryBoth 109 [some (.ref w), x1] [.ref w, .ref v0, .ref v1] I J P Q := wp_lod (len := 1) rfl rfl rfl rfl dX1_carryBoth_108
theorem e_X1_carryBoth_109 {v0 : Nat} {v1 : Nat} {v2 : Nat} {x0 x1 : Option Value} : Wp S N d MX1_carryBoth 109 [x0, x1] [.ref v0, .ref v1, .ref v2] I J P Q ↔ S v0 = 1 ∧ Wp S N d MX1_carryBoth 112 [x0, x1] [.int (I v0 2), .ref v1, .ref v2] I J P Q := wp_getf rfl rfl rfl rfl dX1_carryBoth_109
theorem e_X1_carryBoth_112 {v0 : Int32} {v1 : Nat} {v2 : Nat} {w : Nat} {x1 : Option Value} : Wp S N d MX1_carryBoth 112 [some (.ref w), x1] [.int v0, .ref v1, .ref v2] I J P Q ↔ Wp S N d MX1_carryBoth 113 [some (.ref w), x1] [.ref w, .int v0, .ref v1, .ref v2] I J P Q := wp_lod (len := 1) rfl rfl rfl rfl dX1_carryBoth_112
theorem e_X1_carryBoth_113 {v0 : Nat} {v1 : Int32} {v2 : Nat} {v3 : Nat} {x0 x1 : Option Value} : Wp S N d MX1_carryBoth 113 [x0, x1] [.ref v0, .int v1, .ref v2, .ref v3] I J P Q ↔ S v0 = 1 ∧ Wp S N d MX1_carryBoth 116 [x0, x1] [.int (I v0 3), .int v1, .ref v2, .ref v3] I J P Q := wp_getf rfl rfl rfl rfl dX1_carryBoth_113
theorem e_X1_carryBoth_116 {v0 : Int32} {v1 : Int32} {v2 : Nat} {v3 : Nat} {w : Nat} {x1 : Option Value} : Wp S N d MX1_carryBoth 116 [some (.ref w), x1] [.int v0, .int v1, .ref v2, .ref v3] I J P Q ↔ Wp S N d MX1_carryBoth 117 [some (.ref w), x1] [.ref w, .int v0, .int v1, .ref v2, .ref v3] I J P Q := wp_lod (len := 1) rfl rfl rfl rfl dX1_carryBoth_116
theorem e_X1_carryBoth_117 {v0 : Nat} {v1 : Int32} {v2 : Int32} {v3 : Nat} {v4 : Nat} {x0 x1 : Option Value} : Wp S N d MX1_carryBoth 117 [x0, x1] [.ref v0, .int v1, .int v2, .ref v3, .ref v4] I J P Q ↔ S v0 = 1 ∧ Wp S N d MX1_carryBoth 120 [x0, x1] [.int (I v0 6), .int v1, .int v2, .ref v3, .ref v4] I J P Q := wp_getf rfl rfl rfl rfl dX1_carryBoth_117
theorem e_X1_carryBoth_120 {v0 : Int32} {v1 : Int32} {v2 : Int32} {v3 : Nat} {v4 : Nat} {x0 x1 : Option Value} : Wp S N d MX1_carryBoth 120 [x0, x1] [.int v0, .int v1, .int v2, .ref v3, .ref v4] I J P Q ↔ Wp S N d MX1_carryBoth 121 [x0, x1] [.int (v1 - v0), .int v2, .ref v3, .ref v4] I J P Q := wp_alu (len := 1) rfl rfl rfl dX1_carryBoth_120
theorem e_X1_carryBoth_121 {v0 : Int32} {v1 : Int32} {v2 : Nat} {v3 : Nat} {x0 x1 : Option Value} : Wp S N (d + 1) MX1_carryBoth 121 [x0, x1] [.int v0, .int v1, .ref v2, .ref v3] I J P Q ↔ S v3 = 0 ∧ CWp S N d MX0_takeAlone [.ref v3, .ref v2, .int v1, .int v0] I J P (fun r I1 J1 P1 => Wp S N (d + 1) MX1_carryBoth 124 [x0, x1] (r.toList ++ []) I1 J1 P1 Q) := wp_callV (M' := MX0_takeAlone) (As := [.ref v2, .int v1, .int v0]) rfl rfl rfl rfl (by decide) (Nat.le_of_ble_eq_true rfl) dX1_carryBoth_121
theorem e_X1_carryBoth_124 {w : Nat} {x1 : Option Value} : Wp S N d MX1_carryBoth 124 [some (.ref w), x1] [] I J P Q ↔ Wp S N d MX1_carryBoth 125 [some (.ref w), x1] [.ref w] I J P Q := wp_lod (len := 1) rfl rfl rfl rfl dX1_carryBoth_124
theorem e_X1_carryBoth_125 {v0 : Nat} {x0 x1 : Option Value} : Wp S N d MX1_carryBoth 125 [x0, x1] [.ref v0] I J P Q ↔ S v0 = 1 ∧ Wp S N d MX1_carryBoth 128 [x0, x1] [va_rf (P v0 0)] I J P Q := wp_getf rfl rfl rfl rfl dX1_carryBoth_125
theorem e_X1_carryBoth_128 {v0 : Nat} {w : Nat} {x0 : Option Value} : Wp S N d MX1_carryBoth 128 [x0, some (.ref w)] [.ref v0] I J P Q ↔ Wp S N d MX1_carryBoth 129 [x0, some (.ref w)] [.ref w, .ref v0] I J P Q := wp_lod (len := 1) rfl rfl rfl rfl dX1_carryBoth_128
theorem e_X1_carryBoth_129 {v0 : Nat} {v1 : Nat} {x0 x1 : Option Value} : Wp S N d MX1_carryBoth 129 [x0, x1] [.ref v0, .ref v1] I J P Q ↔ S v0 = 5 ∧ Wp S N d MX1_carryBoth 132 [x0, x1] [va_rf (P v0 0), .ref v1] I J P Q := wp_getf rfl rfl rfl rfl dX1_carryBoth_129
theorem e_X1_carryBoth_132 {v0 : Nat} {v1 : Nat} {x0 x1 : Option Value} : Wp S N (d + 1) MX1_carryBoth 132 [x0, x1] [.ref v0, .ref v1] I J P Q ↔ S v1 = 0 ∧ CWp S N d MX0_compute [.ref v1, .ref v0] I J P (fun r I1 J1 P1 => Wp S N (d + 1) MX1_carryBoth 135 [x0, x1] (r.toList ++ []) I1 J1 P1 Q) := wp_callV (M' := MX0_compute) (As := [.ref v0]) rfl rfl rfl rfl (by decide) (Nat.le_of_ble_eq_true rfl) dX1_carryBoth_132
theorem e_X1_carryBoth_135 {w : Nat} {x0 : Option Value} : Wp S N d MX1_carryBoth 135 [x0, some (.ref w)] [] I J P Q ↔ Wp S N d MX1_carryBoth 136 [x0, some (.ref w)] [.ref w] I J P Q := wp_lod (len := 1) rfl rfl rfl rfl dX1_carryBoth_135
theorem e_X1_carryBoth_136 {v0 : Nat} {x0 x1 : Option Value} : Wp S N d MX1_carryBoth 136 [x0, x1] [.ref v0] I J P Q ↔ S v0 = 5 ∧ Wp S N d MX1_carryBoth 139 [x0, x1] [va_rf (P v0 0)] I J P Q := wp_getf rfl rfl rfl rfl dX1_carryBoth_136
theorem e_X1_carryBoth_139 {v0 : Nat} {w : Nat} {x1 : Option Value} : Wp S N d MX1_carryBoth 139 [some (.ref w), x1] [.ref v0] I J P Q ↔ Wp S N d MX1_carryBoth 140 [some (.ref w), x1] [.ref w, .ref v0] I J P Q := wp_lod (len := 1) rfl rfl rfl rfl dX1_carryBoth_139
theorem e_X1_carryBoth_140 {v0 : Nat} {v1 : Nat} {x0 x1 : Option Value} : Wp S N d MX1_carryBoth 140 [x0, x1] [.ref v0, .ref v1] I J P Q ↔ S v0 = 1 ∧ Wp S N d MX1_carryBoth 143 [x0, x1] [.int (I v0 2), .ref v1] I J P Q := wp_getf rfl rfl rfl rfl dX1_carryBoth_140
theorem e_X1_carryBoth_143 {v0 : Int32} {v1 : Nat} {w : Nat} {x1 : Option Value} : Wp S N d MX1_carryBoth 143 [some (.ref w), x1] [.int v0, .ref v1] I J P Q ↔ Wp S N d MX1_carryBoth 144 [some (.ref w), x1] [.ref w, .int v0, .ref v1] I J P Q := wp_lod (len := 1) rfl rfl rfl rfl dX1_carryBoth_143
theorem e_X1_carryBoth_144 {v0 : Nat} {v1 : Int32} {v2 : Nat} {x0 x1 : Option Value} : Wp S N d MX1_carryBoth 144 [x0, x1] [.ref v0, .int v1, .ref v2] I J P Q ↔ S v0 = 1 ∧ Wp S N d MX1_carryBoth 147 [x0, x1] [va_rf (P v0 0), .int v1, .ref v2] I J P Q := wp_getf rfl rfl rfl rfl dX1_carryBoth_144
theorem e_X1_carryBoth_147 {v0 : Nat} {v1 : Int32} {v2 : Nat} {x0 x1 : Option Value} : Wp S N (d + 1) MX1_carryBoth 147 [x0, x1] [.ref v0, .int v1, .ref v2] I J P Q ↔ S v2 = 7 ∧ CWp S N d MX7_carryOn [.ref v2, .int v1, .ref v0] I J P (fun r I1 J1 P1 => Wp S N (d + 1) MX1_carryBoth 150 [x0, x1] (r.toList ++ []) I1 J1 P1 Q) := wp_callV (M' := MX7_carryOn) (As := [.int v1, .ref v0]) rfl rfl rfl rfl (by decide) (Nat.le_of_ble_eq_true rfl) dX1_carryBoth_147
theorem e_X1_carryBoth_150  {x0 x1 : Option Value} : Wp S N d MX1_carryBoth 150 [x0, x1] [] I J P Q ↔ Q none I J P := wp_vret rfl dX1_carryBoth_150
theorem dX2_copyFrom_0 : decode cX2_copyFrom 0 = .ok (.aload_n 1, 1) := by decide +kernel
theorem dX2_copyFrom_1 : decode cX2_copyFrom 1 = .ok (.getfield 9, 3) := by decide +kernel
theorem dX2_copyFrom_4 : decode cX2_copyFrom 4 = .ok (.iconst 0, 1) := by decide +kernel
theorem dX2_copyFrom_5 : decode cX2_copyFrom 5 = .ok (.aload_n 0, 1) := by decide +kernel
theorem dX2_copyFrom_6 : decode cX2_copyFrom 6 = .ok (.getfield 9, 3) := by decide +kernel
theorem dX2_copyFrom_9 : decode cX2_copyFrom 9 = .ok (.iconst 0, 1) := by decide +kernel
theorem dX2_copyFrom_10 : decode cX2_copyFrom 10 = .ok (.bipush 6, 2) := by decide +kernel
theorem dX2_copyFrom_12 : decode cX2_copyFrom 12 = .ok (.invokestatic 19, 3) := by decide +kernel
theorem dX2_copyFrom_15 : decode cX2_copyFrom 15 = .ok (.aload_n 1, 1) := by decide +kernel
theorem dX2_copyFrom_16 : decode cX2_copyFrom 16 = .ok (.getfield 15, 3) := by decide +kernel
theorem dX2_copyFrom_19 : decode cX2_copyFrom 19 = .ok (.iconst 0, 1) := by decide +kernel
theorem dX2_copyFrom_20 : decode cX2_copyFrom 20 = .ok (.aload_n 0, 1) := by decide +kernel
theorem dX2_copyFrom_21 : decode cX2_copyFrom 21 = .ok (.getfield 15, 3) := by decide +kernel
theorem dX2_copyFrom_24 : decode cX2_copyFrom 24 = .ok (.iconst 0, 1) := by decide +kernel
theorem dX2_copyFrom_25 : decode cX2_copyFrom 25 = .ok (.bipush 6, 2) := by decide +kernel
theorem dX2_copyFrom_27 : decode cX2_copyFrom 27 = .ok (.invokestatic 19, 3) := by decide +kernel
theorem dX2_copyFrom_30 : decode cX2_copyFrom 30 = .ok (.return_, 1) := by decide +kernel
theorem c_X2_copyFrom {a0 : Nat} {a1 : Nat} : CWp S N d MX2_copyFrom [.ref a0, .ref a1] I J P Q ↔ Wp S N d MX2_copyFrom 0 [some (.ref a0), some (.ref a1)] [] I J P Q := by
  rw [cwp_iff]
  exact ⟨fun h => h.2, fun h => ⟨Nat.le_of_ble_eq_true rfl, h⟩⟩
theorem e_X2_copyFrom_0 {w : Nat} {x0 : Option Value} : Wp S N d MX2_copyFrom 0 [x0, some (.ref w)] [] I J P Q ↔ Wp S N d MX2_copyFrom 1 [x0, some (.ref w)] [.ref w] I J P Q := wp_lod (len := 1) rfl rfl rfl rfl dX2_copyFrom_0
theorem e_X2_copyFrom_1 {v0 : Nat} {x0 x1 : Option Value} : Wp S N d MX2_copyFrom 1 [x0, x1] [.ref v0] I J P Q ↔ S v0 = 2 ∧ Wp S N d MX2_copyFrom 4 [x0, x1] [va_rf (P v0 0)] I J P Q := wp_getf rfl rfl rfl rfl dX2_copyFrom_1
theorem e_X2_copyFrom_4 {v0 : Nat} {x0 x1 : Option Value} : Wp S N d MX2_copyFrom 4 [x0, x1] [.ref v0] I J P Q ↔ Wp S N d MX2_copyFrom 5 [x0, x1] [.int 0, .ref v0] I J P Q := wp_iconst (by decide) dX2_copyFrom_4
theorem e_X2_copyFrom_5 {v0 : Int32} {v1 : Nat} {w : Nat} {x1 : Option Value} : Wp S N d MX2_copyFrom 5 [some (.ref w), x1] [.int v0, .ref v1] I J P Q ↔ Wp S N d MX2_copyFrom 6 [some (.ref w), x1] [.ref w, .int v0, .ref v1] I J P Q := wp_lod (len := 1) rfl rfl rfl rfl dX2_copyFrom_5
theorem e_X2_copyFrom_6 {v0 : Nat} {v1 : Int32} {v2 : Nat} {x0 x1 : Option Value} : Wp S N d MX2_copyFrom 6 [x0, x1] [.ref v0, .int v1, .ref v2] I J P Q ↔ S v0 = 2 ∧ Wp S N d MX2_copyFrom 9 [x0, x1] [va_rf (P v0 0), .int v1, .ref v2] I J P Q := wp_getf rfl rfl rfl rfl dX2_copyFrom_6
theorem e_X2_copyFrom_9 {v0 : Nat} {v1 : Int32} {v2 : Nat} {x0 x1 : Option Value} : Wp S N d MX2_copyFrom 9 [x0, x1] [.ref v0, .int v1, .ref v2] I J P Q ↔ Wp S N d MX2_copyFrom 10 [x0, x1] [.int 0, .ref v0, .int v1, .ref v2] I J P Q := wp_iconst (by decide) dX2_copyFrom_9
theorem e_X2_copyFrom_10 {v0 : Int32} {v1 : Nat} {v2 : Int32} {v3 : Nat} {x0 x1 : Option Value} : Wp S N d MX2_copyFrom 10 [x0, x1] [.int v0, .ref v1, .int v2, .ref v3] I J P Q ↔ Wp S N d MX2_copyFrom 12 [x0, x1] [.int 6, .int v0, .ref v1, .int v2, .ref v3] I J P Q := wp_bipush (by decide) dX2_copyFrom_10
theorem e_X2_copyFrom_12 {v0 : Int32} {v1 : Int32} {v2 : Nat} {v3 : Int32} {v4 : Nat} {x0 x1 : Option Value} (hS : S v2 = 10) : Wp S N (d + 1) MX2_copyFrom 12 [x0, x1] [.int v0, .int v1, .ref v2, .int v3, .ref v4] I J P Q ↔ (S v4 = 10 ∧ ¬ v3 < 0 ∧ ¬ v1 < 0 ∧ ¬ v0 < 0 ∧ v3.toNatClampNeg + v0.toNatClampNeg ≤ N v4 ∧ v1.toNatClampNeg + v0.toNatClampNeg ≤ N v2) ∧ Wp S N (d + 1) MX2_copyFrom 15 [x0, x1] [] (uA I v2 (va_cpy (I v4) (I v2) v3.toNatClampNeg v1.toNatClampNeg v0.toNatClampNeg)) J P Q := wp_cpI rfl rfl hS (Nat.le_of_ble_eq_true rfl) dX2_copyFrom_12
theorem e_X2_copyFrom_12L {v0 : Int32} {v1 : Int32} {v2 : Nat} {v3 : Int32} {v4 : Nat} {x0 x1 : Option Value} (hS : S v2 = 11) : Wp S N (d + 1) MX2_copyFrom 12 [x0, x1] [.int v0, .int v1, .ref v2, .int v3, .ref v4] I J P Q ↔ (S v2 = 11 ∧ S v4 = 11 ∧ ¬ v3 < 0 ∧ ¬ v1 < 0 ∧ ¬ v0 < 0 ∧ v3.toNatClampNeg + v0.toNatClampNeg ≤ N v4 ∧ v1.toNatClampNeg + v0.toNatClampNeg ≤ N v2) ∧ Wp S N (d + 1) MX2_copyFrom 15 [x0, x1] [] I (uA J v2 (va_cpy (J v4) (J v2) v3.toNatClampNeg v1.toNatClampNeg v0.toNatClampNeg)) P Q := wp_cpJ rfl rfl hS (Nat.le_of_ble_eq_true rfl) dX2_copyFrom_12
theorem e_X2_copyFrom_15 {w : Nat} {x0 : Option Value} : Wp S N d MX2_copyFrom 15 [x0, some (.ref w)] [] I J P Q ↔ Wp S N d MX2_copyFrom 16 [x0, some (.ref w)] [.ref w] I J P Q := wp_lod (len := 1) rfl rfl rfl rfl dX2_copyFrom_15
theorem e_X2_copyFrom_16 {v0 : Nat} {x0 x1 : Option Value} : Wp S N d MX2_copyFrom 16 [x0, x1] [.ref v0] I J P Q ↔ S v0 = 2 ∧ Wp S N d MX2_copyFrom 19 [x0, x1] [va_rf (P v0 1)] I J P Q := wp_getf rfl rfl rfl rfl dX2_copyFrom_16
theorem e_X2_copyFrom_19 {v0 : Nat} {x0 x1 : Option Value} : Wp S N d MX2_copyFrom 19 [x0, x1] [.ref v0] I J P Q ↔ Wp S N d MX2_copyFrom 20 [x0, x1] [.int 0, .ref v0] I J P Q := wp_iconst (by decide) dX2_copyFrom_19
theorem e_X2_copyFrom_20 {v0 : Int32} {v1 : Nat} {w : Nat} {x1 : Option Value} : Wp S N d MX2_copyFrom 20 [some (.ref w), x1] [.int v0, .ref v1] I J P Q ↔ Wp S N d MX2_copyFrom 21 [some (.ref w), x1] [.ref w, .int v0, .ref v1] I J P Q := wp_lod (len := 1) rfl rfl rfl rfl dX2_copyFrom_20
theorem e_X2_copyFrom_21 {v0 : Nat} {v1 : Int32} {v2 : Nat} {x0 x1 : Option Value} : Wp S N d MX2_copyFrom 21 [x0, x1] [.ref v0, .int v1, .ref v2] I J P Q ↔ S v0 = 2 ∧ Wp S N d MX2_copyFrom 24 [x0, x1] [va_rf (P v0 1), .int v1, .ref v2] I J P Q := wp_getf rfl rfl rfl rfl dX2_copyFrom_21
theorem e_X2_copyFrom_24 {v0 : Nat} {v1 : Int32} {v2 : Nat} {x0 x1 : Option Value} : Wp S N d MX2_copyFrom 24 [x0, x1] [.ref v0, .int v1, .ref v2] I J P Q ↔ Wp S N d MX2_copyFrom 25 [x0, x1] [.int 0, .ref v0, .int v1, .ref v2] I J P Q := wp_iconst (by decide) dX2_copyFrom_24
theorem e_X2_copyFrom_25 {v0 : Int32} {v1 : Nat} {v2 : Int32} {v3 : Nat} {x0 x1 : Option Value} : Wp S N d MX2_copyFrom 25 [x0, x1] [.int v0, .ref v1, .int v2, .ref v3] I J P Q ↔ Wp S N d MX2_copyFrom 27 [x0, x1] [.int 6, .int v0, .ref v1, .int v2, .ref v3] I J P Q := wp_bipush (by decide) dX2_copyFrom_25
theorem e_X2_copyFrom_27 {v0 : Int32} {v1 : Int32} {v2 : Nat} {v3 : Int32} {v4 : Nat} {x0 x1 : Option Value} (hS : S v2 = 10) : Wp S N (d + 1) MX2_copyFrom 27 [x0, x1] [.int v0, .int v1, .ref v2, .int v3, .ref v4] I J P Q ↔ (S v4 = 10 ∧ ¬ v3 < 0 ∧ ¬ v1 < 0 ∧ ¬ v0 < 0 ∧ v3.toNatClampNeg + v0.toNatClampNeg ≤ N v4 ∧ v1.toNatClampNeg + v0.toNatClampNeg ≤ N v2) ∧ Wp S N (d + 1) MX2_copyFrom 30 [x0, x1] [] (uA I v2 (va_cpy (I v4) (I v2) v3.toNatClampNeg v1.toNatClampNeg v0.toNatClampNeg)) J P Q := wp_cpI rfl rfl hS (Nat.le_of_ble_eq_true rfl) dX2_copyFrom_27
theorem e_X2_copyFrom_27L {v0 : Int32} {v1 : Int32} {v2 : Nat} {v3 : Int32} {v4 : Nat} {x0 x1 : Option Value} (hS : S v2 = 11) : Wp S N (d + 1) MX2_copyFrom 27 [x0, x1] [.int v0, .int v1, .ref v2, .int v3, .ref v4] I J P Q ↔ (S v2 = 11 ∧ S v4 = 11 ∧ ¬ v3 < 0 ∧ ¬ v1 < 0 ∧ ¬ v0 < 0 ∧ v3.toNatClampNeg + v0.toNatClampNeg ≤ N v4 ∧ v1.toNatClampNeg + v0.toNatClampNeg ≤ N v2) ∧ Wp S N (d + 1) MX2_copyFrom 30 [x0, x1] [] I (uA J v2 (va_cpy (J v4) (J v2) v3.toNatClampNeg v1.toNatClampNeg v0.toNatClampNeg)) P Q := wp_cpJ rfl rfl hS (Nat.le_of_ble_eq_true rfl) dX2_copyFrom_27
theorem e_X2_copyFrom_30  {x0 x1 : Option Value} : Wp S N d MX2_copyFrom 30 [x0, x1] [] I J P Q ↔ Q none I J P := wp_vret rfl dX2_copyFrom_30
theorem dX3_turnTo_0 : decode cX3_turnTo 0 = .ok (.aload_n 0, 1) := by decide +kernel
theorem dX3_turnTo_1 : decode cX3_turnTo 1 = .ok (.getfield 12, 3) := by decide +kernel
theorem dX3_turnTo_4 : decode cX3_turnTo 4 = .ok (.aload_n 1, 1) := by decide +kernel
theorem dX3_turnTo_5 : decode cX3_turnTo 5 = .ok (.iload_n 2, 1) := by decide +kernel
theorem dX3_turnTo_6 : decode cX3_turnTo 6 = .ok (.aload_n 1, 1) := by decide +kernel
theorem dX3_turnTo_7 : decode cX3_turnTo 7 = .ok (.getfield 18, 3) := by decide +kernel
theorem dX3_turnTo_10 : decode cX3_turnTo 10 = .ok (.iload_n 2, 1) := by decide +kernel
theorem dX3_turnTo_11 : decode cX3_turnTo 11 = .ok (.iaload, 1) := by decide +kernel
theorem dX3_turnTo_12 : decode cX3_turnTo 12 = .ok (.invokevirtual 24, 3) := by decide +kernel
theorem dX3_turnTo_15 : decode cX3_turnTo 15 = .ok (.return_, 1) := by decide +kernel
theorem c_X3_turnTo {a0 : Nat} {a1 : Nat} {a2 : Int32} : CWp S N d MX3_turnTo [.ref a0, .ref a1, .int a2] I J P Q ↔ Wp S N d MX3_turnTo 0 [some (.ref a0), some (.ref a1), some (.int a2)] [] I J P Q := by
  rw [cwp_iff]
  exact ⟨fun h => h.2, fun h => ⟨Nat.le_of_ble_eq_true rfl, h⟩⟩
theorem e_X3_turnTo_0 {w : Nat} {x1 x2 : Option Value} : Wp S N d MX3_turnTo 0 [some (.ref w), x1, x2] [] I J P Q ↔ Wp S N d MX3_turnTo 1 [some (.ref w), x1, x2] [.ref w] I J P Q := wp_lod (len := 1) rfl rfl rfl rfl dX3_turnTo_0
theorem e_X3_turnTo_1 {v0 : Nat} {x0 x1 x2 : Option Value} : Wp S N d MX3_turnTo 1 [x0, x1, x2] [.ref v0] I J P Q ↔ S v0 = 3 ∧ Wp S N d MX3_turnTo 4 [x0, x1, x2] [va_rf (P v0 0)] I J P Q := wp_getf rfl rfl rfl rfl dX3_turnTo_1
theorem e_X3_turnTo_4 {v0 : Nat} {w : Nat} {x0 x2 : Option Value} : Wp S N d MX3_turnTo 4 [x0, some (.ref w), x2] [.ref v0] I J P Q ↔ Wp S N d MX3_turnTo 5 [x0, some (.ref w), x2] [.ref w, .ref v0] I J P Q := wp_lod (len := 1) rfl rfl rfl rfl dX3_turnTo_4
theorem e_X3_turnTo_5 {v0 : Nat} {v1 : Nat} {w : Int32} {x0 x1 : Option Value} : Wp S N d MX3_turnTo 5 [x0, x1, some (.int w)] [.ref v0, .ref v1] I J P Q ↔ Wp S N d MX3_turnTo 6 [x0, x1, some (.int w)] [.int w, .ref v0, .ref v1] I J P Q := wp_lod (len := 1) rfl rfl rfl rfl dX3_turnTo_5
theorem e_X3_turnTo_6 {v0 : Int32} {v1 : Nat} {v2 : Nat} {w : Nat} {x0 x2 : Option Value} : Wp S N d MX3_turnTo 6 [x0, some (.ref w), x2] [.int v0, .ref v1, .ref v2] I J P Q ↔ Wp S N d MX3_turnTo 7 [x0, some (.ref w), x2] [.ref w, .int v0, .ref v1, .ref v2] I J P Q := wp_lod (len := 1) rfl rfl rfl rfl dX3_turnTo_6
theorem e_X3_turnTo_7 {v0 : Nat} {v1 : Int32} {v2 : Nat} {v3 : Nat} {x0 x1 x2 : Option Value} : Wp S N d MX3_turnTo 7 [x0, x1, x2] [.ref v0, .int v1, .ref v2, .ref v3] I J P Q ↔ S v0 = 5 ∧ Wp S N d MX3_turnTo 10 [x0, x1, x2] [va_rf (P v0 3), .int v1, .ref v2, .ref v3] I J P Q := wp_getf rfl rfl rfl rfl dX3_turnTo_7
theorem e_X3_turnTo_10 {v0 : Nat} {v1 : Int32} {v2 : Nat} {v3 : Nat} {w : Int32} {x0 x1 : Option Value} : Wp S N d MX3_turnTo 10 [x0, x1, some (.int w)] [.ref v0, .int v1, .ref v2, .ref v3] I J P Q ↔ Wp S N d MX3_turnTo 11 [x0, x1, some (.int w)] [.int w, .ref v0, .int v1, .ref v2, .ref v3] I J P Q := wp_lod (len := 1) rfl rfl rfl rfl dX3_turnTo_10
theorem e_X3_turnTo_11 {v0 : Int32} {v1 : Nat} {v2 : Int32} {v3 : Nat} {v4 : Nat} {x0 x1 x2 : Option Value} : Wp S N d MX3_turnTo 11 [x0, x1, x2] [.int v0, .ref v1, .int v2, .ref v3, .ref v4] I J P Q ↔ (S v1 = 10 ∧ vp_in v0 (N v1)) ∧ Wp S N d MX3_turnTo 12 [x0, x1, x2] [.int (I v1 v0.toNatClampNeg), .int v2, .ref v3, .ref v4] I J P Q := wp_ald rfl rfl dX3_turnTo_11
theorem e_X3_turnTo_12 {v0 : Int32} {v1 : Int32} {v2 : Nat} {v3 : Nat} {x0 x1 x2 : Option Value} : Wp S N (d + 1) MX3_turnTo 12 [x0, x1, x2] [.int v0, .int v1, .ref v2, .ref v3] I J P Q ↔ S v3 = 0 ∧ CWp S N d MX0_takeAlone [.ref v3, .ref v2, .int v1, .int v0] I J P (fun r I1 J1 P1 => Wp S N (d + 1) MX3_turnTo 15 [x0, x1, x2] (r.toList ++ []) I1 J1 P1 Q) := wp_callV (M' := MX0_takeAlone) (As := [.ref v2, .int v1, .int v0]) rfl rfl rfl rfl (by decide) (Nat.le_of_ble_eq_true rfl) dX3_turnTo_12
theorem e_X3_turnTo_15  {x0 x1 x2 : Option Value} : Wp S N d MX3_turnTo 15 [x0, x1, x2] [] I J P Q ↔ Q none I J P := wp_vret rfl dX3_turnTo_15
theorem dX3_taxAt_0 : decode cX3_taxAt 0 = .ok (.aload_n 0, 1) := by decide +kernel
theorem dX3_taxAt_1 : decode cX3_taxAt 1 = .ok (.getfield 12, 3) := by decide +kernel
theorem dX3_taxAt_4 : decode cX3_taxAt 4 = .ok (.iload_n 2, 1) := by decide +kernel
theorem dX3_taxAt_5 : decode cX3_taxAt 5 = .ok (.invokevirtual 28, 3) := by decide +kernel
theorem dX3_taxAt_8 : decode cX3_taxAt 8 = .ok (.aload_n 0, 1) := by decide +kernel
theorem dX3_taxAt_9 : decode cX3_taxAt 9 = .ok (.getfield 12, 3) := by decide +kernel
theorem dX3_taxAt_12 : decode cX3_taxAt 12 = .ok (.aload_n 1, 1) := by decide +kernel
theorem dX3_taxAt_13 : decode cX3_taxAt 13 = .ok (.invokevirtual 32, 3) := by decide +kernel
theorem dX3_taxAt_16 : decode cX3_taxAt 16 = .ok (.aload_n 0, 1) := by decide +kernel
theorem dX3_taxAt_17 : decode cX3_taxAt 17 = .ok (.getfield 12, 3) := by decide +kernel
theorem dX3_taxAt_20 : decode cX3_taxAt 20 = .ok (.getfield 36, 3) := by decide +kernel
theorem dX3_taxAt_23 : decode cX3_taxAt 23 = .ok (.lreturn, 1) := by decide +kernel
theorem c_X3_taxAt {a0 : Nat} {a1 : Nat} {a2 : Int32} : CWp S N d MX3_taxAt [.ref a0, .ref a1, .int a2] I J P Q ↔ Wp S N d MX3_taxAt 0 [some (.ref a0), some (.ref a1), some (.int a2)] [] I J P Q := by
  rw [cwp_iff]
  exact ⟨fun h => h.2, fun h => ⟨Nat.le_of_ble_eq_true rfl, h⟩⟩
theorem e_X3_taxAt_0 {w : Nat} {x1 x2 : Option Value} : Wp S N d MX3_taxAt 0 [some (.ref w), x1, x2] [] I J P Q ↔ Wp S N d MX3_taxAt 1 [some (.ref w), x1, x2] [.ref w] I J P Q := wp_lod (len := 1) rfl rfl rfl rfl dX3_taxAt_0
theorem e_X3_taxAt_1 {v0 : Nat} {x0 x1 x2 : Option Value} : Wp S N d MX3_taxAt 1 [x0, x1, x2] [.ref v0] I J P Q ↔ S v0 = 3 ∧ Wp S N d MX3_taxAt 4 [x0, x1, x2] [va_rf (P v0 0)] I J P Q := wp_getf rfl rfl rfl rfl dX3_taxAt_1
theorem e_X3_taxAt_4 {v0 : Nat} {w : Int32} {x0 x1 : Option Value} : Wp S N d MX3_taxAt 4 [x0, x1, some (.int w)] [.ref v0] I J P Q ↔ Wp S N d MX3_taxAt 5 [x0, x1, some (.int w)] [.int w, .ref v0] I J P Q := wp_lod (len := 1) rfl rfl rfl rfl dX3_taxAt_4
theorem e_X3_taxAt_5 {v0 : Int32} {v1 : Nat} {x0 x1 x2 : Option Value} : Wp S N (d + 1) MX3_taxAt 5 [x0, x1, x2] [.int v0, .ref v1] I J P Q ↔ S v1 = 0 ∧ CWp S N d MX0_earn [.ref v1, .int v0] I J P (fun r I1 J1 P1 => Wp S N (d + 1) MX3_taxAt 8 [x0, x1, x2] (r.toList ++ []) I1 J1 P1 Q) := wp_callV (M' := MX0_earn) (As := [.int v0]) rfl rfl rfl rfl (by decide) (Nat.le_of_ble_eq_true rfl) dX3_taxAt_5
theorem e_X3_taxAt_8 {w : Nat} {x1 x2 : Option Value} : Wp S N d MX3_taxAt 8 [some (.ref w), x1, x2] [] I J P Q ↔ Wp S N d MX3_taxAt 9 [some (.ref w), x1, x2] [.ref w] I J P Q := wp_lod (len := 1) rfl rfl rfl rfl dX3_taxAt_8
theorem e_X3_taxAt_9 {v0 : Nat} {x0 x1 x2 : Option Value} : Wp S N d MX3_taxAt 9 [x0, x1, x2] [.ref v0] I J P Q ↔ S v0 = 3 ∧ Wp S N d MX3_taxAt 12 [x0, x1, x2] [va_rf (P v0 0)] I J P Q := wp_getf rfl rfl rfl rfl dX3_taxAt_9
theorem e_X3_taxAt_12 {v0 : Nat} {w : Nat} {x0 x2 : Option Value} : Wp S N d MX3_taxAt 12 [x0, some (.ref w), x2] [.ref v0] I J P Q ↔ Wp S N d MX3_taxAt 13 [x0, some (.ref w), x2] [.ref w, .ref v0] I J P Q := wp_lod (len := 1) rfl rfl rfl rfl dX3_taxAt_12
theorem e_X3_taxAt_13 {v0 : Nat} {v1 : Nat} {x0 x1 x2 : Option Value} : Wp S N (d + 1) MX3_taxAt 13 [x0, x1, x2] [.ref v0, .ref v1] I J P Q ↔ S v1 = 0 ∧ CWp S N d MX0_compute [.ref v1, .ref v0] I J P (fun r I1 J1 P1 => Wp S N (d + 1) MX3_taxAt 16 [x0, x1, x2] (r.toList ++ []) I1 J1 P1 Q) := wp_callV (M' := MX0_compute) (As := [.ref v0]) rfl rfl rfl rfl (by decide) (Nat.le_of_ble_eq_true rfl) dX3_taxAt_13
theorem e_X3_taxAt_16 {w : Nat} {x1 x2 : Option Value} : Wp S N d MX3_taxAt 16 [some (.ref w), x1, x2] [] I J P Q ↔ Wp S N d MX3_taxAt 17 [some (.ref w), x1, x2] [.ref w] I J P Q := wp_lod (len := 1) rfl rfl rfl rfl dX3_taxAt_16
theorem e_X3_taxAt_17 {v0 : Nat} {x0 x1 x2 : Option Value} : Wp S N d MX3_taxAt 17 [x0, x1, x2] [.ref v0] I J P Q ↔ S v0 = 3 ∧ Wp S N d MX3_taxAt 20 [x0, x1, x2] [va_rf (P v0 0)] I J P Q := wp_getf rfl rfl rfl rfl dX3_taxAt_17
theorem e_X3_taxAt_20 {v0 : Nat} {x0 x1 x2 : Option Value} : Wp S N d MX3_taxAt 20 [x0, x1, x2] [.ref v0] I J P Q ↔ S v0 = 0 ∧ Wp S N d MX3_taxAt 23 [x0, x1, x2] [.long (J v0 7)] I J P Q := wp_getf rfl rfl rfl rfl dX3_taxAt_20
theorem e_X3_taxAt_23 {v0 : Int64} {x0 x1 x2 : Option Value} : Wp S N d MX3_taxAt 23 [x0, x1, x2] [.long v0] I J P Q ↔ Q (some (.long v0)) I J P := wp_lret rfl dX3_taxAt_23
theorem dX3_partAt_0 : decode cX3_partAt 0 = .ok (.aload_n 0, 1) := by decide +kernel
theorem dX3_partAt_1 : decode cX3_partAt 1 = .ok (.getfield 12, 3) := by decide +kernel
theorem dX3_partAt_4 : decode cX3_partAt 4 = .ok (.iload_n 3, 1) := by decide +kernel
theorem dX3_partAt_5 : decode cX3_partAt 5 = .ok (.invokevirtual 28, 3) := by decide +kernel
theorem dX3_partAt_8 : decode cX3_partAt 8 = .ok (.aload_n 0, 1) := by decide +kernel
theorem dX3_partAt_9 : decode cX3_partAt 9 = .ok (.getfield 12, 3) := by decide +kernel
theorem dX3_partAt_12 : decode cX3_partAt 12 = .ok (.aload_n 1, 1) := by decide +kernel
theorem dX3_partAt_13 : decode cX3_partAt 13 = .ok (.invokevirtual 32, 3) := by decide +kernel
theorem dX3_partAt_16 : decode cX3_partAt 16 = .ok (.aload_n 0, 1) := by decide +kernel
theorem dX3_partAt_17 : decode cX3_partAt 17 = .ok (.getfield 12, 3) := by decide +kernel
theorem dX3_partAt_20 : decode cX3_partAt 20 = .ok (.iload_n 2, 1) := by decide +kernel
theorem dX3_partAt_21 : decode cX3_partAt 21 = .ok (.invokevirtual 40, 3) := by decide +kernel
theorem dX3_partAt_24 : decode cX3_partAt 24 = .ok (.lreturn, 1) := by decide +kernel
theorem c_X3_partAt {a0 : Nat} {a1 : Nat} {a2 : Int32} {a3 : Int32} : CWp S N d MX3_partAt [.ref a0, .ref a1, .int a2, .int a3] I J P Q ↔ Wp S N d MX3_partAt 0 [some (.ref a0), some (.ref a1), some (.int a2), some (.int a3)] [] I J P Q := by
  rw [cwp_iff]
  exact ⟨fun h => h.2, fun h => ⟨Nat.le_of_ble_eq_true rfl, h⟩⟩
theorem e_X3_partAt_0 {w : Nat} {x1 x2 x3 : Option Value} : Wp S N d MX3_partAt 0 [some (.ref w), x1, x2, x3] [] I J P Q ↔ Wp S N d MX3_partAt 1 [some (.ref w), x1, x2, x3] [.ref w] I J P Q := wp_lod (len := 1) rfl rfl rfl rfl dX3_partAt_0
theorem e_X3_partAt_1 {v0 : Nat} {x0 x1 x2 x3 : Option Value} : Wp S N d MX3_partAt 1 [x0, x1, x2, x3] [.ref v0] I J P Q ↔ S v0 = 3 ∧ Wp S N d MX3_partAt 4 [x0, x1, x2, x3] [va_rf (P v0 0)] I J P Q := wp_getf rfl rfl rfl rfl dX3_partAt_1
theorem e_X3_partAt_4 {v0 : Nat} {w : Int32} {x0 x1 x2 : Option Value} : Wp S N d MX3_partAt 4 [x0, x1, x2, some (.int w)] [.ref v0] I J P Q ↔ Wp S N d MX3_partAt 5 [x0, x1, x2, some (.int w)] [.int w, .ref v0] I J P Q := wp_lod (len := 1) rfl rfl rfl rfl dX3_partAt_4
theorem e_X3_partAt_5 {v0 : Int32} {v1 : Nat} {x0 x1 x2 x3 : Option Value} : Wp S N (d + 1) MX3_partAt 5 [x0, x1, x2, x3] [.int v0, .ref v1] I J P Q ↔ S v1 = 0 ∧ CWp S N d MX0_earn [.ref v1, .int v0] I J P (fun r I1 J1 P1 => Wp S N (d + 1) MX3_partAt 8 [x0, x1, x2, x3] (r.toList ++ []) I1 J1 P1 Q) := wp_callV (M' := MX0_earn) (As := [.int v0]) rfl rfl rfl rfl (by decide) (Nat.le_of_ble_eq_true rfl) dX3_partAt_5
theorem e_X3_partAt_8 {w : Nat} {x1 x2 x3 : Option Value} : Wp S N d MX3_partAt 8 [some (.ref w), x1, x2, x3] [] I J P Q ↔ Wp S N d MX3_partAt 9 [some (.ref w), x1, x2, x3] [.ref w] I J P Q := wp_lod (len := 1) rfl rfl rfl rfl dX3_partAt_8
theorem e_X3_partAt_9 {v0 : Nat} {x0 x1 x2 x3 : Option Value} : Wp S N d MX3_partAt 9 [x0, x1, x2, x3] [.ref v0] I J P Q ↔ S v0 = 3 ∧ Wp S N d MX3_partAt 12 [x0, x1, x2, x3] [va_rf (P v0 0)] I J P Q := wp_getf rfl rfl rfl rfl dX3_partAt_9
theorem e_X3_partAt_12 {v0 : Nat} {w : Nat} {x0 x2 x3 : Option Value} : Wp S N d MX3_partAt 12 [x0, some (.ref w), x2, x3] [.ref v0] I J P Q ↔ Wp S N d MX3_partAt 13 [x0, some (.ref w), x2, x3] [.ref w, .ref v0] I J P Q := wp_lod (len := 1) rfl rfl rfl rfl dX3_partAt_12
theorem e_X3_partAt_13 {v0 : Nat} {v1 : Nat} {x0 x1 x2 x3 : Option Value} : Wp S N (d + 1) MX3_partAt 13 [x0, x1, x2, x3] [.ref v0, .ref v1] I J P Q ↔ S v1 = 0 ∧ CWp S N d MX0_compute [.ref v1, .ref v0] I J P (fun r I1 J1 P1 => Wp S N (d + 1) MX3_partAt 16 [x0, x1, x2, x3] (r.toList ++ []) I1 J1 P1 Q) := wp_callV (M' := MX0_compute) (As := [.ref v0]) rfl rfl rfl rfl (by decide) (Nat.le_of_ble_eq_true rfl) dX3_partAt_13
theorem e_X3_partAt_16 {w : Nat} {x1 x2 x3 : Option Value} : Wp S N d MX3_partAt 16 [some (.ref w), x1, x2, x3] [] I J P Q ↔ Wp S N d MX3_partAt 17 [some (.ref w), x1, x2, x3] [.ref w] I J P Q := wp_lod (len := 1) rfl rfl rfl rfl dX3_partAt_16
theorem e_X3_partAt_17 {v0 : Nat} {x0 x1 x2 x3 : Option Value} : Wp S N d MX3_partAt 17 [x0, x1, x2, x3] [.ref v0] I J P Q ↔ S v0 = 3 ∧ Wp S N d MX3_partAt 20 [x0, x1, x2, x3] [va_rf (P v0 0)] I J P Q := wp_getf rfl rfl rfl rfl dX3_partAt_17
theorem e_X3_partAt_20 {v0 : Nat} {w : Int32} {x0 x1 x3 : Option Value} : Wp S N d MX3_partAt 20 [x0, x1, some (.int w), x3] [.ref v0] I J P Q ↔ Wp S N d MX3_partAt 21 [x0, x1, some (.int w), x3] [.int w, .ref v0] I J P Q := wp_lod (len := 1) rfl rfl rfl rfl dX3_partAt_20
theorem e_X3_partAt_21 {v0 : Int32} {v1 : Nat} {x0 x1 x2 x3 : Option Value} : Wp S N (d + 1) MX3_partAt 21 [x0, x1, x2, x3] [.int v0, .ref v1] I J P Q ↔ S v1 = 0 ∧ CWp S N d MX0_curvePart [.ref v1, .int v0] I J P (fun r I1 J1 P1 => Wp S N (d + 1) MX3_partAt 24 [x0, x1, x2, x3] (r.toList ++ []) I1 J1 P1 Q) := wp_callV (M' := MX0_curvePart) (As := [.int v0]) rfl rfl rfl rfl (by decide) (Nat.le_of_ble_eq_true rfl) dX3_partAt_21
theorem e_X3_partAt_24 {v0 : Int64} {x0 x1 x2 x3 : Option Value} : Wp S N d MX3_partAt 24 [x0, x1, x2, x3] [.long v0] I J P Q ↔ Q (some (.long v0)) I J P := wp_lret rfl dX3_partAt_24
theorem dX3_kinkAbove_0 : decode cX3_kinkAbove 0 = .ok (.iload_n 2, 1) := by decide +kernel
theorem dX3_kinkAbove_1 : decode cX3_kinkAbove 1 = .ok (.iconst 0, 1) := by decide +kernel
theorem dX3_kinkAbove_2 : decode cX3_kinkAbove 2 = .ok (.invokestatic 44, 3) := by decide +kernel
theorem dX3_kinkAbove_5 : decode cX3_kinkAbove 5 = .ok (.istore_n 3, 1) := by decide +kernel
theorem dX3_kinkAbove_6 : decode cX3_kinkAbove 6 = .ok (.iload_n 3, 1) := by decide +kernel
theorem dX3_kinkAbove_7 : decode cX3_kinkAbove 7 = .ok (.sipush 9998, 3) := by decide +kernel
theorem dX3_kinkAbove_10 : decode cX3_kinkAbove 10 = .ok (.if_icmp .lt 5, 3) := by decide +kernel
theorem dX3_kinkAbove_13 : decode cX3_kinkAbove 13 = .ok (.iconst (-1), 1) := by decide +kernel
theorem dX3_kinkAbove_14 : decode cX3_kinkAbove 14 = .ok (.ireturn, 1) := by decide +kernel
theorem dX3_kinkAbove_15 : decode cX3_kinkAbove 15 = .ok (.aload_n 0, 1) := by decide +kernel
theorem dX3_kinkAbove_16 : decode cX3_kinkAbove 16 = .ok (.aload_n 1, 1) := by decide +kernel
theorem dX3_kinkAbove_17 : decode cX3_kinkAbove 17 = .ok (.iload_n 3, 1) := by decide +kernel
theorem dX3_kinkAbove_18 : decode cX3_kinkAbove 18 = .ok (.invokevirtual 50, 3) := by decide +kernel
theorem dX3_kinkAbove_21 : decode cX3_kinkAbove 21 = .ok (.lstore 4, 2) := by decide +kernel
theorem dX3_kinkAbove_23 : decode cX3_kinkAbove 23 = .ok (.aload_n 0, 1) := by decide +kernel
theorem dX3_kinkAbove_24 : decode cX3_kinkAbove 24 = .ok (.aload_n 1, 1) := by decide +kernel
theorem dX3_kinkAbove_25 : decode cX3_kinkAbove 25 = .ok (.iload_n 3, 1) := by decide +kernel
theorem dX3_kinkAbove_26 : decode cX3_kinkAbove 26 = .ok (.iconst 1, 1) := by decide +kernel
theorem dX3_kinkAbove_27 : decode cX3_kinkAbove 27 = .ok (.iadd, 1) := by decide +kernel
theorem dX3_kinkAbove_28 : decode cX3_kinkAbove 28 = .ok (.invokevirtual 50, 3) := by decide +kernel
theorem dX3_kinkAbove_31 : decode cX3_kinkAbove 31 = .ok (.lstore 6, 2) := by decide +kernel
theorem dX3_kinkAbove_33 : decode cX3_kinkAbove 33 = .ok (.iload_n 3, 1) := by decide +kernel
theorem dX3_kinkAbove_34 : decode cX3_kinkAbove 34 = .ok (.iconst 1, 1) := by decide +kernel
theorem dX3_kinkAbove_35 : decode cX3_kinkAbove 35 = .ok (.iadd, 1) := by decide +kernel
theorem dX3_kinkAbove_36 : decode cX3_kinkAbove 36 = .ok (.istore 8, 2) := by decide +kernel
theorem dX3_kinkAbove_38 : decode cX3_kinkAbove 38 = .ok (.iload 8, 2) := by decide +kernel
theorem dX3_kinkAbove_40 : decode cX3_kinkAbove 40 = .ok (.sipush 9999, 3) := by decide +kernel
theorem dX3_kinkAbove_43 : decode cX3_kinkAbove 43 = .ok (.if_icmp .ge 45, 3) := by decide +kernel
theorem dX3_kinkAbove_46 : decode cX3_kinkAbove 46 = .ok (.aload_n 0, 1) := by decide +kernel
theorem dX3_kinkAbove_47 : decode cX3_kinkAbove 47 = .ok (.aload_n 1, 1) := by decide +kernel
theorem dX3_kinkAbove_48 : decode cX3_kinkAbove 48 = .ok (.iload 8, 2) := by decide +kernel
theorem dX3_kinkAbove_50 : decode cX3_kinkAbove 50 = .ok (.iconst 1, 1) := by decide +kernel
theorem dX3_kinkAbove_51 : decode cX3_kinkAbove 51 = .ok (.iadd, 1) := by decide +kernel
theorem dX3_kinkAbove_52 : decode cX3_kinkAbove 52 = .ok (.invokevirtual 50, 3) := by decide +kernel
theorem dX3_kinkAbove_55 : decode cX3_kinkAbove 55 = .ok (.lstore 9, 2) := by decide +kernel
theorem dX3_kinkAbove_57 : decode cX3_kinkAbove 57 = .ok (.lload 9, 2) := by decide +kernel
theorem dX3_kinkAbove_59 : decode cX3_kinkAbove 59 = .ok (.lload 6, 2) := by decide +kernel
theorem dX3_kinkAbove_61 : decode cX3_kinkAbove 61 = .ok (.lsub, 1) := by decide +kernel
theorem dX3_kinkAbove_62 : decode cX3_kinkAbove 62 = .ok (.lload 6, 2) := by decide +kernel
theorem dX3_kinkAbove_64 : decode cX3_kinkAbove 64 = .ok (.lload 4, 2) := by decide +kernel
theorem dX3_kinkAbove_66 : decode cX3_kinkAbove 66 = .ok (.lsub, 1) := by decide +kernel
theorem dX3_kinkAbove_67 : decode cX3_kinkAbove 67 = .ok (.lcmp, 1) := by decide +kernel
theorem dX3_kinkAbove_68 : decode cX3_kinkAbove 68 = .ok (.ifCond .eq 6, 3) := by decide +kernel
theorem dX3_kinkAbove_71 : decode cX3_kinkAbove 71 = .ok (.iload 8, 2) := by decide +kernel
theorem dX3_kinkAbove_73 : decode cX3_kinkAbove 73 = .ok (.ireturn, 1) := by decide +kernel
theorem dX3_kinkAbove_74 : decode cX3_kinkAbove 74 = .ok (.lload 6, 2) := by decide +kernel
theorem dX3_kinkAbove_76 : decode cX3_kinkAbove 76 = .ok (.lstore 4, 2) := by decide +kernel
theorem dX3_kinkAbove_78 : decode cX3_kinkAbove 78 = .ok (.lload 9, 2) := by decide +kernel
theorem dX3_kinkAbove_80 : decode cX3_kinkAbove 80 = .ok (.lstore 6, 2) := by decide +kernel
theorem dX3_kinkAbove_82 : decode cX3_kinkAbove 82 = .ok (.iinc 8 1, 3) := by decide +kernel
theorem dX3_kinkAbove_85 : decode cX3_kinkAbove 85 = .ok (.goto (-47), 3) := by decide +kernel
theorem dX3_kinkAbove_88 : decode cX3_kinkAbove 88 = .ok (.iconst (-1), 1) := by decide +kernel
theorem dX3_kinkAbove_89 : decode cX3_kinkAbove 89 = .ok (.ireturn, 1) := by decide +kernel
theorem c_X3_kinkAbove {a0 : Nat} {a1 : Nat} {a2 : Int32} : CWp S N d MX3_kinkAbove [.ref a0, .ref a1, .int a2] I J P Q ↔ Wp S N d MX3_kinkAbove 0 [some (.ref a0), some (.ref a1), some (.int a2), none, none, none, none, none, none, none, none] [] I J P Q := by
  rw [cwp_iff]
  exact ⟨fun h => h.2, fun h => ⟨Nat.le_of_ble_eq_true rfl, h⟩⟩
theorem e_X3_kinkAbove_0 {w : Int32} {x0 x1 x3 x4 x5 x6 x7 x8 x9 x10 : Option Value} : Wp S N d MX3_kinkAbove 0 [x0, x1, some (.int w), x3, x4, x5, x6, x7, x8, x9, x10] [] I J P Q ↔ Wp S N d MX3_kinkAbove 1 [x0, x1, some (.int w), x3, x4, x5, x6, x7, x8, x9, x10] [.int w] I J P Q := wp_lod (len := 1) rfl rfl rfl rfl dX3_kinkAbove_0
theorem e_X3_kinkAbove_1 {v0 : Int32} {x0 x1 x2 x3 x4 x5 x6 x7 x8 x9 x10 : Option Value} : Wp S N d MX3_kinkAbove 1 [x0, x1, x2, x3, x4, x5, x6, x7, x8, x9, x10] [.int v0] I J P Q ↔ Wp S N d MX3_kinkAbove 2 [x0, x1, x2, x3, x4, x5, x6, x7, x8, x9, x10] [.int 0, .int v0] I J P Q := wp_iconst (by decide) dX3_kinkAbove_1
theorem e_X3_kinkAbove_2 {v0 : Int32} {v1 : Int32} {x0 x1 x2 x3 x4 x5 x6 x7 x8 x9 x10 : Option Value} : Wp S N (d + 1) MX3_kinkAbove 2 [x0, x1, x2, x3, x4, x5, x6, x7, x8, x9, x10] [.int v0, .int v1] I J P Q ↔ Wp S N (d + 1) MX3_kinkAbove 5 [x0, x1, x2, x3, x4, x5, x6, x7, x8, x9, x10] [.int (if v1 < v0 then v0 else v1)] I J P Q := wp_imax rfl rfl (Nat.le_of_ble_eq_true rfl) dX3_kinkAbove_2
theorem e_X3_kinkAbove_5 {v0 : Int32} {x0 x1 x2 x3 x4 x5 x6 x7 x8 x9 x10 : Option Value} : Wp S N d MX3_kinkAbove 5 [x0, x1, x2, x3, x4, x5, x6, x7, x8, x9, x10] [.int v0] I J P Q ↔ Wp S N d MX3_kinkAbove 6 [x0, x1, kl x2, some (.int v0), x4, x5, x6, x7, x8, x9, x10] [] I J P Q := wp_sto (len := 1) rfl rfl rfl rfl (Nat.le_of_ble_eq_true rfl) rfl dX3_kinkAbove_5
theorem e_X3_kinkAbove_6 {w : Int32} {x0 x1 x2 x4 x5 x6 x7 x8 x9 x10 : Option Value} : Wp S N d MX3_kinkAbove 6 [x0, x1, x2, some (.int w), x4, x5, x6, x7, x8, x9, x10] [] I J P Q ↔ Wp S N d MX3_kinkAbove 7 [x0, x1, x2, some (.int w), x4, x5, x6, x7, x8, x9, x10] [.int w] I J P Q := wp_lod (len := 1) rfl rfl rfl rfl dX3_kinkAbove_6
theorem e_X3_kinkAbove_7 {v0 : Int32} {x0 x1 x2 x3 x4 x5 x6 x7 x8 x9 x10 : Option Value} : Wp S N d MX3_kinkAbove 7 [x0, x1, x2, x3, x4, x5, x6, x7, x8, x9, x10] [.int v0] I J P Q ↔ Wp S N d MX3_kinkAbove 10 [x0, x1, x2, x3, x4, x5, x6, x7, x8, x9, x10] [.int 9998, .int v0] I J P Q := wp_sipush (by decide) dX3_kinkAbove_7
theorem e_X3_kinkAbove_10 {v0 : Int32} {v1 : Int32} {x0 x1 x2 x3 x4 x5 x6 x7 x8 x9 x10 : Option Value} : Wp S N d MX3_kinkAbove 10 [x0, x1, x2, x3, x4, x5, x6, x7, x8, x9, x10] [.int v0, .int v1] I J P Q ↔ (v1 < v0 → Wp S N d MX3_kinkAbove 15 [x0, x1, x2, x3, x4, x5, x6, x7, x8, x9, x10] [] I J P Q) ∧ (¬ v1 < v0 → Wp S N d MX3_kinkAbove 13 [x0, x1, x2, x3, x4, x5, x6, x7, x8, x9, x10] [] I J P Q) := wp_br rfl rfl (by decide) dX3_kinkAbove_10
theorem e_X3_kinkAbove_13  {x0 x1 x2 x3 x4 x5 x6 x7 x8 x9 x10 : Option Value} : Wp S N d MX3_kinkAbove 13 [x0, x1, x2, x3, x4, x5, x6, x7, x8, x9, x10] [] I J P Q ↔ Wp S N d MX3_kinkAbove 14 [x0, x1, x2, x3, x4, x5, x6, x7, x8, x9, x10] [.int (-1)] I J P Q := wp_iconst (by decide) dX3_kinkAbove_13
theorem e_X3_kinkAbove_14 {v0 : Int32} {x0 x1 x2 x3 x4 x5 x6 x7 x8 x9 x10 : Option Value} : Wp S N d MX3_kinkAbove 14 [x0, x1, x2, x3, x4, x5, x6, x7, x8, x9, x10] [.int v0] I J P Q ↔ Q (some (.int v0)) I J P := wp_iret rfl dX3_kinkAbove_14
theorem e_X3_kinkAbove_15 {w : Nat} {x1 x2 x3 x4 x5 x6 x7 x8 x9 x10 : Option Value} : Wp S N d MX3_kinkAbove 15 [some (.ref w), x1, x2, x3, x4, x5, x6, x7, x8, x9, x10] [] I J P Q ↔ Wp S N d MX3_kinkAbove 16 [some (.ref w), x1, x2, x3, x4, x5, x6, x7, x8, x9, x10] [.ref w] I J P Q := wp_lod (len := 1) rfl rfl rfl rfl dX3_kinkAbove_15
theorem e_X3_kinkAbove_16 {v0 : Nat} {w : Nat} {x0 x2 x3 x4 x5 x6 x7 x8 x9 x10 : Option Value} : Wp S N d MX3_kinkAbove 16 [x0, some (.ref w), x2, x3, x4, x5, x6, x7, x8, x9, x10] [.ref v0] I J P Q ↔ Wp S N d MX3_kinkAbove 17 [x0, some (.ref w), x2, x3, x4, x5, x6, x7, x8, x9, x10] [.ref w, .ref v0] I J P Q := wp_lod (len := 1) rfl rfl rfl rfl dX3_kinkAbove_16
theorem e_X3_kinkAbove_17 {v0 : Nat} {v1 : Nat} {w : Int32} {x0 x1 x2 x4 x5 x6 x7 x8 x9 x10 : Option Value} : Wp S N d MX3_kinkAbove 17 [x0, x1, x2, some (.int w), x4, x5, x6, x7, x8, x9, x10] [.ref v0, .ref v1] I J P Q ↔ Wp S N d MX3_kinkAbove 18 [x0, x1, x2, some (.int w), x4, x5, x6, x7, x8, x9, x10] [.int w, .ref v0, .ref v1] I J P Q := wp_lod (len := 1) rfl rfl rfl rfl dX3_kinkAbove_17
theorem e_X3_kinkAbove_18 {v0 : Int32} {v1 : Nat} {v2 : Nat} {x0 x1 x2 x3 x4 x5 x6 x7 x8 x9 x10 : Option Value} : Wp S N (d + 1) MX3_kinkAbove 18 [x0, x1, x2, x3, x4, x5, x6, x7, x8, x9, x10] [.int v0, .ref v1, .ref v2] I J P Q ↔ S v2 = 3 ∧ CWp S N d MX3_taxAt [.ref v2, .ref v1, .int v0] I J P (fun r I1 J1 P1 => Wp S N (d + 1) MX3_kinkAbove 21 [x0, x1, x2, x3, x4, x5, x6, x7, x8, x9, x10] (r.toList ++ []) I1 J1 P1 Q) := wp_callV (M' := MX3_taxAt) (As := [.ref v1, .int v0]) rfl rfl rfl rfl (by decide) (Nat.le_of_ble_eq_true rfl) dX3_kinkAbove_18
theorem e_X3_kinkAbove_21 {v0 : Int64} {x0 x1 x2 x3 x4 x5 x6 x7 x8 x9 x10 : Option Value} : Wp S N d MX3_kinkAbove 21 [x0, x1, x2, x3, x4, x5, x6, x7, x8, x9, x10] [.long v0] I J P Q ↔ Wp S N d MX3_kinkAbove 23 [x0, x1, x2, kl x3, some (.long v0), none, x6, x7, x8, x9, x10] [] I J P Q := wp_sto (len := 2) rfl rfl rfl rfl (Nat.le_of_ble_eq_true rfl) rfl dX3_kinkAbove_21
theorem e_X3_kinkAbove_23 {w : Nat} {x1 x2 x3 x4 x5 x6 x7 x8 x9 x10 : Option Value} : Wp S N d MX3_kinkAbove 23 [some (.ref w), x1, x2, x3, x4, x5, x6, x7, x8, x9, x10] [] I J P Q ↔ Wp S N d MX3_kinkAbove 24 [some (.ref w), x1, x2, x3, x4, x5, x6, x7, x8, x9, x10] [.ref w] I J P Q := wp_lod (len := 1) rfl rfl rfl rfl dX3_kinkAbove_23
theorem e_X3_kinkAbove_24 {v0 : Nat} {w : Nat} {x0 x2 x3 x4 x5 x6 x7 x8 x9 x10 : Option Value} : Wp S N d MX3_kinkAbove 24 [x0, some (.ref w), x2, x3, x4, x5, x6, x7, x8, x9, x10] [.ref v0] I J P Q ↔ Wp S N d MX3_kinkAbove 25 [x0, some (.ref w), x2, x3, x4, x5, x6, x7, x8, x9, x10] [.ref w, .ref v0] I J P Q := wp_lod (len := 1) rfl rfl rfl rfl dX3_kinkAbove_24
theorem e_X3_kinkAbove_25 {v0 : Nat} {v1 : Nat} {w : Int32} {x0 x1 x2 x4 x5 x6 x7 x8 x9 x10 : Option Value} : Wp S N d MX3_kinkAbove 25 [x0, x1, x2, some (.int w), x4, x5, x6, x7, x8, x9, x10] [.ref v0, .ref v1] I J P Q ↔ Wp S N d MX3_kinkAbove 26 [x0, x1, x2, some (.int w), x4, x5, x6, x7, x8, x9, x10] [.int w, .ref v0, .ref v1] I J P Q := wp_lod (len := 1) rfl rfl rfl rfl dX3_kinkAbove_25
theorem e_X3_kinkAbove_26 {v0 : Int32} {v1 : Nat} {v2 : Nat} {x0 x1 x2 x3 x4 x5 x6 x7 x8 x9 x10 : Option Value} : Wp S N d MX3_kinkAbove 26 [x0, x1, x2, x3, x4, x5, x6, x7, x8, x9, x10] [.int v0, .ref v1, .ref v2] I J P Q ↔ Wp S N d MX3_kinkAbove 27 [x0, x1, x2, x3, x4, x5, x6, x7, x8, x9, x10] [.int 1, .int v0, .ref v1, .ref v2] I J P Q := wp_iconst (by decide) dX3_kinkAbove_26
theorem e_X3_kinkAbove_27 {v0 : Int32} {v1 : Int32} {v2 : Nat} {v3 : Nat} {x0 x1 x2 x3 x4 x5 x6 x7 x8 x9 x10 : Option Value} : Wp S N d MX3_kinkAbove 27 [x0, x1, x2, x3, x4, x5, x6, x7, x8, x9, x10] [.int v0, .int v1, .ref v2, .ref v3] I J P Q ↔ Wp S N d MX3_kinkAbove 28 [x0, x1, x2, x3, x4, x5, x6, x7, x8, x9, x10] [.int (v1 + v0), .ref v2, .ref v3] I J P Q := wp_alu (len := 1) rfl rfl rfl dX3_kinkAbove_27
theorem e_X3_kinkAbove_28 {v0 : Int32} {v1 : Nat} {v2 : Nat} {x0 x1 x2 x3 x4 x5 x6 x7 x8 x9 x10 : Option Value} : Wp S N (d + 1) MX3_kinkAbove 28 [x0, x1, x2, x3, x4, x5, x6, x7, x8, x9, x10] [.int v0, .ref v1, .ref v2] I J P Q ↔ S v2 = 3 ∧ CWp S N d MX3_taxAt [.ref v2, .ref v1, .int v0] I J P (fun r I1 J1 P1 => Wp S N (d + 1) MX3_kinkAbove 31 [x0, x1, x2, x3, x4, x5, x6, x7, x8, x9, x10] (r.toList ++ []) I1 J1 P1 Q) := wp_callV (M' := MX3_taxAt) (As := [.ref v1, .int v0]) rfl rfl rfl rfl (by decide) (Nat.le_of_ble_eq_true rfl) dX3_kinkAbove_28
theorem e_X3_kinkAbove_31 {v0 : Int64} {x0 x1 x2 x3 x4 x5 x6 x7 x8 x9 x10 : Option Value} : Wp S N d MX3_kinkAbove 31 [x0, x1, x2, x3, x4, x5, x6, x7, x8, x9, x10] [.long v0] I J P Q ↔ Wp S N d MX3_kinkAbove 33 [x0, x1, x2, x3, x4, kl x5, some (.long v0), none, x8, x9, x10] [] I J P Q := wp_sto (len := 2) rfl rfl rfl rfl (Nat.le_of_ble_eq_true rfl) rfl dX3_kinkAbove_31
theorem e_X3_kinkAbove_33 {w : Int32} {x0 x1 x2 x4 x5 x6 x7 x8 x9 x10 : Option Value} : Wp S N d MX3_kinkAbove 33 [x0, x1, x2, some (.int w), x4, x5, x6, x7, x8, x9, x10] [] I J P Q ↔ Wp S N d MX3_kinkAbove 34 [x0, x1, x2, some (.int w), x4, x5, x6, x7, x8, x9, x10] [.int w] I J P Q := wp_lod (len := 1) rfl rfl rfl rfl dX3_kinkAbove_33
theorem e_X3_kinkAbove_34 {v0 : Int32} {x0 x1 x2 x3 x4 x5 x6 x7 x8 x9 x10 : Option Value} : Wp S N d MX3_kinkAbove 34 [x0, x1, x2, x3, x4, x5, x6, x7, x8, x9, x10] [.int v0] I J P Q ↔ Wp S N d MX3_kinkAbove 35 [x0, x1, x2, x3, x4, x5, x6, x7, x8, x9, x10] [.int 1, .int v0] I J P Q := wp_iconst (by decide) dX3_kinkAbove_34
theorem e_X3_kinkAbove_35 {v0 : Int32} {v1 : Int32} {x0 x1 x2 x3 x4 x5 x6 x7 x8 x9 x10 : Option Value} : Wp S N d MX3_kinkAbove 35 [x0, x1, x2, x3, x4, x5, x6, x7, x8, x9, x10] [.int v0, .int v1] I J P Q ↔ Wp S N d MX3_kinkAbove 36 [x0, x1, x2, x3, x4, x5, x6, x7, x8, x9, x10] [.int (v1 + v0)] I J P Q := wp_alu (len := 1) rfl rfl rfl dX3_kinkAbove_35
theorem e_X3_kinkAbove_36 {v0 : Int32} {x0 x1 x2 x3 x4 x5 x6 x7 x8 x9 x10 : Option Value} : Wp S N d MX3_kinkAbove 36 [x0, x1, x2, x3, x4, x5, x6, x7, x8, x9, x10] [.int v0] I J P Q ↔ Wp S N d MX3_kinkAbove 38 [x0, x1, x2, x3, x4, x5, x6, kl x7, some (.int v0), x9, x10] [] I J P Q := wp_sto (len := 2) rfl rfl rfl rfl (Nat.le_of_ble_eq_true rfl) rfl dX3_kinkAbove_36
theorem e_X3_kinkAbove_38 {w : Int32} {x0 x1 x2 x3 x4 x5 x6 x7 x9 x10 : Option Value} : Wp S N d MX3_kinkAbove 38 [x0, x1, x2, x3, x4, x5, x6, x7, some (.int w), x9, x10] [] I J P Q ↔ Wp S N d MX3_kinkAbove 40 [x0, x1, x2, x3, x4, x5, x6, x7, some (.int w), x9, x10] [.int w] I J P Q := wp_lod (len := 2) rfl rfl rfl rfl dX3_kinkAbove_38
theorem e_X3_kinkAbove_40 {v0 : Int32} {x0 x1 x2 x3 x4 x5 x6 x7 x8 x9 x10 : Option Value} : Wp S N d MX3_kinkAbove 40 [x0, x1, x2, x3, x4, x5, x6, x7, x8, x9, x10] [.int v0] I J P Q ↔ Wp S N d MX3_kinkAbove 43 [x0, x1, x2, x3, x4, x5, x6, x7, x8, x9, x10] [.int 9999, .int v0] I J P Q := wp_sipush (by decide) dX3_kinkAbove_40
theorem e_X3_kinkAbove_43 {v0 : Int32} {v1 : Int32} {x0 x1 x2 x3 x4 x5 x6 x7 x8 x9 x10 : Option Value} : Wp S N d MX3_kinkAbove 43 [x0, x1, x2, x3, x4, x5, x6, x7, x8, x9, x10] [.int v0, .int v1] I J P Q ↔ (v0 ≤ v1 → Wp S N d MX3_kinkAbove 88 [x0, x1, x2, x3, x4, x5, x6, x7, x8, x9, x10] [] I J P Q) ∧ (¬ v0 ≤ v1 → Wp S N d MX3_kinkAbove 46 [x0, x1, x2, x3, x4, x5, x6, x7, x8, x9, x10] [] I J P Q) := wp_br rfl rfl (by decide) dX3_kinkAbove_43
theorem e_X3_kinkAbove_46 {w : Nat} {x1 x2 x3 x4 x5 x6 x7 x8 x9 x10 : Option Value} : Wp S N d MX3_kinkAbove 46 [some (.ref w), x1, x2, x3, x4, x5, x6, x7, x8, x9, x10] [] I J P Q ↔ Wp S N d MX3_kinkAbove 47 [some (.ref w), x1, x2, x3, x4, x5, x6, x7, x8, x9, x10] [.ref w] I J P Q := wp_lod (len := 1) rfl rfl rfl rfl dX3_kinkAbove_46
theorem e_X3_kinkAbove_47 {v0 : Nat} {w : Nat} {x0 x2 x3 x4 x5 x6 x7 x8 x9 x10 : Option Value} : Wp S N d MX3_kinkAbove 47 [x0, some (.ref w), x2, x3, x4, x5, x6, x7, x8, x9, x10] [.ref v0] I J P Q ↔ Wp S N d MX3_kinkAbove 48 [x0, some (.ref w), x2, x3, x4, x5, x6, x7, x8, x9, x10] [.ref w, .ref v0] I J P Q := wp_lod (len := 1) rfl rfl rfl rfl dX3_kinkAbove_47
theorem e_X3_kinkAbove_48 {v0 : Nat} {v1 : Nat} {w : Int32} {x0 x1 x2 x3 x4 x5 x6 x7 x9 x10 : Option Value} : Wp S N d MX3_kinkAbove 48 [x0, x1, x2, x3, x4, x5, x6, x7, some (.int w), x9, x10] [.ref v0, .ref v1] I J P Q ↔ Wp S N d MX3_kinkAbove 50 [x0, x1, x2, x3, x4, x5, x6, x7, some (.int w), x9, x10] [.int w, .ref v0, .ref v1] I J P Q := wp_lod (len := 2) rfl rfl rfl rfl dX3_kinkAbove_48
theorem e_X3_kinkAbove_50 {v0 : Int32} {v1 : Nat} {v2 : Nat} {x0 x1 x2 x3 x4 x5 x6 x7 x8 x9 x10 : Option Value} : Wp S N d MX3_kinkAbove 50 [x0, x1, x2, x3, x4, x5, x6, x7, x8, x9, x10] [.int v0, .ref v1, .ref v2] I J P Q ↔ Wp S N d MX3_kinkAbove 51 [x0, x1, x2, x3, x4, x5, x6, x7, x8, x9, x10] [.int 1, .int v0, .ref v1, .ref v2] I J P Q := wp_iconst (by decide) dX3_kinkAbove_50
theorem e_X3_kinkAbove_51 {v0 : Int32} {v1 : Int32} {v2 : Nat} {v3 : Nat} {x0 x1 x2 x3 x4 x5 x6 x7 x8 x9 x10 : Option Value} : Wp S N d MX3_kinkAbove 51 [x0, x1, x2, x3, x4, x5, x6, x7, x8, x9, x10] [.int v0, .int v1, .ref v2, .ref v3] I J P Q ↔ Wp S N d MX3_kinkAbove 52 [x0, x1, x2, x3, x4, x5, x6, x7, x8, x9, x10] [.int (v1 + v0), .ref v2, .ref v3] I J P Q := wp_alu (len := 1) rfl rfl rfl dX3_kinkAbove_51
theorem e_X3_kinkAbove_52 {v0 : Int32} {v1 : Nat} {v2 : Nat} {x0 x1 x2 x3 x4 x5 x6 x7 x8 x9 x10 : Option Value} : Wp S N (d + 1) MX3_kinkAbove 52 [x0, x1, x2, x3, x4, x5, x6, x7, x8, x9, x10] [.int v0, .ref v1, .ref v2] I J P Q ↔ S v2 = 3 ∧ CWp S N d MX3_taxAt [.ref v2, .ref v1, .int v0] I J P (fun r I1 J1 P1 => Wp S N (d + 1) MX3_kinkAbove 55 [x0, x1, x2, x3, x4, x5, x6, x7, x8, x9, x10] (r.toList ++ []) I1 J1 P1 Q) := wp_callV (M' := MX3_taxAt) (As := [.ref v1, .int v0]) rfl rfl rfl rfl (by decide) (Nat.le_of_ble_eq_true rfl) dX3_kinkAbove_52
theorem e_X3_kinkAbove_55 {v0 : Int64} {x0 x1 x2 x3 x4 x5 x6 x7 x8 x9 x10 : Option Value} : Wp S N d MX3_kinkAbove 55 [x0, x1, x2, x3, x4, x5, x6, x7, x8, x9, x10] [.long v0] I J P Q ↔ Wp S N d MX3_kinkAbove 57 [x0, x1, x2, x3, x4, x5, x6, x7, kl x8, some (.long v0), none] [] I J P Q := wp_sto (len := 2) rfl rfl rfl rfl (Nat.le_of_ble_eq_true rfl) rfl dX3_kinkAbove_55
theorem e_X3_kinkAbove_57 {w : Int64} {x0 x1 x2 x3 x4 x5 x6 x7 x8 x10 : Option Value} : Wp S N d MX3_kinkAbove 57 [x0, x1, x2, x3, x4, x5, x6, x7, x8, some (.long w), x10] [] I J P Q ↔ Wp S N d MX3_kinkAbove 59 [x0, x1, x2, x3, x4, x5, x6, x7, x8, some (.long w), x10] [.long w] I J P Q := wp_lod (len := 2) rfl rfl rfl rfl dX3_kinkAbove_57
theorem e_X3_kinkAbove_59 {v0 : Int64} {w : Int64} {x0 x1 x2 x3 x4 x5 x7 x8 x9 x10 : Option Value} : Wp S N d MX3_kinkAbove 59 [x0, x1, x2, x3, x4, x5, some (.long w), x7, x8, x9, x10] [.long v0] I J P Q ↔ Wp S N d MX3_kinkAbove 61 [x0, x1, x2, x3, x4, x5, some (.long w), x7, x8, x9, x10] [.long w, .long v0] I J P Q := wp_lod (len := 2) rfl rfl rfl rfl dX3_kinkAbove_59
theorem e_X3_kinkAbove_61 {v0 : Int64} {v1 : Int64} {x0 x1 x2 x3 x4 x5 x6 x7 x8 x9 x10 : Option Value} : Wp S N d MX3_kinkAbove 61 [x0, x1, x2, x3, x4, x5, x6, x7, x8, x9, x10] [.long v0, .long v1] I J P Q ↔ Wp S N d MX3_kinkAbove 62 [x0, x1, x2, x3, x4, x5, x6, x7, x8, x9, x10] [.long (v1 - v0)] I J P Q := wp_alu (len := 1) rfl rfl rfl dX3_kinkAbove_61
theorem e_X3_kinkAbove_62 {v0 : Int64} {w : Int64} {x0 x1 x2 x3 x4 x5 x7 x8 x9 x10 : Option Value} : Wp S N d MX3_kinkAbove 62 [x0, x1, x2, x3, x4, x5, some (.long w), x7, x8, x9, x10] [.long v0] I J P Q ↔ Wp S N d MX3_kinkAbove 64 [x0, x1, x2, x3, x4, x5, some (.long w), x7, x8, x9, x10] [.long w, .long v0] I J P Q := wp_lod (len := 2) rfl rfl rfl rfl dX3_kinkAbove_62
theorem e_X3_kinkAbove_64 {v0 : Int64} {v1 : Int64} {w : Int64} {x0 x1 x2 x3 x5 x6 x7 x8 x9 x10 : Option Value} : Wp S N d MX3_kinkAbove 64 [x0, x1, x2, x3, some (.long w), x5, x6, x7, x8, x9, x10] [.long v0, .long v1] I J P Q ↔ Wp S N d MX3_kinkAbove 66 [x0, x1, x2, x3, some (.long w), x5, x6, x7, x8, x9, x10] [.long w, .long v0, .long v1] I J P Q := wp_lod (len := 2) rfl rfl rfl rfl dX3_kinkAbove_64
theorem e_X3_kinkAbove_66 {v0 : Int64} {v1 : Int64} {v2 : Int64} {x0 x1 x2 x3 x4 x5 x6 x7 x8 x9 x10 : Option Value} : Wp S N d MX3_kinkAbove 66 [x0, x1, x2, x3, x4, x5, x6, x7, x8, x9, x10] [.long v0, .long v1, .long v2] I J P Q ↔ Wp S N d MX3_kinkAbove 67 [x0, x1, x2, x3, x4, x5, x6, x7, x8, x9, x10] [.long (v1 - v0), .long v2] I J P Q := wp_alu (len := 1) rfl rfl rfl dX3_kinkAbove_66
theorem e_X3_kinkAbove_67 {v0 : Int64} {v1 : Int64} {x0 x1 x2 x3 x4 x5 x6 x7 x8 x9 x10 : Option Value} : Wp S N d MX3_kinkAbove 67 [x0, x1, x2, x3, x4, x5, x6, x7, x8, x9, x10] [.long v0, .long v1] I J P Q ↔ Wp S N d MX3_kinkAbove 68 [x0, x1, x2, x3, x4, x5, x6, x7, x8, x9, x10] [.int (lg_cmp v1 v0)] I J P Q := wp_alu (len := 1) rfl rfl rfl dX3_kinkAbove_67
theorem e_X3_kinkAbove_68 {v0 : Int32} {x0 x1 x2 x3 x4 x5 x6 x7 x8 x9 x10 : Option Value} : Wp S N d MX3_kinkAbove 68 [x0, x1, x2, x3, x4, x5, x6, x7, x8, x9, x10] [.int v0] I J P Q ↔ (v0 = 0 → Wp S N d MX3_kinkAbove 74 [x0, x1, x2, x3, x4, x5, x6, x7, x8, x9, x10] [] I J P Q) ∧ (¬ v0 = 0 → Wp S N d MX3_kinkAbove 71 [x0, x1, x2, x3, x4, x5, x6, x7, x8, x9, x10] [] I J P Q) := wp_br rfl rfl (by decide) dX3_kinkAbove_68
theorem e_X3_kinkAbove_71 {w : Int32} {x0 x1 x2 x3 x4 x5 x6 x7 x9 x10 : Option Value} : Wp S N d MX3_kinkAbove 71 [x0, x1, x2, x3, x4, x5, x6, x7, some (.int w), x9, x10] [] I J P Q ↔ Wp S N d MX3_kinkAbove 73 [x0, x1, x2, x3, x4, x5, x6, x7, some (.int w), x9, x10] [.int w] I J P Q := wp_lod (len := 2) rfl rfl rfl rfl dX3_kinkAbove_71
theorem e_X3_kinkAbove_73 {v0 : Int32} {x0 x1 x2 x3 x4 x5 x6 x7 x8 x9 x10 : Option Value} : Wp S N d MX3_kinkAbove 73 [x0, x1, x2, x3, x4, x5, x6, x7, x8, x9, x10] [.int v0] I J P Q ↔ Q (some (.int v0)) I J P := wp_iret rfl dX3_kinkAbove_73
theorem e_X3_kinkAbove_74 {w : Int64} {x0 x1 x2 x3 x4 x5 x7 x8 x9 x10 : Option Value} : Wp S N d MX3_kinkAbove 74 [x0, x1, x2, x3, x4, x5, some (.long w), x7, x8, x9, x10] [] I J P Q ↔ Wp S N d MX3_kinkAbove 76 [x0, x1, x2, x3, x4, x5, some (.long w), x7, x8, x9, x10] [.long w] I J P Q := wp_lod (len := 2) rfl rfl rfl rfl dX3_kinkAbove_74
theorem e_X3_kinkAbove_76 {v0 : Int64} {x0 x1 x2 x3 x4 x5 x6 x7 x8 x9 x10 : Option Value} : Wp S N d MX3_kinkAbove 76 [x0, x1, x2, x3, x4, x5, x6, x7, x8, x9, x10] [.long v0] I J P Q ↔ Wp S N d MX3_kinkAbove 78 [x0, x1, x2, kl x3, some (.long v0), none, x6, x7, x8, x9, x10] [] I J P Q := wp_sto (len := 2) rfl rfl rfl rfl (Nat.le_of_ble_eq_true rfl) rfl dX3_kinkAbove_76
theorem e_X3_kinkAbove_78 {w : Int64} {x0 x1 x2 x3 x4 x5 x6 x7 x8 x10 : Option Value} : Wp S N d MX3_kinkAbove 78 [x0, x1, x2, x3, x4, x5, x6, x7, x8, some (.long w), x10] [] I J P Q ↔ Wp S N d MX3_kinkAbove 80 [x0, x1, x2, x3, x4, x5, x6, x7, x8, some (.long w), x10] [.long w] I J P Q := wp_lod (len := 2) rfl rfl rfl rfl dX3_kinkAbove_78
theorem e_X3_kinkAbove_80 {v0 : Int64} {x0 x1 x2 x3 x4 x5 x6 x7 x8 x9 x10 : Option Value} : Wp S N d MX3_kinkAbove 80 [x0, x1, x2, x3, x4, x5, x6, x7, x8, x9, x10] [.long v0] I J P Q ↔ Wp S N d MX3_kinkAbove 82 [x0, x1, x2, x3, x4, kl x5, some (.long v0), none, x8, x9, x10] [] I J P Q := wp_sto (len := 2) rfl rfl rfl rfl (Nat.le_of_ble_eq_true rfl) rfl dX3_kinkAbove_80
theorem e_X3_kinkAbove_82 {w : Int32} {x0 x1 x2 x3 x4 x5 x6 x7 x9 x10 : Option Value} : Wp S N d MX3_kinkAbove 82 [x0, x1, x2, x3, x4, x5, x6, x7, some (.int w), x9, x10] [] I J P Q ↔ Wp S N d MX3_kinkAbove 85 [x0, x1, x2, x3, x4, x5, x6, kl x7, some (.int (w + 1)), x9, x10] [] I J P Q := wp_inc rfl rfl dX3_kinkAbove_82
theorem e_X3_kinkAbove_85  {x0 x1 x2 x3 x4 x5 x6 x7 x8 x9 x10 : Option Value} : Wp S N d MX3_kinkAbove 85 [x0, x1, x2, x3, x4, x5, x6, x7, x8, x9, x10] [] I J P Q ↔ Wp S N d MX3_kinkAbove 38 [x0, x1, x2, x3, x4, x5, x6, x7, x8, x9, x10] [] I J P Q := wp_go (len := 3) rfl (fun _ _ => rfl) rfl (by decide) dX3_kinkAbove_85
theorem e_X3_kinkAbove_88  {x0 x1 x2 x3 x4 x5 x6 x7 x8 x9 x10 : Option Value} : Wp S N d MX3_kinkAbove 88 [x0, x1, x2, x3, x4, x5, x6, x7, x8, x9, x10] [] I J P Q ↔ Wp S N d MX3_kinkAbove 89 [x0, x1, x2, x3, x4, x5, x6, x7, x8, x9, x10] [.int (-1)] I J P Q := wp_iconst (by decide) dX3_kinkAbove_88
theorem e_X3_kinkAbove_89 {v0 : Int32} {x0 x1 x2 x3 x4 x5 x6 x7 x8 x9 x10 : Option Value} : Wp S N d MX3_kinkAbove 89 [x0, x1, x2, x3, x4, x5, x6, x7, x8, x9, x10] [.int v0] I J P Q ↔ Q (some (.int v0)) I J P := wp_iret rfl dX3_kinkAbove_89
theorem dX3_countKinks_0 : decode cX3_countKinks 0 = .ok (.iconst 0, 1) := by decide +kernel
theorem dX3_countKinks_1 : decode cX3_countKinks 1 = .ok (.istore_n 2, 1) := by decide +kernel
theorem dX3_countKinks_2 : decode cX3_countKinks 2 = .ok (.aload_n 0, 1) := by decide +kernel
theorem dX3_countKinks_3 : decode cX3_countKinks 3 = .ok (.aload_n 1, 1) := by decide +kernel
theorem dX3_countKinks_4 : decode cX3_countKinks 4 = .ok (.iconst 0, 1) := by decide +kernel
theorem dX3_countKinks_5 : decode cX3_countKinks 5 = .ok (.invokevirtual 54, 3) := by decide +kernel
theorem dX3_countKinks_8 : decode cX3_countKinks 8 = .ok (.istore_n 3, 1) := by decide +kernel
theorem dX3_countKinks_9 : decode cX3_countKinks 9 = .ok (.iload_n 2, 1) := by decide +kernel
theorem dX3_countKinks_10 : decode cX3_countKinks 10 = .ok (.sipush 9999, 3) := by decide +kernel
theorem dX3_countKinks_13 : decode cX3_countKinks 13 = .ok (.if_icmp .ge 21, 3) := by decide +kernel
theorem dX3_countKinks_16 : decode cX3_countKinks 16 = .ok (.iload_n 3, 1) := by decide +kernel
theorem dX3_countKinks_17 : decode cX3_countKinks 17 = .ok (.iconst (-1), 1) := by decide +kernel
theorem dX3_countKinks_18 : decode cX3_countKinks 18 = .ok (.if_icmp .eq 16, 3) := by decide +kernel
theorem dX3_countKinks_21 : decode cX3_countKinks 21 = .ok (.iinc 2 1, 3) := by decide +kernel
theorem dX3_countKinks_24 : decode cX3_countKinks 24 = .ok (.aload_n 0, 1) := by decide +kernel
theorem dX3_countKinks_25 : decode cX3_countKinks 25 = .ok (.aload_n 1, 1) := by decide +kernel
theorem dX3_countKinks_26 : decode cX3_countKinks 26 = .ok (.iload_n 3, 1) := by decide +kernel
theorem dX3_countKinks_27 : decode cX3_countKinks 27 = .ok (.invokevirtual 54, 3) := by decide +kernel
theorem dX3_countKinks_30 : decode cX3_countKinks 30 = .ok (.istore_n 3, 1) := by decide +kernel
theorem dX3_countKinks_31 : decode cX3_countKinks 31 = .ok (.goto (-22), 3) := by decide +kernel
theorem dX3_countKinks_34 : decode cX3_countKinks 34 = .ok (.iload_n 2, 1) := by decide +kernel
theorem dX3_countKinks_35 : decode cX3_countKinks 35 = .ok (.ireturn, 1) := by decide +kernel
theorem c_X3_countKinks {a0 : Nat} {a1 : Nat} : CWp S N d MX3_countKinks [.ref a0, .ref a1] I J P Q ↔ Wp S N d MX3_countKinks 0 [some (.ref a0), some (.ref a1), none, none] [] I J P Q := by
  rw [cwp_iff]
  exact ⟨fun h => h.2, fun h => ⟨Nat.le_of_ble_eq_true rfl, h⟩⟩
theorem e_X3_countKinks_0  {x0 x1 x2 x3 : Option Value} : Wp S N d MX3_countKinks 0 [x0, x1, x2, x3] [] I J P Q ↔ Wp S N d MX3_countKinks 1 [x0, x1, x2, x3] [.int 0] I J P Q := wp_iconst (by decide) dX3_countKinks_0
theorem e_X3_countKinks_1 {v0 : Int32} {x0 x1 x2 x3 : Option Value} : Wp S N d MX3_countKinks 1 [x0, x1, x2, x3] [.int v0] I J P Q ↔ Wp S N d MX3_countKinks 2 [x0, kl x1, some (.int v0), x3] [] I J P Q := wp_sto (len := 1) rfl rfl rfl rfl (Nat.le_of_ble_eq_true rfl) rfl dX3_countKinks_1
theorem e_X3_countKinks_2 {w : Nat} {x1 x2 x3 : Option Value} : Wp S N d MX3_countKinks 2 [some (.ref w), x1, x2, x3] [] I J P Q ↔ Wp S N d MX3_countKinks 3 [some (.ref w), x1, x2, x3] [.ref w] I J P Q := wp_lod (len := 1) rfl rfl rfl rfl dX3_countKinks_2
theorem e_X3_countKinks_3 {v0 : Nat} {w : Nat} {x0 x2 x3 : Option Value} : Wp S N d MX3_countKinks 3 [x0, some (.ref w), x2, x3] [.ref v0] I J P Q ↔ Wp S N d MX3_countKinks 4 [x0, some (.ref w), x2, x3] [.ref w, .ref v0] I J P Q := wp_lod (len := 1) rfl rfl rfl rfl dX3_countKinks_3
theorem e_X3_countKinks_4 {v0 : Nat} {v1 : Nat} {x0 x1 x2 x3 : Option Value} : Wp S N d MX3_countKinks 4 [x0, x1, x2, x3] [.ref v0, .ref v1] I J P Q ↔ Wp S N d MX3_countKinks 5 [x0, x1, x2, x3] [.int 0, .ref v0, .ref v1] I J P Q := wp_iconst (by decide) dX3_countKinks_4
theorem e_X3_countKinks_5 {v0 : Int32} {v1 : Nat} {v2 : Nat} {x0 x1 x2 x3 : Option Value} : Wp S N (d + 1) MX3_countKinks 5 [x0, x1, x2, x3] [.int v0, .ref v1, .ref v2] I J P Q ↔ S v2 = 3 ∧ CWp S N d MX3_kinkAbove [.ref v2, .ref v1, .int v0] I J P (fun r I1 J1 P1 => Wp S N (d + 1) MX3_countKinks 8 [x0, x1, x2, x3] (r.toList ++ []) I1 J1 P1 Q) := wp_callV (M' := MX3_kinkAbove) (As := [.ref v1, .int v0]) rfl rfl rfl rfl (by decide) (Nat.le_of_ble_eq_true rfl) dX3_countKinks_5
theorem e_X3_countKinks_8 {v0 : Int32} {x0 x1 x2 x3 : Option Value} : Wp S N d MX3_countKinks 8 [x0, x1, x2, x3] [.int v0] I J P Q ↔ Wp S N d MX3_countKinks 9 [x0, x1, kl x2, some (.int v0)] [] I J P Q := wp_sto (len := 1) rfl rfl rfl rfl (Nat.le_of_ble_eq_true rfl) rfl dX3_countKinks_8
theorem e_X3_countKinks_9 {w : Int32} {x0 x1 x3 : Option Value} : Wp S N d MX3_countKinks 9 [x0, x1, some (.int w), x3] [] I J P Q ↔ Wp S N d MX3_countKinks 10 [x0, x1, some (.int w), x3] [.int w] I J P Q := wp_lod (len := 1) rfl rfl rfl rfl dX3_countKinks_9
theorem e_X3_countKinks_10 {v0 : Int32} {x0 x1 x2 x3 : Option Value} : Wp S N d MX3_countKinks 10 [x0, x1, x2, x3] [.int v0] I J P Q ↔ Wp S N d MX3_countKinks 13 [x0, x1, x2, x3] [.int 9999, .int v0] I J P Q := wp_sipush (by decide) dX3_countKinks_10
theorem e_X3_countKinks_13 {v0 : Int32} {v1 : Int32} {x0 x1 x2 x3 : Option Value} : Wp S N d MX3_countKinks 13 [x0, x1, x2, x3] [.int v0, .int v1] I J P Q ↔ (v0 ≤ v1 → Wp S N d MX3_countKinks 34 [x0, x1, x2, x3] [] I J P Q) ∧ (¬ v0 ≤ v1 → Wp S N d MX3_countKinks 16 [x0, x1, x2, x3] [] I J P Q) := wp_br rfl rfl (by decide) dX3_countKinks_13
theorem e_X3_countKinks_16 {w : Int32} {x0 x1 x2 : Option Value} : Wp S N d MX3_countKinks 16 [x0, x1, x2, some (.int w)] [] I J P Q ↔ Wp S N d MX3_countKinks 17 [x0, x1, x2, some (.int w)] [.int w] I J P Q := wp_lod (len := 1) rfl rfl rfl rfl dX3_countKinks_16
theorem e_X3_countKinks_17 {v0 : Int32} {x0 x1 x2 x3 : Option Value} : Wp S N d MX3_countKinks 17 [x0, x1, x2, x3] [.int v0] I J P Q ↔ Wp S N d MX3_countKinks 18 [x0, x1, x2, x3] [.int (-1), .int v0] I J P Q := wp_iconst (by decide) dX3_countKinks_17
theorem e_X3_countKinks_18 {v0 : Int32} {v1 : Int32} {x0 x1 x2 x3 : Option Value} : Wp S N d MX3_countKinks 18 [x0, x1, x2, x3] [.int v0, .int v1] I J P Q ↔ (v1 = v0 → Wp S N d MX3_countKinks 34 [x0, x1, x2, x3] [] I J P Q) ∧ (¬ v1 = v0 → Wp S N d MX3_countKinks 21 [x0, x1, x2, x3] [] I J P Q) := wp_br rfl rfl (by decide) dX3_countKinks_18
theorem e_X3_countKinks_21 {w : Int32} {x0 x1 x3 : Option Value} : Wp S N d MX3_countKinks 21 [x0, x1, some (.int w), x3] [] I J P Q ↔ Wp S N d MX3_countKinks 24 [x0, kl x1, some (.int (w + 1)), x3] [] I J P Q := wp_inc rfl rfl dX3_countKinks_21
theorem e_X3_countKinks_24 {w : Nat} {x1 x2 x3 : Option Value} : Wp S N d MX3_countKinks 24 [some (.ref w), x1, x2, x3] [] I J P Q ↔ Wp S N d MX3_countKinks 25 [some (.ref w), x1, x2, x3] [.ref w] I J P Q := wp_lod (len := 1) rfl rfl rfl rfl dX3_countKinks_24
theorem e_X3_countKinks_25 {v0 : Nat} {w : Nat} {x0 x2 x3 : Option Value} : Wp S N d MX3_countKinks 25 [x0, some (.ref w), x2, x3] [.ref v0] I J P Q ↔ Wp S N d MX3_countKinks 26 [x0, some (.ref w), x2, x3] [.ref w, .ref v0] I J P Q := wp_lod (len := 1) rfl rfl rfl rfl dX3_countKinks_25
theorem e_X3_countKinks_26 {v0 : Nat} {v1 : Nat} {w : Int32} {x0 x1 x2 : Option Value} : Wp S N d MX3_countKinks 26 [x0, x1, x2, some (.int w)] [.ref v0, .ref v1] I J P Q ↔ Wp S N d MX3_countKinks 27 [x0, x1, x2, some (.int w)] [.int w, .ref v0, .ref v1] I J P Q := wp_lod (len := 1) rfl rfl rfl rfl dX3_countKinks_26
theorem e_X3_countKinks_27 {v0 : Int32} {v1 : Nat} {v2 : Nat} {x0 x1 x2 x3 : Option Value} : Wp S N (d + 1) MX3_countKinks 27 [x0, x1, x2, x3] [.int v0, .ref v1, .ref v2] I J P Q ↔ S v2 = 3 ∧ CWp S N d MX3_kinkAbove [.ref v2, .ref v1, .int v0] I J P (fun r I1 J1 P1 => Wp S N (d + 1) MX3_countKinks 30 [x0, x1, x2, x3] (r.toList ++ []) I1 J1 P1 Q) := wp_callV (M' := MX3_kinkAbove) (As := [.ref v1, .int v0]) rfl rfl rfl rfl (by decide) (Nat.le_of_ble_eq_true rfl) dX3_countKinks_27
theorem e_X3_countKinks_30 {v0 : Int32} {x0 x1 x2 x3 : Option Value} : Wp S N d MX3_countKinks 30 [x0, x1, x2, x3] [.int v0] I J P Q ↔ Wp S N d MX3_countKinks 31 [x0, x1, kl x2, some (.int v0)] [] I J P Q := wp_sto (len := 1) rfl rfl rfl rfl (Nat.le_of_ble_eq_true rfl) rfl dX3_countKinks_30
theorem e_X3_countKinks_31  {x0 x1 x2 x3 : Option Value} : Wp S N d MX3_countKinks 31 [x0, x1, x2, x3] [] I J P Q ↔ Wp S N d MX3_countKinks 9 [x0, x1, x2, x3] [] I J P Q := wp_go (len := 3) rfl (fun _ _ => rfl) rfl (by decide) dX3_countKinks_31
theorem e_X3_countKinks_34 {w : Int32} {x0 x1 x3 : Option Value} : Wp S N d MX3_countKinks 34 [x0, x1, some (.int w), x3] [] I J P Q ↔ Wp S N d MX3_countKinks 35 [x0, x1, some (.int w), x3] [.int w] I J P Q := wp_lod (len := 1) rfl rfl rfl rfl dX3_countKinks_34
theorem e_X3_countKinks_35 {v0 : Int32} {x0 x1 x2 x3 : Option Value} : Wp S N d MX3_countKinks 35 [x0, x1, x2, x3] [.int v0] I J P Q ↔ Q (some (.int v0)) I J P := wp_iret rfl dX3_countKinks_35
theorem dX3_causeAt_0 : decode cX3_causeAt 0 = .ok (.iconst 3, 1) := by decide +kernel
theorem dX3_causeAt_1 : decode cX3_causeAt 1 = .ok (.aload_n 1, 1) := by decide +kernel
theorem dX3_causeAt_2 : decode cX3_causeAt 2 = .ok (.getfield 58, 3) := by decide +kernel
theorem dX3_causeAt_5 : decode cX3_causeAt 5 = .ok (.iadd, 1) := by decide +kernel
theorem dX3_causeAt_6 : decode cX3_causeAt 6 = .ok (.istore_n 3, 1) := by decide +kernel
theorem dX3_causeAt_7 : decode cX3_causeAt 7 = .ok (.iload_n 2, 1) := by decide +kernel
theorem dX3_causeAt_8 : decode cX3_causeAt 8 = .ok (.iconst 1, 1) := by decide +kernel
theorem dX3_causeAt_9 : decode cX3_causeAt 9 = .ok (.if_icmp .lt 20, 3) := by decide +kernel
theorem dX3_causeAt_12 : decode cX3_causeAt 12 = .ok (.iload_n 2, 1) := by decide +kernel
theorem dX3_causeAt_13 : decode cX3_causeAt 13 = .ok (.sipush 9999, 3) := by decide +kernel
theorem dX3_causeAt_16 : decode cX3_causeAt 16 = .ok (.if_icmp .ge 13, 3) := by decide +kernel
theorem dX3_causeAt_19 : decode cX3_causeAt 19 = .ok (.aload_n 0, 1) := by decide +kernel
theorem dX3_causeAt_20 : decode cX3_causeAt 20 = .ok (.aload_n 1, 1) := by decide +kernel
theorem dX3_causeAt_21 : decode cX3_causeAt 21 = .ok (.iload_n 3, 1) := by decide +kernel
theorem dX3_causeAt_22 : decode cX3_causeAt 22 = .ok (.iload_n 2, 1) := by decide +kernel
theorem dX3_causeAt_23 : decode cX3_causeAt 23 = .ok (.invokevirtual 64, 3) := by decide +kernel
theorem dX3_causeAt_26 : decode cX3_causeAt 26 = .ok (.ifCond .ne 5, 3) := by decide +kernel
theorem dX3_causeAt_29 : decode cX3_causeAt 29 = .ok (.iconst (-1), 1) := by decide +kernel
theorem dX3_causeAt_30 : decode cX3_causeAt 30 = .ok (.ireturn, 1) := by decide +kernel
theorem dX3_causeAt_31 : decode cX3_causeAt 31 = .ok (.iconst 0, 1) := by decide +kernel
theorem dX3_causeAt_32 : decode cX3_causeAt 32 = .ok (.istore 4, 2) := by decide +kernel
theorem dX3_causeAt_34 : decode cX3_causeAt 34 = .ok (.iload 4, 2) := by decide +kernel
theorem dX3_causeAt_36 : decode cX3_causeAt 36 = .ok (.iload_n 3, 1) := by decide +kernel
theorem dX3_causeAt_37 : decode cX3_causeAt 37 = .ok (.if_icmp .ge 20, 3) := by decide +kernel
theorem dX3_causeAt_40 : decode cX3_causeAt 40 = .ok (.aload_n 0, 1) := by decide +kernel
theorem dX3_causeAt_41 : decode cX3_causeAt 41 = .ok (.aload_n 1, 1) := by decide +kernel
theorem dX3_causeAt_42 : decode cX3_causeAt 42 = .ok (.iload 4, 2) := by decide +kernel
theorem dX3_causeAt_44 : decode cX3_causeAt 44 = .ok (.iload_n 2, 1) := by decide +kernel
theorem dX3_causeAt_45 : decode cX3_causeAt 45 = .ok (.invokevirtual 64, 3) := by decide +kernel
theorem dX3_causeAt_48 : decode cX3_causeAt 48 = .ok (.ifCond .ne 9, 3) := by decide +kernel
theorem dX3_causeAt_51 : decode cX3_causeAt 51 = .ok (.iinc 4 1, 3) := by decide +kernel
theorem dX3_causeAt_54 : decode cX3_causeAt 54 = .ok (.goto (-20), 3) := by decide +kernel
theorem dX3_causeAt_57 : decode cX3_causeAt 57 = .ok (.iload 4, 2) := by decide +kernel
theorem dX3_causeAt_59 : decode cX3_causeAt 59 = .ok (.ireturn, 1) := by decide +kernel
theorem c_X3_causeAt {a0 : Nat} {a1 : Nat} {a2 : Int32} : CWp S N d MX3_causeAt [.ref a0, .ref a1, .int a2] I J P Q ↔ Wp S N d MX3_causeAt 0 [some (.ref a0), some (.ref a1), some (.int a2), none, none] [] I J P Q := by
  rw [cwp_iff]
  exact ⟨fun h => h.2, fun h => ⟨Nat.le_of_ble_eq_true rfl, h⟩⟩
theorem e_X3_causeAt_0  {x0 x1 x2 x3 x4 : Option Value} : Wp S N d MX3_causeAt 0 [x0, x1, x2, x3, x4] [] I J P Q ↔ Wp S N d MX3_causeAt 1 [x0, x1, x2, x3, x4] [.int 3] I J P Q := wp_iconst (by decide) dX3_causeAt_0
theorem e_X3_causeAt_1 {v0 : Int32} {w : Nat} {x0 x2 x3 x4 : Option Value} : Wp S N d MX3_causeAt 1 [x0, some (.ref w), x2, x3, x4] [.int v0] I J P Q ↔ Wp S N d MX3_causeAt 2 [x0, some (.ref w), x2, x3, x4] [.ref w, .int v0] I J P Q := wp_lod (len := 1) rfl rfl rfl rfl dX3_causeAt_1
theorem e_X3_causeAt_2 {v0 : Nat} {v1 : Int32} {x0 x1 x2 x3 x4 : Option Value} : Wp S N d MX3_causeAt 2 [x0, x1, x2, x3, x4] [.ref v0, .int v1] I J P Q ↔ S v0 = 7 ∧ Wp S N d MX3_causeAt 5 [x0, x1, x2, x3, x4] [.int (I v0 7), .int v1] I J P Q := wp_getf rfl rfl rfl rfl dX3_causeAt_2
theorem e_X3_causeAt_5 {v0 : Int32} {v1 : Int32} {x0 x1 x2 x3 x4 : Option Value} : Wp S N d MX3_causeAt 5 [x0, x1, x2, x3, x4] [.int v0, .int v1] I J P Q ↔ Wp S N d MX3_causeAt 6 [x0, x1, x2, x3, x4] [.int (v1 + v0)] I J P Q := wp_alu (len := 1) rfl rfl rfl dX3_causeAt_5
theorem e_X3_causeAt_6 {v0 : Int32} {x0 x1 x2 x3 x4 : Option Value} : Wp S N d MX3_causeAt 6 [x0, x1, x2, x3, x4] [.int v0] I J P Q ↔ Wp S N d MX3_causeAt 7 [x0, x1, kl x2, some (.int v0), x4] [] I J P Q := wp_sto (len := 1) rfl rfl rfl rfl (Nat.le_of_ble_eq_true rfl) rfl dX3_causeAt_6
theorem e_X3_causeAt_7 {w : Int32} {x0 x1 x3 x4 : Option Value} : Wp S N d MX3_causeAt 7 [x0, x1, some (.int w), x3, x4] [] I J P Q ↔ Wp S N d MX3_causeAt 8 [x0, x1, some (.int w), x3, x4] [.int w] I J P Q := wp_lod (len := 1) rfl rfl rfl rfl dX3_causeAt_7
theorem e_X3_causeAt_8 {v0 : Int32} {x0 x1 x2 x3 x4 : Option Value} : Wp S N d MX3_causeAt 8 [x0, x1, x2, x3, x4] [.int v0] I J P Q ↔ Wp S N d MX3_causeAt 9 [x0, x1, x2, x3, x4] [.int 1, .int v0] I J P Q := wp_iconst (by decide) dX3_causeAt_8
theorem e_X3_causeAt_9 {v0 : Int32} {v1 : Int32} {x0 x1 x2 x3 x4 : Option Value} : Wp S N d MX3_causeAt 9 [x0, x1, x2, x3, x4] [.int v0, .int v1] I J P Q ↔ (v1 < v0 → Wp S N d MX3_causeAt 29 [x0, x1, x2, x3, x4] [] I J P Q) ∧ (¬ v1 < v0 → Wp S N d MX3_causeAt 12 [x0, x1, x2, x3, x4] [] I J P Q) := wp_br rfl rfl (by decide) dX3_causeAt_9
theorem e_X3_causeAt_12 {w : Int32} {x0 x1 x3 x4 : Option Value} : Wp S N d MX3_causeAt 12 [x0, x1, some (.int w), x3, x4] [] I J P Q ↔ Wp S N d MX3_causeAt 13 [x0, x1, some (.int w), x3, x4] [.int w] I J P Q := wp_lod (len := 1) rfl rfl rfl rfl dX3_causeAt_12
theorem e_X3_causeAt_13 {v0 : Int32} {x0 x1 x2 x3 x4 : Option Value} : Wp S N d MX3_causeAt 13 [x0, x1, x2, x3, x4] [.int v0] I J P Q ↔ Wp S N d MX3_causeAt 16 [x0, x1, x2, x3, x4] [.int 9999, .int v0] I J P Q := wp_sipush (by decide) dX3_causeAt_13
theorem e_X3_causeAt_16 {v0 : Int32} {v1 : Int32} {x0 x1 x2 x3 x4 : Option Value} : Wp S N d MX3_causeAt 16 [x0, x1, x2, x3, x4] [.int v0, .int v1] I J P Q ↔ (v0 ≤ v1 → Wp S N d MX3_causeAt 29 [x0, x1, x2, x3, x4] [] I J P Q) ∧ (¬ v0 ≤ v1 → Wp S N d MX3_causeAt 19 [x0, x1, x2, x3, x4] [] I J P Q) := wp_br rfl rfl (by decide) dX3_causeAt_16
theorem e_X3_causeAt_19 {w : Nat} {x1 x2 x3 x4 : Option Value} : Wp S N d MX3_causeAt 19 [some (.ref w), x1, x2, x3, x4] [] I J P Q ↔ Wp S N d MX3_causeAt 20 [some (.ref w), x1, x2, x3, x4] [.ref w] I J P Q := wp_lod (len := 1) rfl rfl rfl rfl dX3_causeAt_19
theorem e_X3_causeAt_20 {v0 : Nat} {w : Nat} {x0 x2 x3 x4 : Option Value} : Wp S N d MX3_causeAt 20 [x0, some (.ref w), x2, x3, x4] [.ref v0] I J P Q ↔ Wp S N d MX3_causeAt 21 [x0, some (.ref w), x2, x3, x4] [.ref w, .ref v0] I J P Q := wp_lod (len := 1) rfl rfl rfl rfl dX3_causeAt_20
theorem e_X3_causeAt_21 {v0 : Nat} {v1 : Nat} {w : Int32} {x0 x1 x2 x4 : Option Value} : Wp S N d MX3_causeAt 21 [x0, x1, x2, some (.int w), x4] [.ref v0, .ref v1] I J P Q ↔ Wp S N d MX3_causeAt 22 [x0, x1, x2, some (.int w), x4] [.int w, .ref v0, .ref v1] I J P Q := wp_lod (len := 1) rfl rfl rfl rfl dX3_causeAt_21
theorem e_X3_causeAt_22 {v0 : Int32} {v1 : Nat} {v2 : Nat} {w : Int32} {x0 x1 x3 x4 : Option Value} : Wp S N d MX3_causeAt 22 [x0, x1, some (.int w), x3, x4] [.int v0, .ref v1, .ref v2] I J P Q ↔ Wp S N d MX3_causeAt 23 [x0, x1, some (.int w), x3, x4] [.int w, .int v0, .ref v1, .ref v2] I J P Q := wp_lod (len := 1) rfl rfl rfl rfl dX3_causeAt_22
theorem e_X3_causeAt_23 {v0 : Int32} {v1 : Int32} {v2 : Nat} {v3 : Nat} {x0 x1 x2 x3 x4 : Option Value} : Wp S N (d + 1) MX3_causeAt 23 [x0, x1, x2, x3, x4] [.int v0, .int v1, .ref v2, .ref v3] I J P Q ↔ S v3 = 3 ∧ CWp S N d MX3_bends [.ref v3, .ref v2, .int v1, .int v0] I J P (fun r I1 J1 P1 => Wp S N (d + 1) MX3_causeAt 26 [x0, x1, x2, x3, x4] (r.toList ++ []) I1 J1 P1 Q) := wp_callV (M' := MX3_bends) (As := [.ref v2, .int v1, .int v0]) rfl rfl rfl rfl (by decide) (Nat.le_of_ble_eq_true rfl) dX3_causeAt_23
theorem e_X3_causeAt_26 {v0 : Int32} {x0 x1 x2 x3 x4 : Option Value} : Wp S N d MX3_causeAt 26 [x0, x1, x2, x3, x4] [.int v0] I J P Q ↔ (¬ v0 = 0 → Wp S N d MX3_causeAt 31 [x0, x1, x2, x3, x4] [] I J P Q) ∧ (v0 = 0 → Wp S N d MX3_causeAt 29 [x0, x1, x2, x3, x4] [] I J P Q) := wp_brn rfl rfl (by decide) dX3_causeAt_26
theorem e_X3_causeAt_29  {x0 x1 x2 x3 x4 : Option Value} : Wp S N d MX3_causeAt 29 [x0, x1, x2, x3, x4] [] I J P Q ↔ Wp S N d MX3_causeAt 30 [x0, x1, x2, x3, x4] [.int (-1)] I J P Q := wp_iconst (by decide) dX3_causeAt_29
theorem e_X3_causeAt_30 {v0 : Int32} {x0 x1 x2 x3 x4 : Option Value} : Wp S N d MX3_causeAt 30 [x0, x1, x2, x3, x4] [.int v0] I J P Q ↔ Q (some (.int v0)) I J P := wp_iret rfl dX3_causeAt_30
theorem e_X3_causeAt_31  {x0 x1 x2 x3 x4 : Option Value} : Wp S N d MX3_causeAt 31 [x0, x1, x2, x3, x4] [] I J P Q ↔ Wp S N d MX3_causeAt 32 [x0, x1, x2, x3, x4] [.int 0] I J P Q := wp_iconst (by decide) dX3_causeAt_31
theorem e_X3_causeAt_32 {v0 : Int32} {x0 x1 x2 x3 x4 : Option Value} : Wp S N d MX3_causeAt 32 [x0, x1, x2, x3, x4] [.int v0] I J P Q ↔ Wp S N d MX3_causeAt 34 [x0, x1, x2, kl x3, some (.int v0)] [] I J P Q := wp_sto (len := 2) rfl rfl rfl rfl (Nat.le_of_ble_eq_true rfl) rfl dX3_causeAt_32
theorem e_X3_causeAt_34 {w : Int32} {x0 x1 x2 x3 : Option Value} : Wp S N d MX3_causeAt 34 [x0, x1, x2, x3, some (.int w)] [] I J P Q ↔ Wp S N d MX3_causeAt 36 [x0, x1, x2, x3, some (.int w)] [.int w] I J P Q := wp_lod (len := 2) rfl rfl rfl rfl dX3_causeAt_34
theorem e_X3_causeAt_36 {v0 : Int32} {w : Int32} {x0 x1 x2 x4 : Option Value} : Wp S N d MX3_causeAt 36 [x0, x1, x2, some (.int w), x4] [.int v0] I J P Q ↔ Wp S N d MX3_causeAt 37 [x0, x1, x2, some (.int w), x4] [.int w, .int v0] I J P Q := wp_lod (len := 1) rfl rfl rfl rfl dX3_causeAt_36
theorem e_X3_causeAt_37 {v0 : Int32} {v1 : Int32} {x0 x1 x2 x3 x4 : Option Value} : Wp S N d MX3_causeAt 37 [x0, x1, x2, x3, x4] [.int v0, .int v1] I J P Q ↔ (v0 ≤ v1 → Wp S N d MX3_causeAt 57 [x0, x1, x2, x3, x4] [] I J P Q) ∧ (¬ v0 ≤ v1 → Wp S N d MX3_causeAt 40 [x0, x1, x2, x3, x4] [] I J P Q) := wp_br rfl rfl (by decide) dX3_causeAt_37
theorem e_X3_causeAt_40 {w : Nat} {x1 x2 x3 x4 : Option Value} : Wp S N d MX3_causeAt 40 [some (.ref w), x1, x2, x3, x4] [] I J P Q ↔ Wp S N d MX3_causeAt 41 [some (.ref w), x1, x2, x3, x4] [.ref w] I J P Q := wp_lod (len := 1) rfl rfl rfl rfl dX3_causeAt_40
theorem e_X3_causeAt_41 {v0 : Nat} {w : Nat} {x0 x2 x3 x4 : Option Value} : Wp S N d MX3_causeAt 41 [x0, some (.ref w), x2, x3, x4] [.ref v0] I J P Q ↔ Wp S N d MX3_causeAt 42 [x0, some (.ref w), x2, x3, x4] [.ref w, .ref v0] I J P Q := wp_lod (len := 1) rfl rfl rfl rfl dX3_causeAt_41
theorem e_X3_causeAt_42 {v0 : Nat} {v1 : Nat} {w : Int32} {x0 x1 x2 x3 : Option Value} : Wp S N d MX3_causeAt 42 [x0, x1, x2, x3, some (.int w)] [.ref v0, .ref v1] I J P Q ↔ Wp S N d MX3_causeAt 44 [x0, x1, x2, x3, some (.int w)] [.int w, .ref v0, .ref v1] I J P Q := wp_lod (len := 2) rfl rfl rfl rfl dX3_causeAt_42
theorem e_X3_causeAt_44 {v0 : Int32} {v1 : Nat} {v2 : Nat} {w : Int32} {x0 x1 x3 x4 : Option Value} : Wp S N d MX3_causeAt 44 [x0, x1, some (.int w), x3, x4] [.int v0, .ref v1, .ref v2] I J P Q ↔ Wp S N d MX3_causeAt 45 [x0, x1, some (.int w), x3, x4] [.int w, .int v0, .ref v1, .ref v2] I J P Q := wp_lod (len := 1) rfl rfl rfl rfl dX3_causeAt_44
theorem e_X3_causeAt_45 {v0 : Int32} {v1 : Int32} {v2 : Nat} {v3 : Nat} {x0 x1 x2 x3 x4 : Option Value} : Wp S N (d + 1) MX3_causeAt 45 [x0, x1, x2, x3, x4] [.int v0, .int v1, .ref v2, .ref v3] I J P Q ↔ S v3 = 3 ∧ CWp S N d MX3_bends [.ref v3, .ref v2, .int v1, .int v0] I J P (fun r I1 J1 P1 => Wp S N (d + 1) MX3_causeAt 48 [x0, x1, x2, x3, x4] (r.toList ++ []) I1 J1 P1 Q) := wp_callV (M' := MX3_bends) (As := [.ref v2, .int v1, .int v0]) rfl rfl rfl rfl (by decide) (Nat.le_of_ble_eq_true rfl) dX3_causeAt_45
theorem e_X3_causeAt_48 {v0 : Int32} {x0 x1 x2 x3 x4 : Option Value} : Wp S N d MX3_causeAt 48 [x0, x1, x2, x3, x4] [.int v0] I J P Q ↔ (¬ v0 = 0 → Wp S N d MX3_causeAt 57 [x0, x1, x2, x3, x4] [] I J P Q) ∧ (v0 = 0 → Wp S N d MX3_causeAt 51 [x0, x1, x2, x3, x4] [] I J P Q) := wp_brn rfl rfl (by decide) dX3_causeAt_48
theorem e_X3_causeAt_51 {w : Int32} {x0 x1 x2 x3 : Option Value} : Wp S N d MX3_causeAt 51 [x0, x1, x2, x3, some (.int w)] [] I J P Q ↔ Wp S N d MX3_causeAt 54 [x0, x1, x2, kl x3, some (.int (w + 1))] [] I J P Q := wp_inc rfl rfl dX3_causeAt_51
theorem e_X3_causeAt_54  {x0 x1 x2 x3 x4 : Option Value} : Wp S N d MX3_causeAt 54 [x0, x1, x2, x3, x4] [] I J P Q ↔ Wp S N d MX3_causeAt 34 [x0, x1, x2, x3, x4] [] I J P Q := wp_go (len := 3) rfl (fun _ _ => rfl) rfl (by decide) dX3_causeAt_54
theorem e_X3_causeAt_57 {w : Int32} {x0 x1 x2 x3 : Option Value} : Wp S N d MX3_causeAt 57 [x0, x1, x2, x3, some (.int w)] [] I J P Q ↔ Wp S N d MX3_causeAt 59 [x0, x1, x2, x3, some (.int w)] [.int w] I J P Q := wp_lod (len := 2) rfl rfl rfl rfl dX3_causeAt_57
theorem e_X3_causeAt_59 {v0 : Int32} {x0 x1 x2 x3 x4 : Option Value} : Wp S N d MX3_causeAt 59 [x0, x1, x2, x3, x4] [.int v0] I J P Q ↔ Q (some (.int v0)) I J P := wp_iret rfl dX3_causeAt_59
theorem dX3_bends_0 : decode cX3_bends 0 = .ok (.aload_n 0, 1) := by decide +kernel
theorem dX3_bends_1 : decode cX3_bends 1 = .ok (.aload_n 1, 1) := by decide +kernel
theorem dX3_bends_2 : decode cX3_bends 2 = .ok (.iload_n 2, 1) := by decide +kernel
theorem dX3_bends_3 : decode cX3_bends 3 = .ok (.iload_n 3, 1) := by decide +kernel
theorem dX3_bends_4 : decode cX3_bends 4 = .ok (.iconst 1, 1) := by decide +kernel
theorem dX3_bends_5 : decode cX3_bends 5 = .ok (.isub, 1) := by decide +kernel
theorem dX3_bends_6 : decode cX3_bends 6 = .ok (.invokevirtual 68, 3) := by decide +kernel
theorem dX3_bends_9 : decode cX3_bends 9 = .ok (.lstore 4, 2) := by decide +kernel
theorem dX3_bends_11 : decode cX3_bends 11 = .ok (.aload_n 0, 1) := by decide +kernel
theorem dX3_bends_12 : decode cX3_bends 12 = .ok (.aload_n 1, 1) := by decide +kernel
theorem dX3_bends_13 : decode cX3_bends 13 = .ok (.iload_n 2, 1) := by decide +kernel
theorem dX3_bends_14 : decode cX3_bends 14 = .ok (.iload_n 3, 1) := by decide +kernel
theorem dX3_bends_15 : decode cX3_bends 15 = .ok (.invokevirtual 68, 3) := by decide +kernel
theorem dX3_bends_18 : decode cX3_bends 18 = .ok (.lstore 6, 2) := by decide +kernel
theorem dX3_bends_20 : decode cX3_bends 20 = .ok (.aload_n 0, 1) := by decide +kernel
theorem dX3_bends_21 : decode cX3_bends 21 = .ok (.aload_n 1, 1) := by decide +kernel
theorem dX3_bends_22 : decode cX3_bends 22 = .ok (.iload_n 2, 1) := by decide +kernel
theorem dX3_bends_23 : decode cX3_bends 23 = .ok (.iload_n 3, 1) := by decide +kernel
theorem dX3_bends_24 : decode cX3_bends 24 = .ok (.iconst 1, 1) := by decide +kernel
theorem dX3_bends_25 : decode cX3_bends 25 = .ok (.iadd, 1) := by decide +kernel
theorem dX3_bends_26 : decode cX3_bends 26 = .ok (.invokevirtual 68, 3) := by decide +kernel
theorem dX3_bends_29 : decode cX3_bends 29 = .ok (.lstore 8, 2) := by decide +kernel
theorem dX3_bends_31 : decode cX3_bends 31 = .ok (.lload 8, 2) := by decide +kernel
theorem dX3_bends_33 : decode cX3_bends 33 = .ok (.lload 6, 2) := by decide +kernel
theorem dX3_bends_35 : decode cX3_bends 35 = .ok (.lsub, 1) := by decide +kernel
theorem dX3_bends_36 : decode cX3_bends 36 = .ok (.lload 6, 2) := by decide +kernel
theorem dX3_bends_38 : decode cX3_bends 38 = .ok (.lload 4, 2) := by decide +kernel
theorem dX3_bends_40 : decode cX3_bends 40 = .ok (.lsub, 1) := by decide +kernel
theorem dX3_bends_41 : decode cX3_bends 41 = .ok (.lcmp, 1) := by decide +kernel
theorem dX3_bends_42 : decode cX3_bends 42 = .ok (.ifCond .eq 7, 3) := by decide +kernel
theorem dX3_bends_45 : decode cX3_bends 45 = .ok (.iconst 1, 1) := by decide +kernel
theorem dX3_bends_46 : decode cX3_bends 46 = .ok (.goto 4, 3) := by decide +kernel
theorem dX3_bends_49 : decode cX3_bends 49 = .ok (.iconst 0, 1) := by decide +kernel
theorem dX3_bends_50 : decode cX3_bends 50 = .ok (.ireturn, 1) := by decide +kernel
theorem c_X3_bends {a0 : Nat} {a1 : Nat} {a2 : Int32} {a3 : Int32} : CWp S N d MX3_bends [.ref a0, .ref a1, .int a2, .int a3] I J P Q ↔ Wp S N d MX3_bends 0 [some (.ref a0), some (.ref a1), some (.int a2), some (.int a3), none, none, none, none, none, none] [] I J P Q := by
  rw [cwp_iff]
  exact ⟨fun h => h.2, fun h => ⟨Nat.le_of_ble_eq_true rfl, h⟩⟩
theorem e_X3_bends_0 {w : Nat} {x1 x2 x3 x4 x5 x6 x7 x8 x9 : Option Value} : Wp S N d MX3_bends 0 [some (.ref w), x1, x2, x3, x4, x5, x6, x7, x8, x9] [] I J P Q ↔ Wp S N d MX3_bends 1 [some (.ref w), x1, x2, x3, x4, x5, x6, x7, x8, x9] [.ref w] I J P Q := wp_lod (len := 1) rfl rfl rfl rfl dX3_bends_0
theorem e_X3_bends_1 {v0 : Nat} {w : Nat} {x0 x2 x3 x4 x5 x6 x7 x8 x9 : Option Value} : Wp S N d MX3_bends 1 [x0, some (.ref w), x2, x3, x4, x5, x6, x7, x8, x9] [.ref v0] I J P Q ↔ Wp S N d MX3_bends 2 [x0, some (.ref w), x2, x3, x4, x5, x6, x7, x8, x9] [.ref w, .ref v0] I J P Q := wp_lod (len := 1) rfl rfl rfl rfl dX3_bends_1
theorem e_X3_bends_2 {v0 : Nat} {v1 : Nat} {w : Int32} {x0 x1 x3 x4 x5 x6 x7 x8 x9 : Option Value} : Wp S N d MX3_bends 2 [x0, x1, some (.int w), x3, x4, x5, x6, x7, x8, x9] [.ref v0, .ref v1] I J P Q ↔ Wp S N d MX3_bends 3 [x0, x1, some (.int w), x3, x4, x5, x6, x7, x8, x9] [.int w, .ref v0, .ref v1] I J P Q := wp_lod (len := 1) rfl rfl rfl rfl dX3_bends_2
theorem e_X3_bends_3 {v0 : Int32} {v1 : Nat} {v2 : Nat} {w : Int32} {x0 x1 x2 x4 x5 x6 x7 x8 x9 : Option Value} : Wp S N d MX3_bends 3 [x0, x1, x2, some (.int w), x4, x5, x6, x7, x8, x9] [.int v0, .ref v1, .ref v2] I J P Q ↔ Wp S N d MX3_bends 4 [x0, x1, x2, some (.int w), x4, x5, x6, x7, x8, x9] [.int w, .int v0, .ref v1, .ref v2] I J P Q := wp_lod (len := 1) rfl rfl rfl rfl dX3_bends_3
theorem e_X3_bends_4 {v0 : Int32} {v1 : Int32} {v2 : Nat} {v3 : Nat} {x0 x1 x2 x3 x4 x5 x6 x7 x8 x9 : Option Value} : Wp S N d MX3_bends 4 [x0, x1, x2, x3, x4, x5, x6, x7, x8, x9] [.int v0, .int v1, .ref v2, .ref v3] I J P Q ↔ Wp S N d MX3_bends 5 [x0, x1, x2, x3, x4, x5, x6, x7, x8, x9] [.int 1, .int v0, .int v1, .ref v2, .ref v3] I J P Q := wp_iconst (by decide) dX3_bends_4
theorem e_X3_bends_5 {v0 : Int32} {v1 : Int32} {v2 : Int32} {v3 : Nat} {v4 : Nat} {x0 x1 x2 x3 x4 x5 x6 x7 x8 x9 : Option Value} : Wp S N d MX3_bends 5 [x0, x1, x2, x3, x4, x5, x6, x7, x8, x9] [.int v0, .int v1, .int v2, .ref v3, .ref v4] I J P Q ↔ Wp S N d MX3_bends 6 [x0, x1, x2, x3, x4, x5, x6, x7, x8, x9] [.int (v1 - v0), .int v2, .ref v3, .ref v4] I J P Q := wp_alu (len := 1) rfl rfl rfl dX3_bends_5
theorem e_X3_bends_6 {v0 : Int32} {v1 : Int32} {v2 : Nat} {v3 : Nat} {x0 x1 x2 x3 x4 x5 x6 x7 x8 x9 : Option Value} : Wp S N (d + 1) MX3_bends 6 [x0, x1, x2, x3, x4, x5, x6, x7, x8, x9] [.int v0, .int v1, .ref v2, .ref v3] I J P Q ↔ S v3 = 3 ∧ CWp S N d MX3_partAt [.ref v3, .ref v2, .int v1, .int v0] I J P (fun r I1 J1 P1 => Wp S N (d + 1) MX3_bends 9 [x0, x1, x2, x3, x4, x5, x6, x7, x8, x9] (r.toList ++ []) I1 J1 P1 Q) := wp_callV (M' := MX3_partAt) (As := [.ref v2, .int v1, .int v0]) rfl rfl rfl rfl (by decide) (Nat.le_of_ble_eq_true rfl) dX3_bends_6
theorem e_X3_bends_9 {v0 : Int64} {x0 x1 x2 x3 x4 x5 x6 x7 x8 x9 : Option Value} : Wp S N d MX3_bends 9 [x0, x1, x2, x3, x4, x5, x6, x7, x8, x9] [.long v0] I J P Q ↔ Wp S N d MX3_bends 11 [x0, x1, x2, kl x3, some (.long v0), none, x6, x7, x8, x9] [] I J P Q := wp_sto (len := 2) rfl rfl rfl rfl (Nat.le_of_ble_eq_true rfl) rfl dX3_bends_9
theorem e_X3_bends_11 {w : Nat} {x1 x2 x3 x4 x5 x6 x7 x8 x9 : Option Value} : Wp S N d MX3_bends 11 [some (.ref w), x1, x2, x3, x4, x5, x6, x7, x8, x9] [] I J P Q ↔ Wp S N d MX3_bends 12 [some (.ref w), x1, x2, x3, x4, x5, x6, x7, x8, x9] [.ref w] I J P Q := wp_lod (len := 1) rfl rfl rfl rfl dX3_bends_11
theorem e_X3_bends_12 {v0 : Nat} {w : Nat} {x0 x2 x3 x4 x5 x6 x7 x8 x9 : Option Value} : Wp S N d MX3_bends 12 [x0, some (.ref w), x2, x3, x4, x5, x6, x7, x8, x9] [.ref v0] I J P Q ↔ Wp S N d MX3_bends 13 [x0, some (.ref w), x2, x3, x4, x5, x6, x7, x8, x9] [.ref w, .ref v0] I J P Q := wp_lod (len := 1) rfl rfl rfl rfl dX3_bends_12
theorem e_X3_bends_13 {v0 : Nat} {v1 : Nat} {w : Int32} {x0 x1 x3 x4 x5 x6 x7 x8 x9 : Option Value} : Wp S N d MX3_bends 13 [x0, x1, some (.int w), x3, x4, x5, x6, x7, x8, x9] [.ref v0, .ref v1] I J P Q ↔ Wp S N d MX3_bends 14 [x0, x1, some (.int w), x3, x4, x5, x6, x7, x8, x9] [.int w, .ref v0, .ref v1] I J P Q := wp_lod (len := 1) rfl rfl rfl rfl dX3_bends_13
theorem e_X3_bends_14 {v0 : Int32} {v1 : Nat} {v2 : Nat} {w : Int32} {x0 x1 x2 x4 x5 x6 x7 x8 x9 : Option Value} : Wp S N d MX3_bends 14 [x0, x1, x2, some (.int w), x4, x5, x6, x7, x8, x9] [.int v0, .ref v1, .ref v2] I J P Q ↔ Wp S N d MX3_bends 15 [x0, x1, x2, some (.int w), x4, x5, x6, x7, x8, x9] [.int w, .int v0, .ref v1, .ref v2] I J P Q := wp_lod (len := 1) rfl rfl rfl rfl dX3_bends_14
theorem e_X3_bends_15 {v0 : Int32} {v1 : Int32} {v2 : Nat} {v3 : Nat} {x0 x1 x2 x3 x4 x5 x6 x7 x8 x9 : Option Value} : Wp S N (d + 1) MX3_bends 15 [x0, x1, x2, x3, x4, x5, x6, x7, x8, x9] [.int v0, .int v1, .ref v2, .ref v3] I J P Q ↔ S v3 = 3 ∧ CWp S N d MX3_partAt [.ref v3, .ref v2, .int v1, .int v0] I J P (fun r I1 J1 P1 => Wp S N (d + 1) MX3_bends 18 [x0, x1, x2, x3, x4, x5, x6, x7, x8, x9] (r.toList ++ []) I1 J1 P1 Q) := wp_callV (M' := MX3_partAt) (As := [.ref v2, .int v1, .int v0]) rfl rfl rfl rfl (by decide) (Nat.le_of_ble_eq_true rfl) dX3_bends_15
theorem e_X3_bends_18 {v0 : Int64} {x0 x1 x2 x3 x4 x5 x6 x7 x8 x9 : Option Value} : Wp S N d MX3_bends 18 [x0, x1, x2, x3, x4, x5, x6, x7, x8, x9] [.long v0] I J P Q ↔ Wp S N d MX3_bends 20 [x0, x1, x2, x3, x4, kl x5, some (.long v0), none, x8, x9] [] I J P Q := wp_sto (len := 2) rfl rfl rfl rfl (Nat.le_of_ble_eq_true rfl) rfl dX3_bends_18
theorem e_X3_bends_20 {w : Nat} {x1 x2 x3 x4 x5 x6 x7 x8 x9 : Option Value} : Wp S N d MX3_bends 20 [some (.ref w), x1, x2, x3, x4, x5, x6, x7, x8, x9] [] I J P Q ↔ Wp S N d MX3_bends 21 [some (.ref w), x1, x2, x3, x4, x5, x6, x7, x8, x9] [.ref w] I J P Q := wp_lod (len := 1) rfl rfl rfl rfl dX3_bends_20
theorem e_X3_bends_21 {v0 : Nat} {w : Nat} {x0 x2 x3 x4 x5 x6 x7 x8 x9 : Option Value} : Wp S N d MX3_bends 21 [x0, some (.ref w), x2, x3, x4, x5, x6, x7, x8, x9] [.ref v0] I J P Q ↔ Wp S N d MX3_bends 22 [x0, some (.ref w), x2, x3, x4, x5, x6, x7, x8, x9] [.ref w, .ref v0] I J P Q := wp_lod (len := 1) rfl rfl rfl rfl dX3_bends_21
theorem e_X3_bends_22 {v0 : Nat} {v1 : Nat} {w : Int32} {x0 x1 x3 x4 x5 x6 x7 x8 x9 : Option Value} : Wp S N d MX3_bends 22 [x0, x1, some (.int w), x3, x4, x5, x6, x7, x8, x9] [.ref v0, .ref v1] I J P Q ↔ Wp S N d MX3_bends 23 [x0, x1, some (.int w), x3, x4, x5, x6, x7, x8, x9] [.int w, .ref v0, .ref v1] I J P Q := wp_lod (len := 1) rfl rfl rfl rfl dX3_bends_22
theorem e_X3_bends_23 {v0 : Int32} {v1 : Nat} {v2 : Nat} {w : Int32} {x0 x1 x2 x4 x5 x6 x7 x8 x9 : Option Value} : Wp S N d MX3_bends 23 [x0, x1, x2, some (.int w), x4, x5, x6, x7, x8, x9] [.int v0, .ref v1, .ref v2] I J P Q ↔ Wp S N d MX3_bends 24 [x0, x1, x2, some (.int w), x4, x5, x6, x7, x8, x9] [.int w, .int v0, .ref v1, .ref v2] I J P Q := wp_lod (len := 1) rfl rfl rfl rfl dX3_bends_23
theorem e_X3_bends_24 {v0 : Int32} {v1 : Int32} {v2 : Nat} {v3 : Nat} {x0 x1 x2 x3 x4 x5 x6 x7 x8 x9 : Option Value} : Wp S N d MX3_bends 24 [x0, x1, x2, x3, x4, x5, x6, x7, x8, x9] [.int v0, .int v1, .ref v2, .ref v3] I J P Q ↔ Wp S N d MX3_bends 25 [x0, x1, x2, x3, x4, x5, x6, x7, x8, x9] [.int 1, .int v0, .int v1, .ref v2, .ref v3] I J P Q := wp_iconst (by decide) dX3_bends_24
theorem e_X3_bends_25 {v0 : Int32} {v1 : Int32} {v2 : Int32} {v3 : Nat} {v4 : Nat} {x0 x1 x2 x3 x4 x5 x6 x7 x8 x9 : Option Value} : Wp S N d MX3_bends 25 [x0, x1, x2, x3, x4, x5, x6, x7, x8, x9] [.int v0, .int v1, .int v2, .ref v3, .ref v4] I J P Q ↔ Wp S N d MX3_bends 26 [x0, x1, x2, x3, x4, x5, x6, x7, x8, x9] [.int (v1 + v0), .int v2, .ref v3, .ref v4] I J P Q := wp_alu (len := 1) rfl rfl rfl dX3_bends_25
theorem e_X3_bends_26 {v0 : Int32} {v1 : Int32} {v2 : Nat} {v3 : Nat} {x0 x1 x2 x3 x4 x5 x6 x7 x8 x9 : Option Value} : Wp S N (d + 1) MX3_bends 26 [x0, x1, x2, x3, x4, x5, x6, x7, x8, x9] [.int v0, .int v1, .ref v2, .ref v3] I J P Q ↔ S v3 = 3 ∧ CWp S N d MX3_partAt [.ref v3, .ref v2, .int v1, .int v0] I J P (fun r I1 J1 P1 => Wp S N (d + 1) MX3_bends 29 [x0, x1, x2, x3, x4, x5, x6, x7, x8, x9] (r.toList ++ []) I1 J1 P1 Q) := wp_callV (M' := MX3_partAt) (As := [.ref v2, .int v1, .int v0]) rfl rfl rfl rfl (by decide) (Nat.le_of_ble_eq_true rfl) dX3_bends_26
theorem e_X3_bends_29 {v0 : Int64} {x0 x1 x2 x3 x4 x5 x6 x7 x8 x9 : Option Value} : Wp S N d MX3_bends 29 [x0, x1, x2, x3, x4, x5, x6, x7, x8, x9] [.long v0] I J P Q ↔ Wp S N d MX3_bends 31 [x0, x1, x2, x3, x4, x5, x6, kl x7, some (.long v0), none] [] I J P Q := wp_sto (len := 2) rfl rfl rfl rfl (Nat.le_of_ble_eq_true rfl) rfl dX3_bends_29
theorem e_X3_bends_31 {w : Int64} {x0 x1 x2 x3 x4 x5 x6 x7 x9 : Option Value} : Wp S N d MX3_bends 31 [x0, x1, x2, x3, x4, x5, x6, x7, some (.long w), x9] [] I J P Q ↔ Wp S N d MX3_bends 33 [x0, x1, x2, x3, x4, x5, x6, x7, some (.long w), x9] [.long w] I J P Q := wp_lod (len := 2) rfl rfl rfl rfl dX3_bends_31
theorem e_X3_bends_33 {v0 : Int64} {w : Int64} {x0 x1 x2 x3 x4 x5 x7 x8 x9 : Option Value} : Wp S N d MX3_bends 33 [x0, x1, x2, x3, x4, x5, some (.long w), x7, x8, x9] [.long v0] I J P Q ↔ Wp S N d MX3_bends 35 [x0, x1, x2, x3, x4, x5, some (.long w), x7, x8, x9] [.long w, .long v0] I J P Q := wp_lod (len := 2) rfl rfl rfl rfl dX3_bends_33
theorem e_X3_bends_35 {v0 : Int64} {v1 : Int64} {x0 x1 x2 x3 x4 x5 x6 x7 x8 x9 : Option Value} : Wp S N d MX3_bends 35 [x0, x1, x2, x3, x4, x5, x6, x7, x8, x9] [.long v0, .long v1] I J P Q ↔ Wp S N d MX3_bends 36 [x0, x1, x2, x3, x4, x5, x6, x7, x8, x9] [.long (v1 - v0)] I J P Q := wp_alu (len := 1) rfl rfl rfl dX3_bends_35
theorem e_X3_bends_36 {v0 : Int64} {w : Int64} {x0 x1 x2 x3 x4 x5 x7 x8 x9 : Option Value} : Wp S N d MX3_bends 36 [x0, x1, x2, x3, x4, x5, some (.long w), x7, x8, x9] [.long v0] I J P Q ↔ Wp S N d MX3_bends 38 [x0, x1, x2, x3, x4, x5, some (.long w), x7, x8, x9] [.long w, .long v0] I J P Q := wp_lod (len := 2) rfl rfl rfl rfl dX3_bends_36
theorem e_X3_bends_38 {v0 : Int64} {v1 : Int64} {w : Int64} {x0 x1 x2 x3 x5 x6 x7 x8 x9 : Option Value} : Wp S N d MX3_bends 38 [x0, x1, x2, x3, some (.long w), x5, x6, x7, x8, x9] [.long v0, .long v1] I J P Q ↔ Wp S N d MX3_bends 40 [x0, x1, x2, x3, some (.long w), x5, x6, x7, x8, x9] [.long w, .long v0, .long v1] I J P Q := wp_lod (len := 2) rfl rfl rfl rfl dX3_bends_38
theorem e_X3_bends_40 {v0 : Int64} {v1 : Int64} {v2 : Int64} {x0 x1 x2 x3 x4 x5 x6 x7 x8 x9 : Option Value} : Wp S N d MX3_bends 40 [x0, x1, x2, x3, x4, x5, x6, x7, x8, x9] [.long v0, .long v1, .long v2] I J P Q ↔ Wp S N d MX3_bends 41 [x0, x1, x2, x3, x4, x5, x6, x7, x8, x9] [.long (v1 - v0), .long v2] I J P Q := wp_alu (len := 1) rfl rfl rfl dX3_bends_40
theorem e_X3_bends_41 {v0 : Int64} {v1 : Int64} {x0 x1 x2 x3 x4 x5 x6 x7 x8 x9 : Option Value} : Wp S N d MX3_bends 41 [x0, x1, x2, x3, x4, x5, x6, x7, x8, x9] [.long v0, .long v1] I J P Q ↔ Wp S N d MX3_bends 42 [x0, x1, x2, x3, x4, x5, x6, x7, x8, x9] [.int (lg_cmp v1 v0)] I J P Q := wp_alu (len := 1) rfl rfl rfl dX3_bends_41
theorem e_X3_bends_42 {v0 : Int32} {x0 x1 x2 x3 x4 x5 x6 x7 x8 x9 : Option Value} : Wp S N d MX3_bends 42 [x0, x1, x2, x3, x4, x5, x6, x7, x8, x9] [.int v0] I J P Q ↔ (v0 = 0 → Wp S N d MX3_bends 49 [x0, x1, x2, x3, x4, x5, x6, x7, x8, x9] [] I J P Q) ∧ (¬ v0 = 0 → Wp S N d MX3_bends 45 [x0, x1, x2, x3, x4, x5, x6, x7, x8, x9] [] I J P Q) := wp_br rfl rfl (by decide) dX3_bends_42
theorem e_X3_bends_45  {x0 x1 x2 x3 x4 x5 x6 x7 x8 x9 : Option Value} : Wp S N d MX3_bends 45 [x0, x1, x2, x3, x4, x5, x6, x7, x8, x9] [] I J P Q ↔ Wp S N d MX3_bends 46 [x0, x1, x2, x3, x4, x5, x6, x7, x8, x9] [.int 1] I J P Q := wp_iconst (by decide) dX3_bends_45
theorem e_X3_bends_46 {v0 : Int32} {x0 x1 x2 x3 x4 x5 x6 x7 x8 x9 : Option Value} : Wp S N d MX3_bends 46 [x0, x1, x2, x3, x4, x5, x6, x7, x8, x9] [.int v0] I J P Q ↔ Wp S N d MX3_bends 50 [x0, x1, x2, x3, x4, x5, x6, x7, x8, x9] [.int v0] I J P Q := wp_go (len := 3) rfl (fun _ _ => rfl) rfl (by decide) dX3_bends_46
theorem e_X3_bends_49  {x0 x1 x2 x3 x4 x5 x6 x7 x8 x9 : Option Value} : Wp S N d MX3_bends 49 [x0, x1, x2, x3, x4, x5, x6, x7, x8, x9] [] I J P Q ↔ Wp S N d MX3_bends 50 [x0, x1, x2, x3, x4, x5, x6, x7, x8, x9] [.int 0] I J P Q := wp_iconst (by decide) dX3_bends_49
theorem e_X3_bends_50 {v0 : Int32} (hb : isB v0) {x0 x1 x2 x3 x4 x5 x6 x7 x8 x9 : Option Value} : Wp S N d MX3_bends 50 [x0, x1, x2, x3, x4, x5, x6, x7, x8, x9] [.int v0] I J P Q ↔ Q (some (.int v0)) I J P := wp_zret rfl dX3_bends_50 hb
theorem dX3_steepestPlace_0 : decode cX3_steepestPlace 0 = .ok (.aload_n 0, 1) := by decide +kernel
theorem dX3_steepestPlace_1 : decode cX3_steepestPlace 1 = .ok (.aload_n 1, 1) := by decide +kernel
theorem dX3_steepestPlace_2 : decode cX3_steepestPlace 2 = .ok (.iconst 1, 1) := by decide +kernel
theorem dX3_steepestPlace_3 : decode cX3_steepestPlace 3 = .ok (.invokevirtual 50, 3) := by decide +kernel
theorem dX3_steepestPlace_6 : decode cX3_steepestPlace 6 = .ok (.lstore_n 2, 1) := by decide +kernel
theorem dX3_steepestPlace_7 : decode cX3_steepestPlace 7 = .ok (.lload_n 2, 1) := by decide +kernel
theorem dX3_steepestPlace_8 : decode cX3_steepestPlace 8 = .ok (.aload_n 0, 1) := by decide +kernel
theorem dX3_steepestPlace_9 : decode cX3_steepestPlace 9 = .ok (.aload_n 1, 1) := by decide +kernel
theorem dX3_steepestPlace_10 : decode cX3_steepestPlace 10 = .ok (.iconst 0, 1) := by decide +kernel
theorem dX3_steepestPlace_11 : decode cX3_steepestPlace 11 = .ok (.invokevirtual 50, 3) := by decide +kernel
theorem dX3_steepestPlace_14 : decode cX3_steepestPlace 14 = .ok (.lsub, 1) := by decide +kernel
theorem dX3_steepestPlace_15 : decode cX3_steepestPlace 15 = .ok (.lstore 4, 2) := by decide +kernel
theorem dX3_steepestPlace_17 : decode cX3_steepestPlace 17 = .ok (.iconst 0, 1) := by decide +kernel
theorem dX3_steepestPlace_18 : decode cX3_steepestPlace 18 = .ok (.istore 6, 2) := by decide +kernel
theorem dX3_steepestPlace_20 : decode cX3_steepestPlace 20 = .ok (.iconst 1, 1) := by decide +kernel
theorem dX3_steepestPlace_21 : decode cX3_steepestPlace 21 = .ok (.istore 7, 2) := by decide +kernel
theorem dX3_steepestPlace_23 : decode cX3_steepestPlace 23 = .ok (.iload 7, 2) := by decide +kernel
theorem dX3_steepestPlace_25 : decode cX3_steepestPlace 25 = .ok (.sipush 9999, 3) := by decide +kernel
theorem dX3_steepestPlace_28 : decode cX3_steepestPlace 28 = .ok (.if_icmp .ge 43, 3) := by decide +kernel
theorem dX3_steepestPlace_31 : decode cX3_steepestPlace 31 = .ok (.aload_n 0, 1) := by decide +kernel
theorem dX3_steepestPlace_32 : decode cX3_steepestPlace 32 = .ok (.aload_n 1, 1) := by decide +kernel
theorem dX3_steepestPlace_33 : decode cX3_steepestPlace 33 = .ok (.iload 7, 2) := by decide +kernel
theorem dX3_steepestPlace_35 : decode cX3_steepestPlace 35 = .ok (.iconst 1, 1) := by decide +kernel
theorem dX3_steepestPlace_36 : decode cX3_steepestPlace 36 = .ok (.iadd, 1) := by decide +kernel
theorem dX3_steepestPlace_37 : decode cX3_steepestPlace 37 = .ok (.invokevirtual 50, 3) := by decide +kernel
theorem dX3_steepestPlace_40 : decode cX3_steepestPlace 40 = .ok (.lstore 8, 2) := by decide +kernel
theorem dX3_steepestPlace_42 : decode cX3_steepestPlace 42 = .ok (.lload 8, 2) := by decide +kernel
theorem dX3_steepestPlace_44 : decode cX3_steepestPlace 44 = .ok (.lload_n 2, 1) := by decide +kernel
theorem dX3_steepestPlace_45 : decode cX3_steepestPlace 45 = .ok (.lsub, 1) := by decide +kernel
theorem dX3_steepestPlace_46 : decode cX3_steepestPlace 46 = .ok (.lload 4, 2) := by decide +kernel
theorem dX3_steepestPlace_48 : decode cX3_steepestPlace 48 = .ok (.lcmp, 1) := by decide +kernel
theorem dX3_steepestPlace_49 : decode cX3_steepestPlace 49 = .ok (.ifCond .le 13, 3) := by decide +kernel
theorem dX3_steepestPlace_52 : decode cX3_steepestPlace 52 = .ok (.lload 8, 2) := by decide +kernel
theorem dX3_steepestPlace_54 : decode cX3_steepestPlace 54 = .ok (.lload_n 2, 1) := by decide +kernel
theorem dX3_steepestPlace_55 : decode cX3_steepestPlace 55 = .ok (.lsub, 1) := by decide +kernel
theorem dX3_steepestPlace_56 : decode cX3_steepestPlace 56 = .ok (.lstore 4, 2) := by decide +kernel
theorem dX3_steepestPlace_58 : decode cX3_steepestPlace 58 = .ok (.iload 7, 2) := by decide +kernel
theorem dX3_steepestPlace_60 : decode cX3_steepestPlace 60 = .ok (.istore 6, 2) := by decide +kernel
theorem dX3_steepestPlace_62 : decode cX3_steepestPlace 62 = .ok (.lload 8, 2) := by decide +kernel
theorem dX3_steepestPlace_64 : decode cX3_steepestPlace 64 = .ok (.lstore_n 2, 1) := by decide +kernel
theorem dX3_steepestPlace_65 : decode cX3_steepestPlace 65 = .ok (.iinc 7 1, 3) := by decide +kernel
theorem dX3_steepestPlace_68 : decode cX3_steepestPlace 68 = .ok (.goto (-45), 3) := by decide +kernel
theorem dX3_steepestPlace_71 : decode cX3_steepestPlace 71 = .ok (.iload 6, 2) := by decide +kernel
theorem dX3_steepestPlace_73 : decode cX3_steepestPlace 73 = .ok (.ireturn, 1) := by decide +kernel
theorem c_X3_steepestPlace {a0 : Nat} {a1 : Nat} : CWp S N d MX3_steepestPlace [.ref a0, .ref a1] I J P Q ↔ Wp S N d MX3_steepestPlace 0 [some (.ref a0), some (.ref a1), none, none, none, none, none, none, none, none] [] I J P Q := by
  rw [cwp_iff]
  exact ⟨fun h => h.2, fun h => ⟨Nat.le_of_ble_eq_true rfl, h⟩⟩
theorem e_X3_steepestPlace_0 {w : Nat} {x1 x2 x3 x4 x5 x6 x7 x8 x9 : Option Value} : Wp S N d MX3_steepestPlace 0 [some (.ref w), x1, x2, x3, x4, x5, x6, x7, x8, x9] [] I J P Q ↔ Wp S N d MX3_steepestPlace 1 [some (.ref w), x1, x2, x3, x4, x5, x6, x7, x8, x9] [.ref w] I J P Q := wp_lod (len := 1) rfl rfl rfl rfl dX3_steepestPlace_0
theorem e_X3_steepestPlace_1 {v0 : Nat} {w : Nat} {x0 x2 x3 x4 x5 x6 x7 x8 x9 : Option Value} : Wp S N d MX3_steepestPlace 1 [x0, some (.ref w), x2, x3, x4, x5, x6, x7, x8, x9] [.ref v0] I J P Q ↔ Wp S N d MX3_steepestPlace 2 [x0, some (.ref w), x2, x3, x4, x5, x6, x7, x8, x9] [.ref w, .ref v0] I J P Q := wp_lod (len := 1) rfl rfl rfl rfl dX3_steepestPlace_1
theorem e_X3_steepestPlace_2 {v0 : Nat} {v1 : Nat} {x0 x1 x2 x3 x4 x5 x6 x7 x8 x9 : Option Value} : Wp S N d MX3_steepestPlace 2 [x0, x1, x2, x3, x4, x5, x6, x7, x8, x9] [.ref v0, .ref v1] I J P Q ↔ Wp S N d MX3_steepestPlace 3 [x0, x1, x2, x3, x4, x5, x6, x7, x8, x9] [.int 1, .ref v0, .ref v1] I J P Q := wp_iconst (by decide) dX3_steepestPlace_2
theorem e_X3_steepestPlace_3 {v0 : Int32} {v1 : Nat} {v2 : Nat} {x0 x1 x2 x3 x4 x5 x6 x7 x8 x9 : Option Value} : Wp S N (d + 1) MX3_steepestPlace 3 [x0, x1, x2, x3, x4, x5, x6, x7, x8, x9] [.int v0, .ref v1, .ref v2] I J P Q ↔ S v2 = 3 ∧ CWp S N d MX3_taxAt [.ref v2, .ref v1, .int v0] I J P (fun r I1 J1 P1 => Wp S N (d + 1) MX3_steepestPlace 6 [x0, x1, x2, x3, x4, x5, x6, x7, x8, x9] (r.toList ++ []) I1 J1 P1 Q) := wp_callV (M' := MX3_taxAt) (As := [.ref v1, .int v0]) rfl rfl rfl rfl (by decide) (Nat.le_of_ble_eq_true rfl) dX3_steepestPlace_3
theorem e_X3_steepestPlace_6 {v0 : Int64} {x0 x1 x2 x3 x4 x5 x6 x7 x8 x9 : Option Value} : Wp S N d MX3_steepestPlace 6 [x0, x1, x2, x3, x4, x5, x6, x7, x8, x9] [.long v0] I J P Q ↔ Wp S N d MX3_steepestPlace 7 [x0, kl x1, some (.long v0), none, x4, x5, x6, x7, x8, x9] [] I J P Q := wp_sto (len := 1) rfl rfl rfl rfl (Nat.le_of_ble_eq_true rfl) rfl dX3_steepestPlace_6
theorem e_X3_steepestPlace_7 {w : Int64} {x0 x1 x3 x4 x5 x6 x7 x8 x9 : Option Value} : Wp S N d MX3_steepestPlace 7 [x0, x1, some (.long w), x3, x4, x5, x6, x7, x8, x9] [] I J P Q ↔ Wp S N d MX3_steepestPlace 8 [x0, x1, some (.long w), x3, x4, x5, x6, x7, x8, x9] [.long w] I J P Q := wp_lod (len := 1) rfl rfl rfl rfl dX3_steepestPlace_7
theorem e_X3_steepestPlace_8 {v0 : Int64} {w : Nat} {x1 x2 x3 x4 x5 x6 x7 x8 x9 : Option Value} : Wp S N d MX3_steepestPlace 8 [some (.ref w), x1, x2, x3, x4, x5, x6, x7, x8, x9] [.long v0] I J P Q ↔ Wp S N d MX3_steepestPlace 9 [some (.ref w), x1, x2, x3, x4, x5, x6, x7, x8, x9] [.ref w, .long v0] I J P Q := wp_lod (len := 1) rfl rfl rfl rfl dX3_steepestPlace_8
theorem e_X3_steepestPlace_9 {v0 : Nat} {v1 : Int64} {w : Nat} {x0 x2 x3 x4 x5 x6 x7 x8 x9 : Option Value} : Wp S N d MX3_steepestPlace 9 [x0, some (.ref w), x2, x3, x4, x5, x6, x7, x8, x9] [.ref v0, .long v1] I J P Q ↔ Wp S N d MX3_steepestPlace 10 [x0, some (.ref w), x2, x3, x4, x5, x6, x7, x8, x9] [.ref w, .ref v0, .long v1] I J P Q := wp_lod (len := 1) rfl rfl rfl rfl dX3_steepestPlace_9
theorem e_X3_steepestPlace_10 {v0 : Nat} {v1 : Nat} {v2 : Int64} {x0 x1 x2 x3 x4 x5 x6 x7 x8 x9 : Option Value} : Wp S N d MX3_steepestPlace 10 [x0, x1, x2, x3, x4, x5, x6, x7, x8, x9] [.ref v0, .ref v1, .long v2] I J P Q ↔ Wp S N d MX3_steepestPlace 11 [x0, x1, x2, x3, x4, x5, x6, x7, x8, x9] [.int 0, .ref v0, .ref v1, .long v2] I J P Q := wp_iconst (by decide) dX3_steepestPlace_10
theorem e_X3_steepestPlace_11 {v0 : Int32} {v1 : Nat} {v2 : Nat} {v3 : Int64} {x0 x1 x2 x3 x4 x5 x6 x7 x8 x9 : Option Value} : Wp S N (d + 1) MX3_steepestPlace 11 [x0, x1, x2, x3, x4, x5, x6, x7, x8, x9] [.int v0, .ref v1, .ref v2, .long v3] I J P Q ↔ S v2 = 3 ∧ CWp S N d MX3_taxAt [.ref v2, .ref v1, .int v0] I J P (fun r I1 J1 P1 => Wp S N (d + 1) MX3_steepestPlace 14 [x0, x1, x2, x3, x4, x5, x6, x7, x8, x9] (r.toList ++ [.long v3]) I1 J1 P1 Q) := wp_callV (M' := MX3_taxAt) (As := [.ref v1, .int v0]) rfl rfl rfl rfl (by decide) (Nat.le_of_ble_eq_true rfl) dX3_steepestPlace_11
theorem e_X3_steepestPlace_14 {v0 : Int64} {v1 : Int64} {x0 x1 x2 x3 x4 x5 x6 x7 x8 x9 : Option Value} : Wp S N d MX3_steepestPlace 14 [x0, x1, x2, x3, x4, x5, x6, x7, x8, x9] [.long v0, .long v1] I J P Q ↔ Wp S N d MX3_steepestPlace 15 [x0, x1, x2, x3, x4, x5, x6, x7, x8, x9] [.long (v1 - v0)] I J P Q := wp_alu (len := 1) rfl rfl rfl dX3_steepestPlace_14
theorem e_X3_steepestPlace_15 {v0 : Int64} {x0 x1 x2 x3 x4 x5 x6 x7 x8 x9 : Option Value} : Wp S N d MX3_steepestPlace 15 [x0, x1, x2, x3, x4, x5, x6, x7, x8, x9] [.long v0] I J P Q ↔ Wp S N d MX3_steepestPlace 17 [x0, x1, x2, kl x3, some (.long v0), none, x6, x7, x8, x9] [] I J P Q := wp_sto (len := 2) rfl rfl rfl rfl (Nat.le_of_ble_eq_true rfl) rfl dX3_steepestPlace_15
theorem e_X3_steepestPlace_17  {x0 x1 x2 x3 x4 x5 x6 x7 x8 x9 : Option Value} : Wp S N d MX3_steepestPlace 17 [x0, x1, x2, x3, x4, x5, x6, x7, x8, x9] [] I J P Q ↔ Wp S N d MX3_steepestPlace 18 [x0, x1, x2, x3, x4, x5, x6, x7, x8, x9] [.int 0] I J P Q := wp_iconst (by decide) dX3_steepestPlace_17
theorem e_X3_steepestPlace_18 {v0 : Int32} {x0 x1 x2 x3 x4 x5 x6 x7 x8 x9 : Option Value} : Wp S N d MX3_steepestPlace 18 [x0, x1, x2, x3, x4, x5, x6, x7, x8, x9] [.int v0] I J P Q ↔ Wp S N d MX3_steepestPlace 20 [x0, x1, x2, x3, x4, kl x5, some (.int v0), x7, x8, x9] [] I J P Q := wp_sto (len := 2) rfl rfl rfl rfl (Nat.le_of_ble_eq_true rfl) rfl dX3_steepestPlace_18
theorem e_X3_steepestPlace_20  {x0 x1 x2 x3 x4 x5 x6 x7 x8 x9 : Option Value} : Wp S N d MX3_steepestPlace 20 [x0, x1, x2, x3, x4, x5, x6, x7, x8, x9] [] I J P Q ↔ Wp S N d MX3_steepestPlace 21 [x0, x1, x2, x3, x4, x5, x6, x7, x8, x9] [.int 1] I J P Q := wp_iconst (by decide) dX3_steepestPlace_20
theorem e_X3_steepestPlace_21 {v0 : Int32} {x0 x1 x2 x3 x4 x5 x6 x7 x8 x9 : Option Value} : Wp S N d MX3_steepestPlace 21 [x0, x1, x2, x3, x4, x5, x6, x7, x8, x9] [.int v0] I J P Q ↔ Wp S N d MX3_steepestPlace 23 [x0, x1, x2, x3, x4, x5, kl x6, some (.int v0), x8, x9] [] I J P Q := wp_sto (len := 2) rfl rfl rfl rfl (Nat.le_of_ble_eq_true rfl) rfl dX3_steepestPlace_21
theorem e_X3_steepestPlace_23 {w : Int32} {x0 x1 x2 x3 x4 x5 x6 x8 x9 : Option Value} : Wp S N d MX3_steepestPlace 23 [x0, x1, x2, x3, x4, x5, x6, some (.int w), x8, x9] [] I J P Q ↔ Wp S N d MX3_steepestPlace 25 [x0, x1, x2, x3, x4, x5, x6, some (.int w), x8, x9] [.int w] I J P Q := wp_lod (len := 2) rfl rfl rfl rfl dX3_steepestPlace_23
theorem e_X3_steepestPlace_25 {v0 : Int32} {x0 x1 x2 x3 x4 x5 x6 x7 x8 x9 : Option Value} : Wp S N d MX3_steepestPlace 25 [x0, x1, x2, x3, x4, x5, x6, x7, x8, x9] [.int v0] I J P Q ↔ Wp S N d MX3_steepestPlace 28 [x0, x1, x2, x3, x4, x5, x6, x7, x8, x9] [.int 9999, .int v0] I J P Q := wp_sipush (by decide) dX3_steepestPlace_25
theorem e_X3_steepestPlace_28 {v0 : Int32} {v1 : Int32} {x0 x1 x2 x3 x4 x5 x6 x7 x8 x9 : Option Value} : Wp S N d MX3_steepestPlace 28 [x0, x1, x2, x3, x4, x5, x6, x7, x8, x9] [.int v0, .int v1] I J P Q ↔ (v0 ≤ v1 → Wp S N d MX3_steepestPlace 71 [x0, x1, x2, x3, x4, x5, x6, x7, x8, x9] [] I J P Q) ∧ (¬ v0 ≤ v1 → Wp S N d MX3_steepestPlace 31 [x0, x1, x2, x3, x4, x5, x6, x7, x8, x9] [] I J P Q) := wp_br rfl rfl (by decide) dX3_steepestPlace_28
theorem e_X3_steepestPlace_31 {w : Nat} {x1 x2 x3 x4 x5 x6 x7 x8 x9 : Option Value} : Wp S N d MX3_steepestPlace 31 [some (.ref w), x1, x2, x3, x4, x5, x6, x7, x8, x9] [] I J P Q ↔ Wp S N d MX3_steepestPlace 32 [some (.ref w), x1, x2, x3, x4, x5, x6, x7, x8, x9] [.ref w] I J P Q := wp_lod (len := 1) rfl rfl rfl rfl dX3_steepestPlace_31
theorem e_X3_steepestPlace_32 {v0 : Nat} {w : Nat} {x0 x2 x3 x4 x5 x6 x7 x8 x9 : Option Value} : Wp S N d MX3_steepestPlace 32 [x0, some (.ref w), x2, x3, x4, x5, x6, x7, x8, x9] [.ref v0] I J P Q ↔ Wp S N d MX3_steepestPlace 33 [x0, some (.ref w), x2, x3, x4, x5, x6, x7, x8, x9] [.ref w, .ref v0] I J P Q := wp_lod (len := 1) rfl rfl rfl rfl dX3_steepestPlace_32
theorem e_X3_steepestPlace_33 {v0 : Nat} {v1 : Nat} {w : Int32} {x0 x1 x2 x3 x4 x5 x6 x8 x9 : Option Value} : Wp S N d MX3_steepestPlace 33 [x0, x1, x2, x3, x4, x5, x6, some (.int w), x8, x9] [.ref v0, .ref v1] I J P Q ↔ Wp S N d MX3_steepestPlace 35 [x0, x1, x2, x3, x4, x5, x6, some (.int w), x8, x9] [.int w, .ref v0, .ref v1] I J P Q := wp_lod (len := 2) rfl rfl rfl rfl dX3_steepestPlace_33
theorem e_X3_steepestPlace_35 {v0 : Int32} {v1 : Nat} {v2 : Nat} {x0 x1 x2 x3 x4 x5 x6 x7 x8 x9 : Option Value} : Wp S N d MX3_steepestPlace 35 [x0, x1, x2, x3, x4, x5, x6, x7, x8, x9] [.int v0, .ref v1, .ref v2] I J P Q ↔ Wp S N d MX3_steepestPlace 36 [x0, x1, x2, x3, x4, x5, x6, x7, x8, x9] [.int 1, .int v0, .ref v1, .ref v2] I J P Q := wp_iconst (by decide) dX3_steepestPlace_35
theorem e_X3_steepestPlace_36 {v0 : Int32} {v1 : Int32} {v2 : Nat} {v3 : Nat} {x0 x1 x2 x3 x4 x5 x6 x7 x8 x9 : Option Value} : Wp S N d MX3_steepestPlace 36 [x0, x1, x2, x3, x4, x5, x6, x7, x8, x9] [.int v0, .int v1, .ref v2, .ref v3] I J P Q ↔ Wp S N d MX3_steepestPlace 37 [x0, x1, x2, x3, x4, x5, x6, x7, x8, x9] [.int (v1 + v0), .ref v2, .ref v3] I J P Q := wp_alu (len := 1) rfl rfl rfl dX3_steepestPlace_36
theorem e_X3_steepestPlace_37 {v0 : Int32} {v1 : Nat} {v2 : Nat} {x0 x1 x2 x3 x4 x5 x6 x7 x8 x9 : Option Value} : Wp S N (d + 1) MX3_steepestPlace 37 [x0, x1, x2, x3, x4, x5, x6, x7, x8, x9] [.int v0, .ref v1, .ref v2] I J P Q ↔ S v2 = 3 ∧ CWp S N d MX3_taxAt [.ref v2, .ref v1, .int v0] I J P (fun r I1 J1 P1 => Wp S N (d + 1) MX3_steepestPlace 40 [x0, x1, x2, x3, x4, x5, x6, x7, x8, x9] (r.toList ++ []) I1 J1 P1 Q) := wp_callV (M' := MX3_taxAt) (As := [.ref v1, .int v0]) rfl rfl rfl rfl (by decide) (Nat.le_of_ble_eq_true rfl) dX3_steepestPlace_37
theorem e_X3_steepestPlace_40 {v0 : Int64} {x0 x1 x2 x3 x4 x5 x6 x7 x8 x9 : Option Value} : Wp S N d MX3_steepestPlace 40 [x0, x1, x2, x3, x4, x5, x6, x7, x8, x9] [.long v0] I J P Q ↔ Wp S N d MX3_steepestPlace 42 [x0, x1, x2, x3, x4, x5, x6, kl x7, some (.long v0), none] [] I J P Q := wp_sto (len := 2) rfl rfl rfl rfl (Nat.le_of_ble_eq_true rfl) rfl dX3_steepestPlace_40
theorem e_X3_steepestPlace_42 {w : Int64} {x0 x1 x2 x3 x4 x5 x6 x7 x9 : Option Value} : Wp S N d MX3_steepestPlace 42 [x0, x1, x2, x3, x4, x5, x6, x7, some (.long w), x9] [] I J P Q ↔ Wp S N d MX3_steepestPlace 44 [x0, x1, x2, x3, x4, x5, x6, x7, some (.long w), x9] [.long w] I J P Q := wp_lod (len := 2) rfl rfl rfl rfl dX3_steepestPlace_42
theorem e_X3_steepestPlace_44 {v0 : Int64} {w : Int64} {x0 x1 x3 x4 x5 x6 x7 x8 x9 : Option Value} : Wp S N d MX3_steepestPlace 44 [x0, x1, some (.long w), x3, x4, x5, x6, x7, x8, x9] [.long v0] I J P Q ↔ Wp S N d MX3_steepestPlace 45 [x0, x1, some (.long w), x3, x4, x5, x6, x7, x8, x9] [.long w, .long v0] I J P Q := wp_lod (len := 1) rfl rfl rfl rfl dX3_steepestPlace_44
theorem e_X3_steepestPlace_45 {v0 : Int64} {v1 : Int64} {x0 x1 x2 x3 x4 x5 x6 x7 x8 x9 : Option Value} : Wp S N d MX3_steepestPlace 45 [x0, x1, x2, x3, x4, x5, x6, x7, x8, x9] [.long v0, .long v1] I J P Q ↔ Wp S N d MX3_steepestPlace 46 [x0, x1, x2, x3, x4, x5, x6, x7, x8, x9] [.long (v1 - v0)] I J P Q := wp_alu (len := 1) rfl rfl rfl dX3_steepestPlace_45
theorem e_X3_steepestPlace_46 {v0 : Int64} {w : Int64} {x0 x1 x2 x3 x5 x6 x7 x8 x9 : Option Value} : Wp S N d MX3_steepestPlace 46 [x0, x1, x2, x3, some (.long w), x5, x6, x7, x8, x9] [.long v0] I J P Q ↔ Wp S N d MX3_steepestPlace 48 [x0, x1, x2, x3, some (.long w), x5, x6, x7, x8, x9] [.long w, .long v0] I J P Q := wp_lod (len := 2) rfl rfl rfl rfl dX3_steepestPlace_46
theorem e_X3_steepestPlace_48 {v0 : Int64} {v1 : Int64} {x0 x1 x2 x3 x4 x5 x6 x7 x8 x9 : Option Value} : Wp S N d MX3_steepestPlace 48 [x0, x1, x2, x3, x4, x5, x6, x7, x8, x9] [.long v0, .long v1] I J P Q ↔ Wp S N d MX3_steepestPlace 49 [x0, x1, x2, x3, x4, x5, x6, x7, x8, x9] [.int (lg_cmp v1 v0)] I J P Q := wp_alu (len := 1) rfl rfl rfl dX3_steepestPlace_48
theorem e_X3_steepestPlace_49 {v0 : Int32} {x0 x1 x2 x3 x4 x5 x6 x7 x8 x9 : Option Value} : Wp S N d MX3_steepestPlace 49 [x0, x1, x2, x3, x4, x5, x6, x7, x8, x9] [.int v0] I J P Q ↔ (v0 ≤ 0 → Wp S N d MX3_steepestPlace 62 [x0, x1, x2, x3, x4, x5, x6, x7, x8, x9] [] I J P Q) ∧ (¬ v0 ≤ 0 → Wp S N d MX3_steepestPlace 52 [x0, x1, x2, x3, x4, x5, x6, x7, x8, x9] [] I J P Q) := wp_br rfl rfl (by decide) dX3_steepestPlace_49
theorem e_X3_steepestPlace_52 {w : Int64} {x0 x1 x2 x3 x4 x5 x6 x7 x9 : Option Value} : Wp S N d MX3_steepestPlace 52 [x0, x1, x2, x3, x4, x5, x6, x7, some (.long w), x9] [] I J P Q ↔ Wp S N d MX3_steepestPlace 54 [x0, x1, x2, x3, x4, x5, x6, x7, some (.long w), x9] [.long w] I J P Q := wp_lod (len := 2) rfl rfl rfl rfl dX3_steepestPlace_52
theorem e_X3_steepestPlace_54 {v0 : Int64} {w : Int64} {x0 x1 x3 x4 x5 x6 x7 x8 x9 : Option Value} : Wp S N d MX3_steepestPlace 54 [x0, x1, some (.long w), x3, x4, x5, x6, x7, x8, x9] [.long v0] I J P Q ↔ Wp S N d MX3_steepestPlace 55 [x0, x1, some (.long w), x3, x4, x5, x6, x7, x8, x9] [.long w, .long v0] I J P Q := wp_lod (len := 1) rfl rfl rfl rfl dX3_steepestPlace_54
theorem e_X3_steepestPlace_55 {v0 : Int64} {v1 : Int64} {x0 x1 x2 x3 x4 x5 x6 x7 x8 x9 : Option Value} : Wp S N d MX3_steepestPlace 55 [x0, x1, x2, x3, x4, x5, x6, x7, x8, x9] [.long v0, .long v1] I J P Q ↔ Wp S N d MX3_steepestPlace 56 [x0, x1, x2, x3, x4, x5, x6, x7, x8, x9] [.long (v1 - v0)] I J P Q := wp_alu (len := 1) rfl rfl rfl dX3_steepestPlace_55
theorem e_X3_steepestPlace_56 {v0 : Int64} {x0 x1 x2 x3 x4 x5 x6 x7 x8 x9 : Option Value} : Wp S N d MX3_steepestPlace 56 [x0, x1, x2, x3, x4, x5, x6, x7, x8, x9] [.long v0] I J P Q ↔ Wp S N d MX3_steepestPlace 58 [x0, x1, x2, kl x3, some (.long v0), none, x6, x7, x8, x9] [] I J P Q := wp_sto (len := 2) rfl rfl rfl rfl (Nat.le_of_ble_eq_true rfl) rfl dX3_steepestPlace_56
theorem e_X3_steepestPlace_58 {w : Int32} {x0 x1 x2 x3 x4 x5 x6 x8 x9 : Option Value} : Wp S N d MX3_steepestPlace 58 [x0, x1, x2, x3, x4, x5, x6, some (.int w), x8, x9] [] I J P Q ↔ Wp S N d MX3_steepestPlace 60 [x0, x1, x2, x3, x4, x5, x6, some (.int w), x8, x9] [.int w] I J P Q := wp_lod (len := 2) rfl rfl rfl rfl dX3_steepestPlace_58
theorem e_X3_steepestPlace_60 {v0 : Int32} {x0 x1 x2 x3 x4 x5 x6 x7 x8 x9 : Option Value} : Wp S N d MX3_steepestPlace 60 [x0, x1, x2, x3, x4, x5, x6, x7, x8, x9] [.int v0] I J P Q ↔ Wp S N d MX3_steepestPlace 62 [x0, x1, x2, x3, x4, kl x5, some (.int v0), x7, x8, x9] [] I J P Q := wp_sto (len := 2) rfl rfl rfl rfl (Nat.le_of_ble_eq_true rfl) rfl dX3_steepestPlace_60
theorem e_X3_steepestPlace_62 {w : Int64} {x0 x1 x2 x3 x4 x5 x6 x7 x9 : Option Value} : Wp S N d MX3_steepestPlace 62 [x0, x1, x2, x3, x4, x5, x6, x7, some (.long w), x9] [] I J P Q ↔ Wp S N d MX3_steepestPlace 64 [x0, x1, x2, x3, x4, x5, x6, x7, some (.long w), x9] [.long w] I J P Q := wp_lod (len := 2) rfl rfl rfl rfl dX3_steepestPlace_62
theorem e_X3_steepestPlace_64 {v0 : Int64} {x0 x1 x2 x3 x4 x5 x6 x7 x8 x9 : Option Value} : Wp S N d MX3_steepestPlace 64 [x0, x1, x2, x3, x4, x5, x6, x7, x8, x9] [.long v0] I J P Q ↔ Wp S N d MX3_steepestPlace 65 [x0, kl x1, some (.long v0), none, x4, x5, x6, x7, x8, x9] [] I J P Q := wp_sto (len := 1) rfl rfl rfl rfl (Nat.le_of_ble_eq_true rfl) rfl dX3_steepestPlace_64
theorem e_X3_steepestPlace_65 {w : Int32} {x0 x1 x2 x3 x4 x5 x6 x8 x9 : Option Value} : Wp S N d MX3_steepestPlace 65 [x0, x1, x2, x3, x4, x5, x6, some (.int w), x8, x9] [] I J P Q ↔ Wp S N d MX3_steepestPlace 68 [x0, x1, x2, x3, x4, x5, kl x6, some (.int (w + 1)), x8, x9] [] I J P Q := wp_inc rfl rfl dX3_steepestPlace_65
theorem e_X3_steepestPlace_68  {x0 x1 x2 x3 x4 x5 x6 x7 x8 x9 : Option Value} : Wp S N d MX3_steepestPlace 68 [x0, x1, x2, x3, x4, x5, x6, x7, x8, x9] [] I J P Q ↔ Wp S N d MX3_steepestPlace 23 [x0, x1, x2, x3, x4, x5, x6, x7, x8, x9] [] I J P Q := wp_go (len := 3) rfl (fun _ _ => rfl) rfl (by decide) dX3_steepestPlace_68
theorem e_X3_steepestPlace_71 {w : Int32} {x0 x1 x2 x3 x4 x5 x7 x8 x9 : Option Value} : Wp S N d MX3_steepestPlace 71 [x0, x1, x2, x3, x4, x5, some (.int w), x7, x8, x9] [] I J P Q ↔ Wp S N d MX3_steepestPlace 73 [x0, x1, x2, x3, x4, x5, some (.int w), x7, x8, x9] [.int w] I J P Q := wp_lod (len := 2) rfl rfl rfl rfl dX3_steepestPlace_71
theorem e_X3_steepestPlace_73 {v0 : Int32} {x0 x1 x2 x3 x4 x5 x6 x7 x8 x9 : Option Value} : Wp S N d MX3_steepestPlace 73 [x0, x1, x2, x3, x4, x5, x6, x7, x8, x9] [.int v0] I J P Q ↔ Q (some (.int v0)) I J P := wp_iret rfl dX3_steepestPlace_73
theorem dX4_remember_0 : decode cX4_remember 0 = .ok (.aload_n 0, 1) := by decide +kernel
theorem dX4_remember_1 : decode cX4_remember 1 = .ok (.getfield 11, 3) := by decide +kernel
theorem dX4_remember_4 : decode cX4_remember 4 = .ok (.aload_n 0, 1) := by decide +kernel
theorem dX4_remember_5 : decode cX4_remember 5 = .ok (.getfield 18, 3) := by decide +kernel
theorem dX4_remember_8 : decode cX4_remember 8 = .ok (.aload_n 0, 1) := by decide +kernel
theorem dX4_remember_9 : decode cX4_remember 9 = .ok (.getfield 22, 3) := by decide +kernel
theorem dX4_remember_12 : decode cX4_remember 12 = .ok (.iadd, 1) := by decide +kernel
theorem dX4_remember_13 : decode cX4_remember 13 = .ok (.bipush 6, 2) := by decide +kernel
theorem dX4_remember_15 : decode cX4_remember 15 = .ok (.irem, 1) := by decide +kernel
theorem dX4_remember_16 : decode cX4_remember 16 = .ok (.aaload, 1) := by decide +kernel
theorem dX4_remember_17 : decode cX4_remember 17 = .ok (.aload_n 1, 1) := by decide +kernel
theorem dX4_remember_18 : decode cX4_remember 18 = .ok (.invokevirtual 25, 3) := by decide +kernel
theorem dX4_remember_21 : decode cX4_remember 21 = .ok (.aload_n 0, 1) := by decide +kernel
theorem dX4_remember_22 : decode cX4_remember 22 = .ok (.getfield 22, 3) := by decide +kernel
theorem dX4_remember_25 : decode cX4_remember 25 = .ok (.bipush 6, 2) := by decide +kernel
theorem dX4_remember_27 : decode cX4_remember 27 = .ok (.if_icmp .ge 16, 3) := by decide +kernel
theorem dX4_remember_30 : decode cX4_remember 30 = .ok (.aload_n 0, 1) := by decide +kernel
theorem dX4_remember_31 : decode cX4_remember 31 = .ok (.dup, 1) := by decide +kernel
theorem dX4_remember_32 : decode cX4_remember 32 = .ok (.getfield 22, 3) := by decide +kernel
theorem dX4_remember_35 : decode cX4_remember 35 = .ok (.iconst 1, 1) := by decide +kernel
theorem dX4_remember_36 : decode cX4_remember 36 = .ok (.iadd, 1) := by decide +kernel
theorem dX4_remember_37 : decode cX4_remember 37 = .ok (.putfield 22, 3) := by decide +kernel
theorem dX4_remember_40 : decode cX4_remember 40 = .ok (.goto 16, 3) := by decide +kernel
theorem dX4_remember_43 : decode cX4_remember 43 = .ok (.aload_n 0, 1) := by decide +kernel
theorem dX4_remember_44 : decode cX4_remember 44 = .ok (.aload_n 0, 1) := by decide +kernel
theorem dX4_remember_45 : decode cX4_remember 45 = .ok (.getfield 18, 3) := by decide +kernel
theorem dX4_remember_48 : decode cX4_remember 48 = .ok (.iconst 1, 1) := by decide +kernel
theorem dX4_remember_49 : decode cX4_remember 49 = .ok (.iadd, 1) := by decide +kernel
theorem dX4_remember_50 : decode cX4_remember 50 = .ok (.bipush 6, 2) := by decide +kernel
theorem dX4_remember_52 : decode cX4_remember 52 = .ok (.irem, 1) := by decide +kernel
theorem dX4_remember_53 : decode cX4_remember 53 = .ok (.putfield 18, 3) := by decide +kernel
theorem dX4_remember_56 : decode cX4_remember 56 = .ok (.return_, 1) := by decide +kernel
theorem c_X4_remember {a0 : Nat} {a1 : Nat} : CWp S N d MX4_remember [.ref a0, .ref a1] I J P Q ↔ Wp S N d MX4_remember 0 [some (.ref a0), some (.ref a1)] [] I J P Q := by
  rw [cwp_iff]
  exact ⟨fun h => h.2, fun h => ⟨Nat.le_of_ble_eq_true rfl, h⟩⟩
theorem e_X4_remember_0 {w : Nat} {x1 : Option Value} : Wp S N d MX4_remember 0 [some (.ref w), x1] [] I J P Q ↔ Wp S N d MX4_remember 1 [some (.ref w), x1] [.ref w] I J P Q := wp_lod (len := 1) rfl rfl rfl rfl dX4_remember_0
theorem e_X4_remember_1 {v0 : Nat} {x0 x1 : Option Value} : Wp S N d MX4_remember 1 [x0, x1] [.ref v0] I J P Q ↔ S v0 = 4 ∧ Wp S N d MX4_remember 4 [x0, x1] [va_rf (P v0 0)] I J P Q := wp_getf rfl rfl rfl rfl dX4_remember_1
theorem e_X4_remember_4 {v0 : Nat} {w : Nat} {x1 : Option Value} : Wp S N d MX4_remember 4 [some (.ref w), x1] [.ref v0] I J P Q ↔ Wp S N d MX4_remember 5 [some (.ref w), x1] [.ref w, .ref v0] I J P Q := wp_lod (len := 1) rfl rfl rfl rfl dX4_remember_4
theorem e_X4_remember_5 {v0 : Nat} {v1 : Nat} {x0 x1 : Option Value} : Wp S N d MX4_remember 5 [x0, x1] [.ref v0, .ref v1] I J P Q ↔ S v0 = 4 ∧ Wp S N d MX4_remember 8 [x0, x1] [.int (I v0 1), .ref v1] I J P Q := wp_getf rfl rfl rfl rfl dX4_remember_5
theorem e_X4_remember_8 {v0 : Int32} {v1 : Nat} {w : Nat} {x1 : Option Value} : Wp S N d MX4_remember 8 [some (.ref w), x1] [.int v0, .ref v1] I J P Q ↔ Wp S N d MX4_remember 9 [some (.ref w), x1] [.ref w, .int v0, .ref v1] I J P Q := wp_lod (len := 1) rfl rfl rfl rfl dX4_remember_8
theorem e_X4_remember_9 {v0 : Nat} {v1 : Int32} {v2 : Nat} {x0 x1 : Option Value} : Wp S N d MX4_remember 9 [x0, x1] [.ref v0, .int v1, .ref v2] I J P Q ↔ S v0 = 4 ∧ Wp S N d MX4_remember 12 [x0, x1] [.int (I v0 2), .int v1, .ref v2] I J P Q := wp_getf rfl rfl rfl rfl dX4_remember_9
theorem e_X4_remember_12 {v0 : Int32} {v1 : Int32} {v2 : Nat} {x0 x1 : Option Value} : Wp S N d MX4_remember 12 [x0, x1] [.int v0, .int v1, .ref v2] I J P Q ↔ Wp S N d MX4_remember 13 [x0, x1] [.int (v1 + v0), .ref v2] I J P Q := wp_alu (len := 1) rfl rfl rfl dX4_remember_12
theorem e_X4_remember_13 {v0 : Int32} {v1 : Nat} {x0 x1 : Option Value} : Wp S N d MX4_remember 13 [x0, x1] [.int v0, .ref v1] I J P Q ↔ Wp S N d MX4_remember 15 [x0, x1] [.int 6, .int v0, .ref v1] I J P Q := wp_bipush (by decide) dX4_remember_13
theorem e_X4_remember_15 {v0 : Int32} {v1 : Int32} {v2 : Nat} (h0 : ¬ v0 = 0) {x0 x1 : Option Value} : Wp S N d MX4_remember 15 [x0, x1] [.int v0, .int v1, .ref v2] I J P Q ↔ Wp S N d MX4_remember 16 [x0, x1] [.int (v1 - v1 / v0 * v0), .ref v2] I J P Q := wp_irem h0 dX4_remember_15
theorem e_X4_remember_16 {v0 : Int32} {v1 : Nat} {x0 x1 : Option Value} : Wp S N d MX4_remember 16 [x0, x1] [.int v0, .ref v1] I J P Q ↔ ((S v1 = 12 ∨ S v1 = 13 ∨ S v1 = 14) ∧ vp_in v0 (N v1)) ∧ Wp S N d MX4_remember 17 [x0, x1] [va_rf (P v1 v0.toNatClampNeg)] I J P Q := wp_ald rfl rfl dX4_remember_16
theorem e_X4_remember_17 {v0 : Nat} {w : Nat} {x0 : Option Value} : Wp S N d MX4_remember 17 [x0, some (.ref w)] [.ref v0] I J P Q ↔ Wp S N d MX4_remember 18 [x0, some (.ref w)] [.ref w, .ref v0] I J P Q := wp_lod (len := 1) rfl rfl rfl rfl dX4_remember_17
theorem e_X4_remember_18 {v0 : Nat} {v1 : Nat} {x0 x1 : Option Value} : Wp S N (d + 1) MX4_remember 18 [x0, x1] [.ref v0, .ref v1] I J P Q ↔ S v1 = 5 ∧ CWp S N d MX5_copyFrom [.ref v1, .ref v0] I J P (fun r I1 J1 P1 => Wp S N (d + 1) MX4_remember 21 [x0, x1] (r.toList ++ []) I1 J1 P1 Q) := wp_callV (M' := MX5_copyFrom) (As := [.ref v0]) rfl rfl rfl rfl (by decide) (Nat.le_of_ble_eq_true rfl) dX4_remember_18
theorem e_X4_remember_21 {w : Nat} {x1 : Option Value} : Wp S N d MX4_remember 21 [some (.ref w), x1] [] I J P Q ↔ Wp S N d MX4_remember 22 [some (.ref w), x1] [.ref w] I J P Q := wp_lod (len := 1) rfl rfl rfl rfl dX4_remember_21
theorem e_X4_remember_22 {v0 : Nat} {x0 x1 : Option Value} : Wp S N d MX4_remember 22 [x0, x1] [.ref v0] I J P Q ↔ S v0 = 4 ∧ Wp S N d MX4_remember 25 [x0, x1] [.int (I v0 2)] I J P Q := wp_getf rfl rfl rfl rfl dX4_remember_22
theorem e_X4_remember_25 {v0 : Int32} {x0 x1 : Option Value} : Wp S N d MX4_remember 25 [x0, x1] [.int v0] I J P Q ↔ Wp S N d MX4_remember 27 [x0, x1] [.int 6, .int v0] I J P Q := wp_bipush (by decide) dX4_remember_25
theorem e_X4_remember_27 {v0 : Int32} {v1 : Int32} {x0 x1 : Option Value} : Wp S N d MX4_remember 27 [x0, x1] [.int v0, .int v1] I J P Q ↔ (v0 ≤ v1 → Wp S N d MX4_remember 43 [x0, x1] [] I J P Q) ∧ (¬ v0 ≤ v1 → Wp S N d MX4_remember 30 [x0, x1] [] I J P Q) := wp_br rfl rfl (by decide) dX4_remember_27
theorem e_X4_remember_30 {w : Nat} {x1 : Option Value} : Wp S N d MX4_remember 30 [some (.ref w), x1] [] I J P Q ↔ Wp S N d MX4_remember 31 [some (.ref w), x1] [.ref w] I J P Q := wp_lod (len := 1) rfl rfl rfl rfl dX4_remember_30
theorem e_X4_remember_31 {v0 : Nat} {x0 x1 : Option Value} : Wp S N d MX4_remember 31 [x0, x1] [.ref v0] I J P Q ↔ Wp S N d MX4_remember 32 [x0, x1] [.ref v0, .ref v0] I J P Q := wp_alu (len := 1) rfl rfl rfl dX4_remember_31
theorem e_X4_remember_32 {v0 : Nat} {v1 : Nat} {x0 x1 : Option Value} : Wp S N d MX4_remember 32 [x0, x1] [.ref v0, .ref v1] I J P Q ↔ S v0 = 4 ∧ Wp S N d MX4_remember 35 [x0, x1] [.int (I v0 2), .ref v1] I J P Q := wp_getf rfl rfl rfl rfl dX4_remember_32
theorem e_X4_remember_35 {v0 : Int32} {v1 : Nat} {x0 x1 : Option Value} : Wp S N d MX4_remember 35 [x0, x1] [.int v0, .ref v1] I J P Q ↔ Wp S N d MX4_remember 36 [x0, x1] [.int 1, .int v0, .ref v1] I J P Q := wp_iconst (by decide) dX4_remember_35
theorem e_X4_remember_36 {v0 : Int32} {v1 : Int32} {v2 : Nat} {x0 x1 : Option Value} : Wp S N d MX4_remember 36 [x0, x1] [.int v0, .int v1, .ref v2] I J P Q ↔ Wp S N d MX4_remember 37 [x0, x1] [.int (v1 + v0), .ref v2] I J P Q := wp_alu (len := 1) rfl rfl rfl dX4_remember_36
theorem e_X4_remember_37 {v0 : Int32} {v1 : Nat} {x0 x1 : Option Value} : Wp S N d MX4_remember 37 [x0, x1] [.int v0, .ref v1] I J P Q ↔ S v1 = 4 ∧ Wp S N d MX4_remember 40 [x0, x1] [] (u2 I v1 2 v0) J P Q := wp_putI rfl rfl rfl rfl dX4_remember_37
theorem e_X4_remember_40  {x0 x1 : Option Value} : Wp S N d MX4_remember 40 [x0, x1] [] I J P Q ↔ Wp S N d MX4_remember 56 [x0, x1] [] I J P Q := wp_go (len := 3) rfl (fun _ _ => rfl) rfl (by decide) dX4_remember_40
theorem e_X4_remember_43 {w : Nat} {x1 : Option Value} : Wp S N d MX4_remember 43 [some (.ref w), x1] [] I J P Q ↔ Wp S N d MX4_remember 44 [some (.ref w), x1] [.ref w] I J P Q := wp_lod (len := 1) rfl rfl rfl rfl dX4_remember_43
theorem e_X4_remember_44 {v0 : Nat} {w : Nat} {x1 : Option Value} : Wp S N d MX4_remember 44 [some (.ref w), x1] [.ref v0] I J P Q ↔ Wp S N d MX4_remember 45 [some (.ref w), x1] [.ref w, .ref v0] I J P Q := wp_lod (len := 1) rfl rfl rfl rfl dX4_remember_44
theorem e_X4_remember_45 {v0 : Nat} {v1 : Nat} {x0 x1 : Option Value} : Wp S N d MX4_remember 45 [x0, x1] [.ref v0, .ref v1] I J P Q ↔ S v0 = 4 ∧ Wp S N d MX4_remember 48 [x0, x1] [.int (I v0 1), .ref v1] I J P Q := wp_getf rfl rfl rfl rfl dX4_remember_45
theorem e_X4_remember_48 {v0 : Int32} {v1 : Nat} {x0 x1 : Option Value} : Wp S N d MX4_remember 48 [x0, x1] [.int v0, .ref v1] I J P Q ↔ Wp S N d MX4_remember 49 [x0, x1] [.int 1, .int v0, .ref v1] I J P Q := wp_iconst (by decide) dX4_remember_48
theorem e_X4_remember_49 {v0 : Int32} {v1 : Int32} {v2 : Nat} {x0 x1 : Option Value} : Wp S N d MX4_remember 49 [x0, x1] [.int v0, .int v1, .ref v2] I J P Q ↔ Wp S N d MX4_remember 50 [x0, x1] [.int (v1 + v0), .ref v2] I J P Q := wp_alu (len := 1) rfl rfl rfl dX4_remember_49
theorem e_X4_remember_50 {v0 : Int32} {v1 : Nat} {x0 x1 : Option Value} : Wp S N d MX4_remember 50 [x0, x1] [.int v0, .ref v1] I J P Q ↔ Wp S N d MX4_remember 52 [x0, x1] [.int 6, .int v0, .ref v1] I J P Q := wp_bipush (by decide) dX4_remember_50
theorem e_X4_remember_52 {v0 : Int32} {v1 : Int32} {v2 : Nat} (h0 : ¬ v0 = 0) {x0 x1 : Option Value} : Wp S N d MX4_remember 52 [x0, x1] [.int v0, .int v1, .ref v2] I J P Q ↔ Wp S N d MX4_remember 53 [x0, x1] [.int (v1 - v1 / v0 * v0), .ref v2] I J P Q := wp_irem h0 dX4_remember_52
theorem e_X4_remember_53 {v0 : Int32} {v1 : Nat} {x0 x1 : Option Value} : Wp S N d MX4_remember 53 [x0, x1] [.int v0, .ref v1] I J P Q ↔ S v1 = 4 ∧ Wp S N d MX4_remember 56 [x0, x1] [] (u2 I v1 1 v0) J P Q := wp_putI rfl rfl rfl rfl dX4_remember_53
theorem e_X4_remember_56  {x0 x1 : Option Value} : Wp S N d MX4_remember 56 [x0, x1] [] I J P Q ↔ Q none I J P := wp_vret rfl dX4_remember_56
theorem dX4_takeBack_0 : decode cX4_takeBack 0 = .ok (.aload_n 0, 1) := by decide +kernel
theorem dX4_takeBack_1 : decode cX4_takeBack 1 = .ok (.dup, 1) := by decide +kernel
theorem dX4_takeBack_2 : decode cX4_takeBack 2 = .ok (.getfield 22, 3) := by decide +kernel
theorem dX4_takeBack_5 : decode cX4_takeBack 5 = .ok (.iconst 1, 1) := by decide +kernel
theorem dX4_takeBack_6 : decode cX4_takeBack 6 = .ok (.isub, 1) := by decide +kernel
theorem dX4_takeBack_7 : decode cX4_takeBack 7 = .ok (.putfield 22, 3) := by decide +kernel
theorem dX4_takeBack_10 : decode cX4_takeBack 10 = .ok (.aload_n 1, 1) := by decide +kernel
theorem dX4_takeBack_11 : decode cX4_takeBack 11 = .ok (.aload_n 0, 1) := by decide +kernel
theorem dX4_takeBack_12 : decode cX4_takeBack 12 = .ok (.getfield 11, 3) := by decide +kernel
theorem dX4_takeBack_15 : decode cX4_takeBack 15 = .ok (.aload_n 0, 1) := by decide +kernel
theorem dX4_takeBack_16 : decode cX4_takeBack 16 = .ok (.getfield 18, 3) := by decide +kernel
theorem dX4_takeBack_19 : decode cX4_takeBack 19 = .ok (.aload_n 0, 1) := by decide +kernel
theorem dX4_takeBack_20 : decode cX4_takeBack 20 = .ok (.getfield 22, 3) := by decide +kernel
theorem dX4_takeBack_23 : decode cX4_takeBack 23 = .ok (.iadd, 1) := by decide +kernel
theorem dX4_takeBack_24 : decode cX4_takeBack 24 = .ok (.bipush 6, 2) := by decide +kernel
theorem dX4_takeBack_26 : decode cX4_takeBack 26 = .ok (.irem, 1) := by decide +kernel
theorem dX4_takeBack_27 : decode cX4_takeBack 27 = .ok (.aaload, 1) := by decide +kernel
theorem dX4_takeBack_28 : decode cX4_takeBack 28 = .ok (.invokevirtual 25, 3) := by decide +kernel
theorem dX4_takeBack_31 : decode cX4_takeBack 31 = .ok (.return_, 1) := by decide +kernel
theorem c_X4_takeBack {a0 : Nat} {a1 : Nat} : CWp S N d MX4_takeBack [.ref a0, .ref a1] I J P Q ↔ Wp S N d MX4_takeBack 0 [some (.ref a0), some (.ref a1)] [] I J P Q := by
  rw [cwp_iff]
  exact ⟨fun h => h.2, fun h => ⟨Nat.le_of_ble_eq_true rfl, h⟩⟩
theorem e_X4_takeBack_0 {w : Nat} {x1 : Option Value} : Wp S N d MX4_takeBack 0 [some (.ref w), x1] [] I J P Q ↔ Wp S N d MX4_takeBack 1 [some (.ref w), x1] [.ref w] I J P Q := wp_lod (len := 1) rfl rfl rfl rfl dX4_takeBack_0
theorem e_X4_takeBack_1 {v0 : Nat} {x0 x1 : Option Value} : Wp S N d MX4_takeBack 1 [x0, x1] [.ref v0] I J P Q ↔ Wp S N d MX4_takeBack 2 [x0, x1] [.ref v0, .ref v0] I J P Q := wp_alu (len := 1) rfl rfl rfl dX4_takeBack_1
theorem e_X4_takeBack_2 {v0 : Nat} {v1 : Nat} {x0 x1 : Option Value} : Wp S N d MX4_takeBack 2 [x0, x1] [.ref v0, .ref v1] I J P Q ↔ S v0 = 4 ∧ Wp S N d MX4_takeBack 5 [x0, x1] [.int (I v0 2), .ref v1] I J P Q := wp_getf rfl rfl rfl rfl dX4_takeBack_2
theorem e_X4_takeBack_5 {v0 : Int32} {v1 : Nat} {x0 x1 : Option Value} : Wp S N d MX4_takeBack 5 [x0, x1] [.int v0, .ref v1] I J P Q ↔ Wp S N d MX4_takeBack 6 [x0, x1] [.int 1, .int v0, .ref v1] I J P Q := wp_iconst (by decide) dX4_takeBack_5
theorem e_X4_takeBack_6 {v0 : Int32} {v1 : Int32} {v2 : Nat} {x0 x1 : Option Value} : Wp S N d MX4_takeBack 6 [x0, x1] [.int v0, .int v1, .ref v2] I J P Q ↔ Wp S N d MX4_takeBack 7 [x0, x1] [.int (v1 - v0), .ref v2] I J P Q := wp_alu (len := 1) rfl rfl rfl dX4_takeBack_6
theorem e_X4_takeBack_7 {v0 : Int32} {v1 : Nat} {x0 x1 : Option Value} : Wp S N d MX4_takeBack 7 [x0, x1] [.int v0, .ref v1] I J P Q ↔ S v1 = 4 ∧ Wp S N d MX4_takeBack 10 [x0, x1] [] (u2 I v1 2 v0) J P Q := wp_putI rfl rfl rfl rfl dX4_takeBack_7
theorem e_X4_takeBack_10 {w : Nat} {x0 : Option Value} : Wp S N d MX4_takeBack 10 [x0, some (.ref w)] [] I J P Q ↔ Wp S N d MX4_takeBack 11 [x0, some (.ref w)] [.ref w] I J P Q := wp_lod (len := 1) rfl rfl rfl rfl dX4_takeBack_10
theorem e_X4_takeBack_11 {v0 : Nat} {w : Nat} {x1 : Option Value} : Wp S N d MX4_takeBack 11 [some (.ref w), x1] [.ref v0] I J P Q ↔ Wp S N d MX4_takeBack 12 [some (.ref w), x1] [.ref w, .ref v0] I J P Q := wp_lod (len := 1) rfl rfl rfl rfl dX4_takeBack_11
theorem e_X4_takeBack_12 {v0 : Nat} {v1 : Nat} {x0 x1 : Option Value} : Wp S N d MX4_takeBack 12 [x0, x1] [.ref v0, .ref v1] I J P Q ↔ S v0 = 4 ∧ Wp S N d MX4_takeBack 15 [x0, x1] [va_rf (P v0 0), .ref v1] I J P Q := wp_getf rfl rfl rfl rfl dX4_takeBack_12
theorem e_X4_takeBack_15 {v0 : Nat} {v1 : Nat} {w : Nat} {x1 : Option Value} : Wp S N d MX4_takeBack 15 [some (.ref w), x1] [.ref v0, .ref v1] I J P Q ↔ Wp S N d MX4_takeBack 16 [some (.ref w), x1] [.ref w, .ref v0, .ref v1] I J P Q := wp_lod (len := 1) rfl rfl rfl rfl dX4_takeBack_15
theorem e_X4_takeBack_16 {v0 : Nat} {v1 : Nat} {v2 : Nat} {x0 x1 : Option Value} : Wp S N d MX4_takeBack 16 [x0, x1] [.ref v0, .ref v1, .ref v2] I J P Q ↔ S v0 = 4 ∧ Wp S N d MX4_takeBack 19 [x0, x1] [.int (I v0 1), .ref v1, .ref v2] I J P Q := wp_getf rfl rfl rfl rfl dX4_takeBack_16
theorem e_X4_takeBack_19 {v0 : Int32} {v1 : Nat} {v2 : Nat} {w : Nat} {x1 : Option Value} : Wp S N d MX4_takeBack 19 [some (.ref w), x1] [.int v0, .ref v1, .ref v2] I J P Q ↔ Wp S N d MX4_takeBack 20 [some (.ref w), x1] [.ref w, .int v0, .ref v1, .ref v2] I J P Q := wp_lod (len := 1) rfl rfl rfl rfl dX4_takeBack_19
theorem e_X4_takeBack_20 {v0 : Nat} {v1 : Int32} {v2 : Nat} {v3 : Nat} {x0 x1 : Option Value} : Wp S N d MX4_takeBack 20 [x0, x1] [.ref v0, .int v1, .ref v2, .ref v3] I J P Q ↔ S v0 = 4 ∧ Wp S N d MX4_takeBack 23 [x0, x1] [.int (I v0 2), .int v1, .ref v2, .ref v3] I J P Q := wp_getf rfl rfl rfl rfl dX4_takeBack_20
theorem e_X4_takeBack_23 {v0 : Int32} {v1 : Int32} {v2 : Nat} {v3 : Nat} {x0 x1 : Option Value} : Wp S N d MX4_takeBack 23 [x0, x1] [.int v0, .int v1, .ref v2, .ref v3] I J P Q ↔ Wp S N d MX4_takeBack 24 [x0, x1] [.int (v1 + v0), .ref v2, .ref v3] I J P Q := wp_alu (len := 1) rfl rfl rfl dX4_takeBack_23
theorem e_X4_takeBack_24 {v0 : Int32} {v1 : Nat} {v2 : Nat} {x0 x1 : Option Value} : Wp S N d MX4_takeBack 24 [x0, x1] [.int v0, .ref v1, .ref v2] I J P Q ↔ Wp S N d MX4_takeBack 26 [x0, x1] [.int 6, .int v0, .ref v1, .ref v2] I J P Q := wp_bipush (by decide) dX4_takeBack_24
theorem e_X4_takeBack_26 {v0 : Int32} {v1 : Int32} {v2 : Nat} {v3 : Nat} (h0 : ¬ v0 = 0) {x0 x1 : Option Value} : Wp S N d MX4_takeBack 26 [x0, x1] [.int v0, .int v1, .ref v2, .ref v3] I J P Q ↔ Wp S N d MX4_takeBack 27 [x0, x1] [.int (v1 - v1 / v0 * v0), .ref v2, .ref v3] I J P Q := wp_irem h0 dX4_takeBack_26
theorem e_X4_takeBack_27 {v0 : Int32} {v1 : Nat} {v2 : Nat} {x0 x1 : Option Value} : Wp S N d MX4_takeBack 27 [x0, x1] [.int v0, .ref v1, .ref v2] I J P Q ↔ ((S v1 = 12 ∨ S v1 = 13 ∨ S v1 = 14) ∧ vp_in v0 (N v1)) ∧ Wp S N d MX4_takeBack 28 [x0, x1] [va_rf (P v1 v0.toNatClampNeg), .ref v2] I J P Q := wp_ald rfl rfl dX4_takeBack_27
theorem e_X4_takeBack_28 {v0 : Nat} {v1 : Nat} {x0 x1 : Option Value} : Wp S N (d + 1) MX4_takeBack 28 [x0, x1] [.ref v0, .ref v1] I J P Q ↔ S v1 = 5 ∧ CWp S N d MX5_copyFrom [.ref v1, .ref v0] I J P (fun r I1 J1 P1 => Wp S N (d + 1) MX4_takeBack 31 [x0, x1] (r.toList ++ []) I1 J1 P1 Q) := wp_callV (M' := MX5_copyFrom) (As := [.ref v0]) rfl rfl rfl rfl (by decide) (Nat.le_of_ble_eq_true rfl) dX4_takeBack_28
theorem e_X4_takeBack_31  {x0 x1 : Option Value} : Wp S N d MX4_takeBack 31 [x0, x1] [] I J P Q ↔ Q none I J P := wp_vret rfl dX4_takeBack_31
theorem dX5_copyFrom_0 : decode cX5_copyFrom 0 = .ok (.aload_n 0, 1) := by decide +kernel
theorem dX5_copyFrom_1 : decode cX5_copyFrom 1 = .ok (.getfield 12, 3) := by decide +kernel
theorem dX5_copyFrom_4 : decode cX5_copyFrom 4 = .ok (.aload_n 1, 1) := by decide +kernel
theorem dX5_copyFrom_5 : decode cX5_copyFrom 5 = .ok (.getfield 12, 3) := by decide +kernel
theorem dX5_copyFrom_8 : decode cX5_copyFrom 8 = .ok (.invokevirtual 31, 3) := by decide +kernel
theorem dX5_copyFrom_11 : decode cX5_copyFrom 11 = .ok (.aload_n 1, 1) := by decide +kernel
theorem dX5_copyFrom_12 : decode cX5_copyFrom 12 = .ok (.getfield 18, 3) := by decide +kernel
theorem dX5_copyFrom_15 : decode cX5_copyFrom 15 = .ok (.iconst 0, 1) := by decide +kernel
theorem dX5_copyFrom_16 : decode cX5_copyFrom 16 = .ok (.aload_n 0, 1) := by decide +kernel
theorem dX5_copyFrom_17 : decode cX5_copyFrom 17 = .ok (.getfield 18, 3) := by decide +kernel
theorem dX5_copyFrom_20 : decode cX5_copyFrom 20 = .ok (.iconst 0, 1) := by decide +kernel
theorem dX5_copyFrom_21 : decode cX5_copyFrom 21 = .ok (.bipush 6, 2) := by decide +kernel
theorem dX5_copyFrom_23 : decode cX5_copyFrom 23 = .ok (.invokestatic 35, 3) := by decide +kernel
theorem dX5_copyFrom_26 : decode cX5_copyFrom 26 = .ok (.aload_n 1, 1) := by decide +kernel
theorem dX5_copyFrom_27 : decode cX5_copyFrom 27 = .ok (.getfield 22, 3) := by decide +kernel
theorem dX5_copyFrom_30 : decode cX5_copyFrom 30 = .ok (.iconst 0, 1) := by decide +kernel
theorem dX5_copyFrom_31 : decode cX5_copyFrom 31 = .ok (.aload_n 0, 1) := by decide +kernel
theorem dX5_copyFrom_32 : decode cX5_copyFrom 32 = .ok (.getfield 22, 3) := by decide +kernel
theorem dX5_copyFrom_35 : decode cX5_copyFrom 35 = .ok (.iconst 0, 1) := by decide +kernel
theorem dX5_copyFrom_36 : decode cX5_copyFrom 36 = .ok (.bipush 6, 2) := by decide +kernel
theorem dX5_copyFrom_38 : decode cX5_copyFrom 38 = .ok (.invokestatic 35, 3) := by decide +kernel
theorem dX5_copyFrom_41 : decode cX5_copyFrom 41 = .ok (.aload_n 1, 1) := by decide +kernel
theorem dX5_copyFrom_42 : decode cX5_copyFrom 42 = .ok (.getfield 25, 3) := by decide +kernel
theorem dX5_copyFrom_45 : decode cX5_copyFrom 45 = .ok (.iconst 0, 1) := by decide +kernel
theorem dX5_copyFrom_46 : decode cX5_copyFrom 46 = .ok (.aload_n 0, 1) := by decide +kernel
theorem dX5_copyFrom_47 : decode cX5_copyFrom 47 = .ok (.getfield 25, 3) := by decide +kernel
theorem dX5_copyFrom_50 : decode cX5_copyFrom 50 = .ok (.iconst 0, 1) := by decide +kernel
theorem dX5_copyFrom_51 : decode cX5_copyFrom 51 = .ok (.bipush 6, 2) := by decide +kernel
theorem dX5_copyFrom_53 : decode cX5_copyFrom 53 = .ok (.invokestatic 35, 3) := by decide +kernel
theorem dX5_copyFrom_56 : decode cX5_copyFrom 56 = .ok (.aload_n 1, 1) := by decide +kernel
theorem dX5_copyFrom_57 : decode cX5_copyFrom 57 = .ok (.getfield 28, 3) := by decide +kernel
theorem dX5_copyFrom_60 : decode cX5_copyFrom 60 = .ok (.iconst 0, 1) := by decide +kernel
theorem dX5_copyFrom_61 : decode cX5_copyFrom 61 = .ok (.aload_n 0, 1) := by decide +kernel
theorem dX5_copyFrom_62 : decode cX5_copyFrom 62 = .ok (.getfield 28, 3) := by decide +kernel
theorem dX5_copyFrom_65 : decode cX5_copyFrom 65 = .ok (.iconst 0, 1) := by decide +kernel
theorem dX5_copyFrom_66 : decode cX5_copyFrom 66 = .ok (.bipush 6, 2) := by decide +kernel
theorem dX5_copyFrom_68 : decode cX5_copyFrom 68 = .ok (.invokestatic 35, 3) := by decide +kernel
theorem dX5_copyFrom_71 : decode cX5_copyFrom 71 = .ok (.aload_n 0, 1) := by decide +kernel
theorem dX5_copyFrom_72 : decode cX5_copyFrom 72 = .ok (.aload_n 1, 1) := by decide +kernel
theorem dX5_copyFrom_73 : decode cX5_copyFrom 73 = .ok (.getfield 41, 3) := by decide +kernel
theorem dX5_copyFrom_76 : decode cX5_copyFrom 76 = .ok (.putfield 41, 3) := by decide +kernel
theorem dX5_copyFrom_79 : decode cX5_copyFrom 79 = .ok (.return_, 1) := by decide +kernel
theorem c_X5_copyFrom {a0 : Nat} {a1 : Nat} : CWp S N d MX5_copyFrom [.ref a0, .ref a1] I J P Q ↔ Wp S N d MX5_copyFrom 0 [some (.ref a0), some (.ref a1)] [] I J P Q := by
  rw [cwp_iff]
  exact ⟨fun h => h.2, fun h => ⟨Nat.le_of_ble_eq_true rfl, h⟩⟩
theorem e_X5_copyFrom_0 {w : Nat} {x1 : Option Value} : Wp S N d MX5_copyFrom 0 [some (.ref w), x1] [] I J P Q ↔ Wp S N d MX5_copyFrom 1 [some (.ref w), x1] [.ref w] I J P Q := wp_lod (len := 1) rfl rfl rfl rfl dX5_copyFrom_0
theorem e_X5_copyFrom_1 {v0 : Nat} {x0 x1 : Option Value} : Wp S N d MX5_copyFrom 1 [x0, x1] [.ref v0] I J P Q ↔ S v0 = 5 ∧ Wp S N d MX5_copyFrom 4 [x0, x1] [va_rf (P v0 0)] I J P Q := wp_getf rfl rfl rfl rfl dX5_copyFrom_1
theorem e_X5_copyFrom_4 {v0 : Nat} {w : Nat} {x0 : Option Value} : Wp S N d MX5_copyFrom 4 [x0, some (.ref w)] [.ref v0] I J P Q ↔ Wp S N d MX5_copyFrom 5 [x0, some (.ref w)] [.ref w, .ref v0] I J P Q := wp_lod (len := 1) rfl rfl rfl rfl dX5_copyFrom_4
theorem e_X5_copyFrom_5 {v0 : Nat} {v1 : Nat} {x0 x1 : Option Value} : Wp S N d MX5_copyFrom 5 [x0, x1] [.ref v0, .ref v1] I J P Q ↔ S v0 = 5 ∧ Wp S N d MX5_copyFrom 8 [x0, x1] [va_rf (P v0 0), .ref v1] I J P Q := wp_getf rfl rfl rfl rfl dX5_copyFrom_5
theorem e_X5_copyFrom_8 {v0 : Nat} {v1 : Nat} {x0 x1 : Option Value} : Wp S N (d + 1) MX5_copyFrom 8 [x0, x1] [.ref v0, .ref v1] I J P Q ↔ S v1 = 7 ∧ CWp S N d MX7_copyFrom [.ref v1, .ref v0] I J P (fun r I1 J1 P1 => Wp S N (d + 1) MX5_copyFrom 11 [x0, x1] (r.toList ++ []) I1 J1 P1 Q) := wp_callV (M' := MX7_copyFrom) (As := [.ref v0]) rfl rfl rfl rfl (by decide) (Nat.le_of_ble_eq_true rfl) dX5_copyFrom_8
theorem e_X5_copyFrom_11 {w : Nat} {x0 : Option Value} : Wp S N d MX5_copyFrom 11 [x0, some (.ref w)] [] I J P Q ↔ Wp S N d MX5_copyFrom 12 [x0, some (.ref w)] [.ref w] I J P Q := wp_lod (len := 1) rfl rfl rfl rfl dX5_copyFrom_11
theorem e_X5_copyFrom_12 {v0 : Nat} {x0 x1 : Option Value} : Wp S N d MX5_copyFrom 12 [x0, x1] [.ref v0] I J P Q ↔ S v0 = 5 ∧ Wp S N d MX5_copyFrom 15 [x0, x1] [va_rf (P v0 1)] I J P Q := wp_getf rfl rfl rfl rfl dX5_copyFrom_12
theorem e_X5_copyFrom_15 {v0 : Nat} {x0 x1 : Option Value} : Wp S N d MX5_copyFrom 15 [x0, x1] [.ref v0] I J P Q ↔ Wp S N d MX5_copyFrom 16 [x0, x1] [.int 0, .ref v0] I J P Q := wp_iconst (by decide) dX5_copyFrom_15
theorem e_X5_copyFrom_16 {v0 : Int32} {v1 : Nat} {w : Nat} {x1 : Option Value} : Wp S N d MX5_copyFrom 16 [some (.ref w), x1] [.int v0, .ref v1] I J P Q ↔ Wp S N d MX5_copyFrom 17 [some (.ref w), x1] [.ref w, .int v0, .ref v1] I J P Q := wp_lod (len := 1) rfl rfl rfl rfl dX5_copyFrom_16
theorem e_X5_copyFrom_17 {v0 : Nat} {v1 : Int32} {v2 : Nat} {x0 x1 : Option Value} : Wp S N d MX5_copyFrom 17 [x0, x1] [.ref v0, .int v1, .ref v2] I J P Q ↔ S v0 = 5 ∧ Wp S N d MX5_copyFrom 20 [x0, x1] [va_rf (P v0 1), .int v1, .ref v2] I J P Q := wp_getf rfl rfl rfl rfl dX5_copyFrom_17
theorem e_X5_copyFrom_20 {v0 : Nat} {v1 : Int32} {v2 : Nat} {x0 x1 : Option Value} : Wp S N d MX5_copyFrom 20 [x0, x1] [.ref v0, .int v1, .ref v2] I J P Q ↔ Wp S N d MX5_copyFrom 21 [x0, x1] [.int 0, .ref v0, .int v1, .ref v2] I J P Q := wp_iconst (by decide) dX5_copyFrom_20
theorem e_X5_copyFrom_21 {v0 : Int32} {v1 : Nat} {v2 : Int32} {v3 : Nat} {x0 x1 : Option Value} : Wp S N d MX5_copyFrom 21 [x0, x1] [.int v0, .ref v1, .int v2, .ref v3] I J P Q ↔ Wp S N d MX5_copyFrom 23 [x0, x1] [.int 6, .int v0, .ref v1, .int v2, .ref v3] I J P Q := wp_bipush (by decide) dX5_copyFrom_21
theorem e_X5_copyFrom_23 {v0 : Int32} {v1 : Int32} {v2 : Nat} {v3 : Int32} {v4 : Nat} {x0 x1 : Option Value} (hS : S v2 = 10) : Wp S N (d + 1) MX5_copyFrom 23 [x0, x1] [.int v0, .int v1, .ref v2, .int v3, .ref v4] I J P Q ↔ (S v4 = 10 ∧ ¬ v3 < 0 ∧ ¬ v1 < 0 ∧ ¬ v0 < 0 ∧ v3.toNatClampNeg + v0.toNatClampNeg ≤ N v4 ∧ v1.toNatClampNeg + v0.toNatClampNeg ≤ N v2) ∧ Wp S N (d + 1) MX5_copyFrom 26 [x0, x1] [] (uA I v2 (va_cpy (I v4) (I v2) v3.toNatClampNeg v1.toNatClampNeg v0.toNatClampNeg)) J P Q := wp_cpI rfl rfl hS (Nat.le_of_ble_eq_true rfl) dX5_copyFrom_23
theorem e_X5_copyFrom_23L {v0 : Int32} {v1 : Int32} {v2 : Nat} {v3 : Int32} {v4 : Nat} {x0 x1 : Option Value} (hS : S v2 = 11) : Wp S N (d + 1) MX5_copyFrom 23 [x0, x1] [.int v0, .int v1, .ref v2, .int v3, .ref v4] I J P Q ↔ (S v2 = 11 ∧ S v4 = 11 ∧ ¬ v3 < 0 ∧ ¬ v1 < 0 ∧ ¬ v0 < 0 ∧ v3.toNatClampNeg + v0.toNatClampNeg ≤ N v4 ∧ v1.toNatClampNeg + v0.toNatClampNeg ≤ N v2) ∧ Wp S N (d + 1) MX5_copyFrom 26 [x0, x1] [] I (uA J v2 (va_cpy (J v4) (J v2) v3.toNatClampNeg v1.toNatClampNeg v0.toNatClampNeg)) P Q := wp_cpJ rfl rfl hS (Nat.le_of_ble_eq_true rfl) dX5_copyFrom_23
theorem e_X5_copyFrom_26 {w : Nat} {x0 : Option Value} : Wp S N d MX5_copyFrom 26 [x0, some (.ref w)] [] I J P Q ↔ Wp S N d MX5_copyFrom 27 [x0, some (.ref w)] [.ref w] I J P Q := wp_lod (len := 1) rfl rfl rfl rfl dX5_copyFrom_26
theorem e_X5_copyFrom_27 {v0 : Nat} {x0 x1 : Option Value} : Wp S N d MX5_copyFrom 27 [x0, x1] [.ref v0] I J P Q ↔ S v0 = 5 ∧ Wp S N d MX5_copyFrom 30 [x0, x1] [va_rf (P v0 2)] I J P Q := wp_getf rfl rfl rfl rfl dX5_copyFrom_27
theorem e_X5_copyFrom_30 {v0 : Nat} {x0 x1 : Option Value} : Wp S N d MX5_copyFrom 30 [x0, x1] [.ref v0] I J P Q ↔ Wp S N d MX5_copyFrom 31 [x0, x1] [.int 0, .ref v0] I J P Q := wp_iconst (by decide) dX5_copyFrom_30
theorem e_X5_copyFrom_31 {v0 : Int32} {v1 : Nat} {w : Nat} {x1 : Option Value} : Wp S N d MX5_copyFrom 31 [some (.ref w), x1] [.int v0, .ref v1] I J P Q ↔ Wp S N d MX5_copyFrom 32 [some (.ref w), x1] [.ref w, .int v0, .ref v1] I J P Q := wp_lod (len := 1) rfl rfl rfl rfl dX5_copyFrom_31
theorem e_X5_copyFrom_32 {v0 : Nat} {v1 : Int32} {v2 : Nat} {x0 x1 : Option Value} : Wp S N d MX5_copyFrom 32 [x0, x1] [.ref v0, .int v1, .ref v2] I J P Q ↔ S v0 = 5 ∧ Wp S N d MX5_copyFrom 35 [x0, x1] [va_rf (P v0 2), .int v1, .ref v2] I J P Q := wp_getf rfl rfl rfl rfl dX5_copyFrom_32
theorem e_X5_copyFrom_35 {v0 : Nat} {v1 : Int32} {v2 : Nat} {x0 x1 : Option Value} : Wp S N d MX5_copyFrom 35 [x0, x1] [.ref v0, .int v1, .ref v2] I J P Q ↔ Wp S N d MX5_copyFrom 36 [x0, x1] [.int 0, .ref v0, .int v1, .ref v2] I J P Q := wp_iconst (by decide) dX5_copyFrom_35
theorem e_X5_copyFrom_36 {v0 : Int32} {v1 : Nat} {v2 : Int32} {v3 : Nat} {x0 x1 : Option Value} : Wp S N d MX5_copyFrom 36 [x0, x1] [.int v0, .ref v1, .int v2, .ref v3] I J P Q ↔ Wp S N d MX5_copyFrom 38 [x0, x1] [.int 6, .int v0, .ref v1, .int v2, .ref v3] I J P Q := wp_bipush (by decide) dX5_copyFrom_36
theorem e_X5_copyFrom_38 {v0 : Int32} {v1 : Int32} {v2 : Nat} {v3 : Int32} {v4 : Nat} {x0 x1 : Option Value} (hS : S v2 = 10) : Wp S N (d + 1) MX5_copyFrom 38 [x0, x1] [.int v0, .int v1, .ref v2, .int v3, .ref v4] I J P Q ↔ (S v4 = 10 ∧ ¬ v3 < 0 ∧ ¬ v1 < 0 ∧ ¬ v0 < 0 ∧ v3.toNatClampNeg + v0.toNatClampNeg ≤ N v4 ∧ v1.toNatClampNeg + v0.toNatClampNeg ≤ N v2) ∧ Wp S N (d + 1) MX5_copyFrom 41 [x0, x1] [] (uA I v2 (va_cpy (I v4) (I v2) v3.toNatClampNeg v1.toNatClampNeg v0.toNatClampNeg)) J P Q := wp_cpI rfl rfl hS (Nat.le_of_ble_eq_true rfl) dX5_copyFrom_38
theorem e_X5_copyFrom_38L {v0 : Int32} {v1 : Int32} {v2 : Nat} {v3 : Int32} {v4 : Nat} {x0 x1 : Option Value} (hS : S v2 = 11) : Wp S N (d + 1) MX5_copyFrom 38 [x0, x1] [.int v0, .int v1, .ref v2, .int v3, .ref v4] I J P Q ↔ (S v2 = 11 ∧ S v4 = 11 ∧ ¬ v3 < 0 ∧ ¬ v1 < 0 ∧ ¬ v0 < 0 ∧ v3.toNatClampNeg + v0.toNatClampNeg ≤ N v4 ∧ v1.toNatClampNeg + v0.toNatClampNeg ≤ N v2) ∧ Wp S N (d + 1) MX5_copyFrom 41 [x0, x1] [] I (uA J v2 (va_cpy (J v4) (J v2) v3.toNatClampNeg v1.toNatClampNeg v0.toNatClampNeg)) P Q := wp_cpJ rfl rfl hS (Nat.le_of_ble_eq_true rfl) dX5_copyFrom_38
theorem e_X5_copyFrom_41 {w : Nat} {x0 : Option Value} : Wp S N d MX5_copyFrom 41 [x0, some (.ref w)] [] I J P Q ↔ Wp S N d MX5_copyFrom 42 [x0, some (.ref w)] [.ref w] I J P Q := wp_lod (len := 1) rfl rfl rfl rfl dX5_copyFrom_41
theorem e_X5_copyFrom_42 {v0 : Nat} {x0 x1 : Option Value} : Wp S N d MX5_copyFrom 42 [x0, x1] [.ref v0] I J P Q ↔ S v0 = 5 ∧ Wp S N d MX5_copyFrom 45 [x0, x1] [va_rf (P v0 3)] I J P Q := wp_getf rfl rfl rfl rfl dX5_copyFrom_42
theorem e_X5_copyFrom_45 {v0 : Nat} {x0 x1 : Option Value} : Wp S N d MX5_copyFrom 45 [x0, x1] [.ref v0] I J P Q ↔ Wp S N d MX5_copyFrom 46 [x0, x1] [.int 0, .ref v0] I J P Q := wp_iconst (by decide) dX5_copyFrom_45
theorem e_X5_copyFrom_46 {v0 : Int32} {v1 : Nat} {w : Nat} {x1 : Option Value} : Wp S N d MX5_copyFrom 46 [some (.ref w), x1] [.int v0, .ref v1] I J P Q ↔ Wp S N d MX5_copyFrom 47 [some (.ref w), x1] [.ref w, .int v0, .ref v1] I J P Q := wp_lod (len := 1) rfl rfl rfl rfl dX5_copyFrom_46
theorem e_X5_copyFrom_47 {v0 : Nat} {v1 : Int32} {v2 : Nat} {x0 x1 : Option Value} : Wp S N d MX5_copyFrom 47 [x0, x1] [.ref v0, .int v1, .ref v2] I J P Q ↔ S v0 = 5 ∧ Wp S N d MX5_copyFrom 50 [x0, x1] [va_rf (P v0 3), .int v1, .ref v2] I J P Q := wp_getf rfl rfl rfl rfl dX5_copyFrom_47
theorem e_X5_copyFrom_50 {v0 : Nat} {v1 : Int32} {v2 : Nat} {x0 x1 : Option Value} : Wp S N d MX5_copyFrom 50 [x0, x1] [.ref v0, .int v1, .ref v2] I J P Q ↔ Wp S N d MX5_copyFrom 51 [x0, x1] [.int 0, .ref v0, .int v1, .ref v2] I J P Q := wp_iconst (by decide) dX5_copyFrom_50
theorem e_X5_copyFrom_51 {v0 : Int32} {v1 : Nat} {v2 : Int32} {v3 : Nat} {x0 x1 : Option Value} : Wp S N d MX5_copyFrom 51 [x0, x1] [.int v0, .ref v1, .int v2, .ref v3] I J P Q ↔ Wp S N d MX5_copyFrom 53 [x0, x1] [.int 6, .int v0, .ref v1, .int v2, .ref v3] I J P Q := wp_bipush (by decide) dX5_copyFrom_51
theorem e_X5_copyFrom_53 {v0 : Int32} {v1 : Int32} {v2 : Nat} {v3 : Int32} {v4 : Nat} {x0 x1 : Option Value} (hS : S v2 = 10) : Wp S N (d + 1) MX5_copyFrom 53 [x0, x1] [.int v0, .int v1, .ref v2, .int v3, .ref v4] I J P Q ↔ (S v4 = 10 ∧ ¬ v3 < 0 ∧ ¬ v1 < 0 ∧ ¬ v0 < 0 ∧ v3.toNatClampNeg + v0.toNatClampNeg ≤ N v4 ∧ v1.toNatClampNeg + v0.toNatClampNeg ≤ N v2) ∧ Wp S N (d + 1) MX5_copyFrom 56 [x0, x1] [] (uA I v2 (va_cpy (I v4) (I v2) v3.toNatClampNeg v1.toNatClampNeg v0.toNatClampNeg)) J P Q := wp_cpI rfl rfl hS (Nat.le_of_ble_eq_true rfl) dX5_copyFrom_53
theorem e_X5_copyFrom_53L {v0 : Int32} {v1 : Int32} {v2 : Nat} {v3 : Int32} {v4 : Nat} {x0 x1 : Option Value} (hS : S v2 = 11) : Wp S N (d + 1) MX5_copyFrom 53 [x0, x1] [.int v0, .int v1, .ref v2, .int v3, .ref v4] I J P Q ↔ (S v2 = 11 ∧ S v4 = 11 ∧ ¬ v3 < 0 ∧ ¬ v1 < 0 ∧ ¬ v0 < 0 ∧ v3.toNatClampNeg + v0.toNatClampNeg ≤ N v4 ∧ v1.toNatClampNeg + v0.toNatClampNeg ≤ N v2) ∧ Wp S N (d + 1) MX5_copyFrom 56 [x0, x1] [] I (uA J v2 (va_cpy (J v4) (J v2) v3.toNatClampNeg v1.toNatClampNeg v0.toNatClampNeg)) P Q := wp_cpJ rfl rfl hS (Nat.le_of_ble_eq_true rfl) dX5_copyFrom_53
theorem e_X5_copyFrom_56 {w : Nat} {x0 : Option Value} : Wp S N d MX5_copyFrom 56 [x0, some (.ref w)] [] I J P Q ↔ Wp S N d MX5_copyFrom 57 [x0, some (.ref w)] [.ref w] I J P Q := wp_lod (len := 1) rfl rfl rfl rfl dX5_copyFrom_56
theorem e_X5_copyFrom_57 {v0 : Nat} {x0 x1 : Option Value} : Wp S N d MX5_copyFrom 57 [x0, x1] [.ref v0] I J P Q ↔ S v0 = 5 ∧ Wp S N d MX5_copyFrom 60 [x0, x1] [va_rf (P v0 4)] I J P Q := wp_getf rfl rfl rfl rfl dX5_copyFrom_57
theorem e_X5_copyFrom_60 {v0 : Nat} {x0 x1 : Option Value} : Wp S N d MX5_copyFrom 60 [x0, x1] [.ref v0] I J P Q ↔ Wp S N d MX5_copyFrom 61 [x0, x1] [.int 0, .ref v0] I J P Q := wp_iconst (by decide) dX5_copyFrom_60
theorem e_X5_copyFrom_61 {v0 : Int32} {v1 : Nat} {w : Nat} {x1 : Option Value} : Wp S N d MX5_copyFrom 61 [some (.ref w), x1] [.int v0, .ref v1] I J P Q ↔ Wp S N d MX5_copyFrom 62 [some (.ref w), x1] [.ref w, .int v0, .ref v1] I J P Q := wp_lod (len := 1) rfl rfl rfl rfl dX5_copyFrom_61
theorem e_X5_copyFrom_62 {v0 : Nat} {v1 : Int32} {v2 : Nat} {x0 x1 : Option Value} : Wp S N d MX5_copyFrom 62 [x0, x1] [.ref v0, .int v1, .ref v2] I J P Q ↔ S v0 = 5 ∧ Wp S N d MX5_copyFrom 65 [x0, x1] [va_rf (P v0 4), .int v1, .ref v2] I J P Q := wp_getf rfl rfl rfl rfl dX5_copyFrom_62
theorem e_X5_copyFrom_65 {v0 : Nat} {v1 : Int32} {v2 : Nat} {x0 x1 : Option Value} : Wp S N d MX5_copyFrom 65 [x0, x1] [.ref v0, .int v1, .ref v2] I J P Q ↔ Wp S N d MX5_copyFrom 66 [x0, x1] [.int 0, .ref v0, .int v1, .ref v2] I J P Q := wp_iconst (by decide) dX5_copyFrom_65
theorem e_X5_copyFrom_66 {v0 : Int32} {v1 : Nat} {v2 : Int32} {v3 : Nat} {x0 x1 : Option Value} : Wp S N d MX5_copyFrom 66 [x0, x1] [.int v0, .ref v1, .int v2, .ref v3] I J P Q ↔ Wp S N d MX5_copyFrom 68 [x0, x1] [.int 6, .int v0, .ref v1, .int v2, .ref v3] I J P Q := wp_bipush (by decide) dX5_copyFrom_66
theorem e_X5_copyFrom_68 {v0 : Int32} {v1 : Int32} {v2 : Nat} {v3 : Int32} {v4 : Nat} {x0 x1 : Option Value} (hS : S v2 = 10) : Wp S N (d + 1) MX5_copyFrom 68 [x0, x1] [.int v0, .int v1, .ref v2, .int v3, .ref v4] I J P Q ↔ (S v4 = 10 ∧ ¬ v3 < 0 ∧ ¬ v1 < 0 ∧ ¬ v0 < 0 ∧ v3.toNatClampNeg + v0.toNatClampNeg ≤ N v4 ∧ v1.toNatClampNeg + v0.toNatClampNeg ≤ N v2) ∧ Wp S N (d + 1) MX5_copyFrom 71 [x0, x1] [] (uA I v2 (va_cpy (I v4) (I v2) v3.toNatClampNeg v1.toNatClampNeg v0.toNatClampNeg)) J P Q := wp_cpI rfl rfl hS (Nat.le_of_ble_eq_true rfl) dX5_copyFrom_68
theorem e_X5_copyFrom_68L {v0 : Int32} {v1 : Int32} {v2 : Nat} {v3 : Int32} {v4 : Nat} {x0 x1 : Option Value} (hS : S v2 = 11) : Wp S N (d + 1) MX5_copyFrom 68 [x0, x1] [.int v0, .int v1, .ref v2, .int v3, .ref v4] I J P Q ↔ (S v2 = 11 ∧ S v4 = 11 ∧ ¬ v3 < 0 ∧ ¬ v1 < 0 ∧ ¬ v0 < 0 ∧ v3.toNatClampNeg + v0.toNatClampNeg ≤ N v4 ∧ v1.toNatClampNeg + v0.toNatClampNeg ≤ N v2) ∧ Wp S N (d + 1) MX5_copyFrom 71 [x0, x1] [] I (uA J v2 (va_cpy (J v4) (J v2) v3.toNatClampNeg v1.toNatClampNeg v0.toNatClampNeg)) P Q := wp_cpJ rfl rfl hS (Nat.le_of_ble_eq_true rfl) dX5_copyFrom_68
theorem e_X5_copyFrom_71 {w : Nat} {x1 : Option Value} : Wp S N d MX5_copyFrom 71 [some (.ref w), x1] [] I J P Q ↔ Wp S N d MX5_copyFrom 72 [some (.ref w), x1] [.ref w] I J P Q := wp_lod (len := 1) rfl rfl rfl rfl dX5_copyFrom_71
theorem e_X5_copyFrom_72 {v0 : Nat} {w : Nat} {x0 : Option Value} : Wp S N d MX5_copyFrom 72 [x0, some (.ref w)] [.ref v0] I J P Q ↔ Wp S N d MX5_copyFrom 73 [x0, some (.ref w)] [.ref w, .ref v0] I J P Q := wp_lod (len := 1) rfl rfl rfl rfl dX5_copyFrom_72
theorem e_X5_copyFrom_73 {v0 : Nat} {v1 : Nat} {x0 x1 : Option Value} : Wp S N d MX5_copyFrom 73 [x0, x1] [.ref v0, .ref v1] I J P Q ↔ S v0 = 5 ∧ Wp S N d MX5_copyFrom 76 [x0, x1] [.int (I v0 5), .ref v1] I J P Q := wp_getf rfl rfl rfl rfl dX5_copyFrom_73
theorem e_X5_copyFrom_76 {v0 : Int32} {v1 : Nat} {x0 x1 : Option Value} : Wp S N d MX5_copyFrom 76 [x0, x1] [.int v0, .ref v1] I J P Q ↔ S v1 = 5 ∧ Wp S N d MX5_copyFrom 79 [x0, x1] [] (u2 I v1 5 v0) J P Q := wp_putI rfl rfl rfl rfl dX5_copyFrom_76
theorem e_X5_copyFrom_79  {x0 x1 : Option Value} : Wp S N d MX5_copyFrom 79 [x0, x1] [] I J P Q ↔ Q none I J P := wp_vret rfl dX5_copyFrom_79
theorem dX6_readInto_0 : decode cX6_readInto 0 = .ok (.aload_n 0, 1) := by decide +kernel
theorem dX6_readInto_1 : decode cX6_readInto 1 = .ok (.iconst 0, 1) := by decide +kernel
theorem dX6_readInto_2 : decode cX6_readInto 2 = .ok (.putfield 22, 3) := by decide +kernel
theorem dX6_readInto_5 : decode cX6_readInto 5 = .ok (.aload_n 0, 1) := by decide +kernel
theorem dX6_readInto_6 : decode cX6_readInto 6 = .ok (.iconst 0, 1) := by decide +kernel
theorem dX6_readInto_7 : decode cX6_readInto 7 = .ok (.putfield 25, 3) := by decide +kernel
theorem dX6_readInto_10 : decode cX6_readInto 10 = .ok (.aload_n 0, 1) := by decide +kernel
theorem dX6_readInto_11 : decode cX6_readInto 11 = .ok (.iconst 1, 1) := by decide +kernel
theorem dX6_readInto_12 : decode cX6_readInto 12 = .ok (.putfield 28, 3) := by decide +kernel
theorem dX6_readInto_15 : decode cX6_readInto 15 = .ok (.aload_n 0, 1) := by decide +kernel
theorem dX6_readInto_16 : decode cX6_readInto 16 = .ok (.aload_n 1, 1) := by decide +kernel
theorem dX6_readInto_17 : decode cX6_readInto 17 = .ok (.invokevirtual 32, 3) := by decide +kernel
theorem dX6_readInto_20 : decode cX6_readInto 20 = .ok (.istore_n 2, 1) := by decide +kernel
theorem dX6_readInto_21 : decode cX6_readInto 21 = .ok (.iconst 0, 1) := by decide +kernel
theorem dX6_readInto_22 : decode cX6_readInto 22 = .ok (.istore_n 3, 1) := by decide +kernel
theorem dX6_readInto_23 : decode cX6_readInto 23 = .ok (.iload_n 3, 1) := by decide +kernel
theorem dX6_readInto_24 : decode cX6_readInto 24 = .ok (.bipush 80, 2) := by decide +kernel
theorem dX6_readInto_26 : decode cX6_readInto 26 = .ok (.if_icmp .ge 47, 3) := by decide +kernel
theorem dX6_readInto_29 : decode cX6_readInto 29 = .ok (.iload_n 2, 1) := by decide +kernel
theorem dX6_readInto_30 : decode cX6_readInto 30 = .ok (.ifCond .eq 43, 3) := by decide +kernel
theorem dX6_readInto_33 : decode cX6_readInto 33 = .ok (.aload_n 0, 1) := by decide +kernel
theorem dX6_readInto_34 : decode cX6_readInto 34 = .ok (.getfield 22, 3) := by decide +kernel
theorem dX6_readInto_37 : decode cX6_readInto 37 = .ok (.aload_n 0, 1) := by decide +kernel
theorem dX6_readInto_38 : decode cX6_readInto 38 = .ok (.getfield 36, 3) := by decide +kernel
theorem dX6_readInto_41 : decode cX6_readInto 41 = .ok (.if_icmp .ge 32, 3) := by decide +kernel
theorem dX6_readInto_44 : decode cX6_readInto 44 = .ok (.aload_n 0, 1) := by decide +kernel
theorem dX6_readInto_45 : decode cX6_readInto 45 = .ok (.bipush 59, 2) := by decide +kernel
theorem dX6_readInto_47 : decode cX6_readInto 47 = .ok (.invokevirtual 39, 3) := by decide +kernel
theorem dX6_readInto_50 : decode cX6_readInto 50 = .ok (.ifCond .eq 15, 3) := by decide +kernel
theorem dX6_readInto_53 : decode cX6_readInto 53 = .ok (.aload_n 0, 1) := by decide +kernel
theorem dX6_readInto_54 : decode cX6_readInto 54 = .ok (.aload_n 1, 1) := by decide +kernel
theorem dX6_readInto_55 : decode cX6_readInto 55 = .ok (.invokevirtual 32, 3) := by decide +kernel
theorem dX6_readInto_58 : decode cX6_readInto 58 = .ok (.ifCond .eq 7, 3) := by decide +kernel
theorem dX6_readInto_61 : decode cX6_readInto 61 = .ok (.iconst 1, 1) := by decide +kernel
theorem dX6_readInto_62 : decode cX6_readInto 62 = .ok (.goto 4, 3) := by decide +kernel
theorem dX6_readInto_65 : decode cX6_readInto 65 = .ok (.iconst 0, 1) := by decide +kernel
theorem dX6_readInto_66 : decode cX6_readInto 66 = .ok (.istore_n 2, 1) := by decide +kernel
theorem dX6_readInto_67 : decode cX6_readInto 67 = .ok (.iinc 3 1, 3) := by decide +kernel
theorem dX6_readInto_70 : decode cX6_readInto 70 = .ok (.goto (-47), 3) := by decide +kernel
theorem dX6_readInto_73 : decode cX6_readInto 73 = .ok (.aload_n 0, 1) := by decide +kernel
theorem dX6_readInto_74 : decode cX6_readInto 74 = .ok (.iload_n 2, 1) := by decide +kernel
theorem dX6_readInto_75 : decode cX6_readInto 75 = .ok (.ifCond .eq 7, 3) := by decide +kernel
theorem dX6_readInto_78 : decode cX6_readInto 78 = .ok (.iconst (-1), 1) := by decide +kernel
theorem dX6_readInto_79 : decode cX6_readInto 79 = .ok (.goto 7, 3) := by decide +kernel
theorem dX6_readInto_82 : decode cX6_readInto 82 = .ok (.aload_n 0, 1) := by decide +kernel
theorem dX6_readInto_83 : decode cX6_readInto 83 = .ok (.getfield 22, 3) := by decide +kernel
theorem dX6_readInto_86 : decode cX6_readInto 86 = .ok (.putfield 15, 3) := by decide +kernel
theorem dX6_readInto_89 : decode cX6_readInto 89 = .ok (.aload_n 0, 1) := by decide +kernel
theorem dX6_readInto_90 : decode cX6_readInto 90 = .ok (.iconst 0, 1) := by decide +kernel
theorem dX6_readInto_91 : decode cX6_readInto 91 = .ok (.putfield 36, 3) := by decide +kernel
theorem dX6_readInto_94 : decode cX6_readInto 94 = .ok (.return_, 1) := by decide +kernel
theorem c_X6_readInto {a0 : Nat} {a1 : Nat} : CWp S N d MX6_readInto [.ref a0, .ref a1] I J P Q ↔ Wp S N d MX6_readInto 0 [some (.ref a0), some (.ref a1), none, none] [] I J P Q := by
  rw [cwp_iff]
  exact ⟨fun h => h.2, fun h => ⟨Nat.le_of_ble_eq_true rfl, h⟩⟩
theorem e_X6_readInto_0 {w : Nat} {x1 x2 x3 : Option Value} : Wp S N d MX6_readInto 0 [some (.ref w), x1, x2, x3] [] I J P Q ↔ Wp S N d MX6_readInto 1 [some (.ref w), x1, x2, x3] [.ref w] I J P Q := wp_lod (len := 1) rfl rfl rfl rfl dX6_readInto_0
theorem e_X6_readInto_1 {v0 : Nat} {x0 x1 x2 x3 : Option Value} : Wp S N d MX6_readInto 1 [x0, x1, x2, x3] [.ref v0] I J P Q ↔ Wp S N d MX6_readInto 2 [x0, x1, x2, x3] [.int 0, .ref v0] I J P Q := wp_iconst (by decide) dX6_readInto_1
theorem e_X6_readInto_2 {v0 : Int32} {v1 : Nat} {x0 x1 x2 x3 : Option Value} : Wp S N d MX6_readInto 2 [x0, x1, x2, x3] [.int v0, .ref v1] I J P Q ↔ S v1 = 6 ∧ Wp S N d MX6_readInto 5 [x0, x1, x2, x3] [] (u2 I v1 5 v0) J P Q := wp_putI rfl rfl rfl rfl dX6_readInto_2
theorem e_X6_readInto_5 {w : Nat} {x1 x2 x3 : Option Value} : Wp S N d MX6_readInto 5 [some (.ref w), x1, x2, x3] [] I J P Q ↔ Wp S N d MX6_readInto 6 [some (.ref w), x1, x2, x3] [.ref w] I J P Q := wp_lod (len := 1) rfl rfl rfl rfl dX6_readInto_5
theorem e_X6_readInto_6 {v0 : Nat} {x0 x1 x2 x3 : Option Value} : Wp S N d MX6_readInto 6 [x0, x1, x2, x3] [.ref v0] I J P Q ↔ Wp S N d MX6_readInto 7 [x0, x1, x2, x3] [.int 0, .ref v0] I J P Q := wp_iconst (by decide) dX6_readInto_6
theorem e_X6_readInto_7 {v0 : Int32} {v1 : Nat} {x0 x1 x2 x3 : Option Value} : Wp S N d MX6_readInto 7 [x0, x1, x2, x3] [.int v0, .ref v1] I J P Q ↔ S v1 = 6 ∧ Wp S N d MX6_readInto 10 [x0, x1, x2, x3] [] (u2 I v1 3 v0) J P Q := wp_putI rfl rfl rfl rfl dX6_readInto_7
theorem e_X6_readInto_10 {w : Nat} {x1 x2 x3 : Option Value} : Wp S N d MX6_readInto 10 [some (.ref w), x1, x2, x3] [] I J P Q ↔ Wp S N d MX6_readInto 11 [some (.ref w), x1, x2, x3] [.ref w] I J P Q := wp_lod (len := 1) rfl rfl rfl rfl dX6_readInto_10
theorem e_X6_readInto_11 {v0 : Nat} {x0 x1 x2 x3 : Option Value} : Wp S N d MX6_readInto 11 [x0, x1, x2, x3] [.ref v0] I J P Q ↔ Wp S N d MX6_readInto 12 [x0, x1, x2, x3] [.int 1, .ref v0] I J P Q := wp_iconst (by decide) dX6_readInto_11
theorem e_X6_readInto_12 {v0 : Int32} {v1 : Nat} (hb : isB v0) {x0 x1 x2 x3 : Option Value} : Wp S N d MX6_readInto 12 [x0, x1, x2, x3] [.int v0, .ref v1] I J P Q ↔ S v1 = 6 ∧ Wp S N d MX6_readInto 15 [x0, x1, x2, x3] [] (u2 I v1 4 v0) J P Q := wp_putZ rfl rfl rfl rfl dX6_readInto_12 hb
theorem e_X6_readInto_15 {w : Nat} {x1 x2 x3 : Option Value} : Wp S N d MX6_readInto 15 [some (.ref w), x1, x2, x3] [] I J P Q ↔ Wp S N d MX6_readInto 16 [some (.ref w), x1, x2, x3] [.ref w] I J P Q := wp_lod (len := 1) rfl rfl rfl rfl dX6_readInto_15
theorem e_X6_readInto_16 {v0 : Nat} {w : Nat} {x0 x2 x3 : Option Value} : Wp S N d MX6_readInto 16 [x0, some (.ref w), x2, x3] [.ref v0] I J P Q ↔ Wp S N d MX6_readInto 17 [x0, some (.ref w), x2, x3] [.ref w, .ref v0] I J P Q := wp_lod (len := 1) rfl rfl rfl rfl dX6_readInto_16
theorem e_X6_readInto_17 {v0 : Nat} {v1 : Nat} {x0 x1 x2 x3 : Option Value} : Wp S N (d + 1) MX6_readInto 17 [x0, x1, x2, x3] [.ref v0, .ref v1] I J P Q ↔ S v1 = 6 ∧ CWp S N d MX6_readItem [.ref v1, .ref v0] I J P (fun r I1 J1 P1 => Wp S N (d + 1) MX6_readInto 20 [x0, x1, x2, x3] (r.toList ++ []) I1 J1 P1 Q) := wp_callV (M' := MX6_readItem) (As := [.ref v0]) rfl rfl rfl rfl (by decide) (Nat.le_of_ble_eq_true rfl) dX6_readInto_17
theorem e_X6_readInto_20 {v0 : Int32} {x0 x1 x2 x3 : Option Value} : Wp S N d MX6_readInto 20 [x0, x1, x2, x3] [.int v0] I J P Q ↔ Wp S N d MX6_readInto 21 [x0, kl x1, some (.int v0), x3] [] I J P Q := wp_sto (len := 1) rfl rfl rfl rfl (Nat.le_of_ble_eq_true rfl) rfl dX6_readInto_20
theorem e_X6_readInto_21  {x0 x1 x2 x3 : Option Value} : Wp S N d MX6_readInto 21 [x0, x1, x2, x3] [] I J P Q ↔ Wp S N d MX6_readInto 22 [x0, x1, x2, x3] [.int 0] I J P Q := wp_iconst (by decide) dX6_readInto_21
theorem e_X6_readInto_22 {v0 : Int32} {x0 x1 x2 x3 : Option Value} : Wp S N d MX6_readInto 22 [x0, x1, x2, x3] [.int v0] I J P Q ↔ Wp S N d MX6_readInto 23 [x0, x1, kl x2, some (.int v0)] [] I J P Q := wp_sto (len := 1) rfl rfl rfl rfl (Nat.le_of_ble_eq_true rfl) rfl dX6_readInto_22
theorem e_X6_readInto_23 {w : Int32} {x0 x1 x2 : Option Value} : Wp S N d MX6_readInto 23 [x0, x1, x2, some (.int w)] [] I J P Q ↔ Wp S N d MX6_readInto 24 [x0, x1, x2, some (.int w)] [.int w] I J P Q := wp_lod (len := 1) rfl rfl rfl rfl dX6_readInto_23
theorem e_X6_readInto_24 {v0 : Int32} {x0 x1 x2 x3 : Option Value} : Wp S N d MX6_readInto 24 [x0, x1, x2, x3] [.int v0] I J P Q ↔ Wp S N d MX6_readInto 26 [x0, x1, x2, x3] [.int 80, .int v0] I J P Q := wp_bipush (by decide) dX6_readInto_24
theorem e_X6_readInto_26 {v0 : Int32} {v1 : Int32} {x0 x1 x2 x3 : Option Value} : Wp S N d MX6_readInto 26 [x0, x1, x2, x3] [.int v0, .int v1] I J P Q ↔ (v0 ≤ v1 → Wp S N d MX6_readInto 73 [x0, x1, x2, x3] [] I J P Q) ∧ (¬ v0 ≤ v1 → Wp S N d MX6_readInto 29 [x0, x1, x2, x3] [] I J P Q) := wp_br rfl rfl (by decide) dX6_readInto_26
theorem e_X6_readInto_29 {w : Int32} {x0 x1 x3 : Option Value} : Wp S N d MX6_readInto 29 [x0, x1, some (.int w), x3] [] I J P Q ↔ Wp S N d MX6_readInto 30 [x0, x1, some (.int w), x3] [.int w] I J P Q := wp_lod (len := 1) rfl rfl rfl rfl dX6_readInto_29
theorem e_X6_readInto_30 {v0 : Int32} {x0 x1 x2 x3 : Option Value} : Wp S N d MX6_readInto 30 [x0, x1, x2, x3] [.int v0] I J P Q ↔ (v0 = 0 → Wp S N d MX6_readInto 73 [x0, x1, x2, x3] [] I J P Q) ∧ (¬ v0 = 0 → Wp S N d MX6_readInto 33 [x0, x1, x2, x3] [] I J P Q) := wp_br rfl rfl (by decide) dX6_readInto_30
theorem e_X6_readInto_33 {w : Nat} {x1 x2 x3 : Option Value} : Wp S N d MX6_readInto 33 [some (.ref w), x1, x2, x3] [] I J P Q ↔ Wp S N d MX6_readInto 34 [some (.ref w), x1, x2, x3] [.ref w] I J P Q := wp_lod (len := 1) rfl rfl rfl rfl dX6_readInto_33
theorem e_X6_readInto_34 {v0 : Nat} {x0 x1 x2 x3 : Option Value} : Wp S N d MX6_readInto 34 [x0, x1, x2, x3] [.ref v0] I J P Q ↔ S v0 = 6 ∧ Wp S N d MX6_readInto 37 [x0, x1, x2, x3] [.int (I v0 5)] I J P Q := wp_getf rfl rfl rfl rfl dX6_readInto_34
theorem e_X6_readInto_37 {v0 : Int32} {w : Nat} {x1 x2 x3 : Option Value} : Wp S N d MX6_readInto 37 [some (.ref w), x1, x2, x3] [.int v0] I J P Q ↔ Wp S N d MX6_readInto 38 [some (.ref w), x1, x2, x3] [.ref w, .int v0] I J P Q := wp_lod (len := 1) rfl rfl rfl rfl dX6_readInto_37
theorem e_X6_readInto_38 {v0 : Nat} {v1 : Int32} {x0 x1 x2 x3 : Option Value} : Wp S N d MX6_readInto 38 [x0, x1, x2, x3] [.ref v0, .int v1] I J P Q ↔ S v0 = 6 ∧ Wp S N d MX6_readInto 41 [x0, x1, x2, x3] [.int (I v0 1), .int v1] I J P Q := wp_getf rfl rfl rfl rfl dX6_readInto_38
theorem e_X6_readInto_41 {v0 : Int32} {v1 : Int32} {x0 x1 x2 x3 : Option Value} : Wp S N d MX6_readInto 41 [x0, x1, x2, x3] [.int v0, .int v1] I J P Q ↔ (v0 ≤ v1 → Wp S N d MX6_readInto 73 [x0, x1, x2, x3] [] I J P Q) ∧ (¬ v0 ≤ v1 → Wp S N d MX6_readInto 44 [x0, x1, x2, x3] [] I J P Q) := wp_br rfl rfl (by decide) dX6_readInto_41
theorem e_X6_readInto_44 {w : Nat} {x1 x2 x3 : Option Value} : Wp S N d MX6_readInto 44 [some (.ref w), x1, x2, x3] [] I J P Q ↔ Wp S N d MX6_readInto 45 [some (.ref w), x1, x2, x3] [.ref w] I J P Q := wp_lod (len := 1) rfl rfl rfl rfl dX6_readInto_44
theorem e_X6_readInto_45 {v0 : Nat} {x0 x1 x2 x3 : Option Value} : Wp S N d MX6_readInto 45 [x0, x1, x2, x3] [.ref v0] I J P Q ↔ Wp S N d MX6_readInto 47 [x0, x1, x2, x3] [.int 59, .ref v0] I J P Q := wp_bipush (by decide) dX6_readInto_45
theorem e_X6_readInto_47 {v0 : Int32} {v1 : Nat} {x0 x1 x2 x3 : Option Value} : Wp S N (d + 1) MX6_readInto 47 [x0, x1, x2, x3] [.int v0, .ref v1] I J P Q ↔ S v1 = 6 ∧ CWp S N d MX6_skip [.ref v1, .int v0] I J P (fun r I1 J1 P1 => Wp S N (d + 1) MX6_readInto 50 [x0, x1, x2, x3] (r.toList ++ []) I1 J1 P1 Q) := wp_callV (M' := MX6_skip) (As := [.int v0]) rfl rfl rfl rfl (by decide) (Nat.le_of_ble_eq_true rfl) dX6_readInto_47
theorem e_X6_readInto_50 {v0 : Int32} {x0 x1 x2 x3 : Option Value} : Wp S N d MX6_readInto 50 [x0, x1, x2, x3] [.int v0] I J P Q ↔ (v0 = 0 → Wp S N d MX6_readInto 65 [x0, x1, x2, x3] [] I J P Q) ∧ (¬ v0 = 0 → Wp S N d MX6_readInto 53 [x0, x1, x2, x3] [] I J P Q) := wp_br rfl rfl (by decide) dX6_readInto_50
theorem e_X6_readInto_53 {w : Nat} {x1 x2 x3 : Option Value} : Wp S N d MX6_readInto 53 [some (.ref w), x1, x2, x3] [] I J P Q ↔ Wp S N d MX6_readInto 54 [some (.ref w), x1, x2, x3] [.ref w] I J P Q := wp_lod (len := 1) rfl rfl rfl rfl dX6_readInto_53
theorem e_X6_readInto_54 {v0 : Nat} {w : Nat} {x0 x2 x3 : Option Value} : Wp S N d MX6_readInto 54 [x0, some (.ref w), x2, x3] [.ref v0] I J P Q ↔ Wp S N d MX6_readInto 55 [x0, some (.ref w), x2, x3] [.ref w, .ref v0] I J P Q := wp_lod (len := 1) rfl rfl rfl rfl dX6_readInto_54
theorem e_X6_readInto_55 {v0 : Nat} {v1 : Nat} {x0 x1 x2 x3 : Option Value} : Wp S N (d + 1) MX6_readInto 55 [x0, x1, x2, x3] [.ref v0, .ref v1] I J P Q ↔ S v1 = 6 ∧ CWp S N d MX6_readItem [.ref v1, .ref v0] I J P (fun r I1 J1 P1 => Wp S N (d + 1) MX6_readInto 58 [x0, x1, x2, x3] (r.toList ++ []) I1 J1 P1 Q) := wp_callV (M' := MX6_readItem) (As := [.ref v0]) rfl rfl rfl rfl (by decide) (Nat.le_of_ble_eq_true rfl) dX6_readInto_55
theorem e_X6_readInto_58 {v0 : Int32} {x0 x1 x2 x3 : Option Value} : Wp S N d MX6_readInto 58 [x0, x1, x2, x3] [.int v0] I J P Q ↔ (v0 = 0 → Wp S N d MX6_readInto 65 [x0, x1, x2, x3] [] I J P Q) ∧ (¬ v0 = 0 → Wp S N d MX6_readInto 61 [x0, x1, x2, x3] [] I J P Q) := wp_br rfl rfl (by decide) dX6_readInto_58
theorem e_X6_readInto_61  {x0 x1 x2 x3 : Option Value} : Wp S N d MX6_readInto 61 [x0, x1, x2, x3] [] I J P Q ↔ Wp S N d MX6_readInto 62 [x0, x1, x2, x3] [.int 1] I J P Q := wp_iconst (by decide) dX6_readInto_61
theorem e_X6_readInto_62 {v0 : Int32} {x0 x1 x2 x3 : Option Value} : Wp S N d MX6_readInto 62 [x0, x1, x2, x3] [.int v0] I J P Q ↔ Wp S N d MX6_readInto 66 [x0, x1, x2, x3] [.int v0] I J P Q := wp_go (len := 3) rfl (fun _ _ => rfl) rfl (by decide) dX6_readInto_62
theorem e_X6_readInto_65  {x0 x1 x2 x3 : Option Value} : Wp S N d MX6_readInto 65 [x0, x1, x2, x3] [] I J P Q ↔ Wp S N d MX6_readInto 66 [x0, x1, x2, x3] [.int 0] I J P Q := wp_iconst (by decide) dX6_readInto_65
theorem e_X6_readInto_66 {v0 : Int32} {x0 x1 x2 x3 : Option Value} : Wp S N d MX6_readInto 66 [x0, x1, x2, x3] [.int v0] I J P Q ↔ Wp S N d MX6_readInto 67 [x0, kl x1, some (.int v0), x3] [] I J P Q := wp_sto (len := 1) rfl rfl rfl rfl (Nat.le_of_ble_eq_true rfl) rfl dX6_readInto_66
theorem e_X6_readInto_67 {w : Int32} {x0 x1 x2 : Option Value} : Wp S N d MX6_readInto 67 [x0, x1, x2, some (.int w)] [] I J P Q ↔ Wp S N d MX6_readInto 70 [x0, x1, kl x2, some (.int (w + 1))] [] I J P Q := wp_inc rfl rfl dX6_readInto_67
theorem e_X6_readInto_70  {x0 x1 x2 x3 : Option Value} : Wp S N d MX6_readInto 70 [x0, x1, x2, x3] [] I J P Q ↔ Wp S N d MX6_readInto 23 [x0, x1, x2, x3] [] I J P Q := wp_go (len := 3) rfl (fun _ _ => rfl) rfl (by decide) dX6_readInto_70
theorem e_X6_readInto_73 {w : Nat} {x1 x2 x3 : Option Value} : Wp S N d MX6_readInto 73 [some (.ref w), x1, x2, x3] [] I J P Q ↔ Wp S N d MX6_readInto 74 [some (.ref w), x1, x2, x3] [.ref w] I J P Q := wp_lod (len := 1) rfl rfl rfl rfl dX6_readInto_73
theorem e_X6_readInto_74 {v0 : Nat} {w : Int32} {x0 x1 x3 : Option Value} : Wp S N d MX6_readInto 74 [x0, x1, some (.int w), x3] [.ref v0] I J P Q ↔ Wp S N d MX6_readInto 75 [x0, x1, some (.int w), x3] [.int w, .ref v0] I J P Q := wp_lod (len := 1) rfl rfl rfl rfl dX6_readInto_74
theorem e_X6_readInto_75 {v0 : Int32} {v1 : Nat} {x0 x1 x2 x3 : Option Value} : Wp S N d MX6_readInto 75 [x0, x1, x2, x3] [.int v0, .ref v1] I J P Q ↔ (v0 = 0 → Wp S N d MX6_readInto 82 [x0, x1, x2, x3] [.ref v1] I J P Q) ∧ (¬ v0 = 0 → Wp S N d MX6_readInto 78 [x0, x1, x2, x3] [.ref v1] I J P Q) := wp_br rfl rfl (by decide) dX6_readInto_75
theorem e_X6_readInto_78 {v0 : Nat} {x0 x1 x2 x3 : Option Value} : Wp S N d MX6_readInto 78 [x0, x1, x2, x3] [.ref v0] I J P Q ↔ Wp S N d MX6_readInto 79 [x0, x1, x2, x3] [.int (-1), .ref v0] I J P Q := wp_iconst (by decide) dX6_readInto_78
theorem e_X6_readInto_79 {v0 : Int32} {v1 : Nat} {x0 x1 x2 x3 : Option Value} : Wp S N d MX6_readInto 79 [x0, x1, x2, x3] [.int v0, .ref v1] I J P Q ↔ Wp S N d MX6_readInto 86 [x0, x1, x2, x3] [.int v0, .ref v1] I J P Q := wp_go (len := 3) rfl (fun _ _ => rfl) rfl (by decide) dX6_readInto_79
theorem e_X6_readInto_82 {v0 : Nat} {w : Nat} {x1 x2 x3 : Option Value} : Wp S N d MX6_readInto 82 [some (.ref w), x1, x2, x3] [.ref v0] I J P Q ↔ Wp S N d MX6_readInto 83 [some (.ref w), x1, x2, x3] [.ref w, .ref v0] I J P Q := wp_lod (len := 1) rfl rfl rfl rfl dX6_readInto_82
theorem e_X6_readInto_83 {v0 : Nat} {v1 : Nat} {x0 x1 x2 x3 : Option Value} : Wp S N d MX6_readInto 83 [x0, x1, x2, x3] [.ref v0, .ref v1] I J P Q ↔ S v0 = 6 ∧ Wp S N d MX6_readInto 86 [x0, x1, x2, x3] [.int (I v0 5), .ref v1] I J P Q := wp_getf rfl rfl rfl rfl dX6_readInto_83
theorem e_X6_readInto_86 {v0 : Int32} {v1 : Nat} {x0 x1 x2 x3 : Option Value} : Wp S N d MX6_readInto 86 [x0, x1, x2, x3] [.int v0, .ref v1] I J P Q ↔ S v1 = 6 ∧ Wp S N d MX6_readInto 89 [x0, x1, x2, x3] [] (u2 I v1 2 v0) J P Q := wp_putI rfl rfl rfl rfl dX6_readInto_86
theorem e_X6_readInto_89 {w : Nat} {x1 x2 x3 : Option Value} : Wp S N d MX6_readInto 89 [some (.ref w), x1, x2, x3] [] I J P Q ↔ Wp S N d MX6_readInto 90 [some (.ref w), x1, x2, x3] [.ref w] I J P Q := wp_lod (len := 1) rfl rfl rfl rfl dX6_readInto_89
theorem e_X6_readInto_90 {v0 : Nat} {x0 x1 x2 x3 : Option Value} : Wp S N d MX6_readInto 90 [x0, x1, x2, x3] [.ref v0] I J P Q ↔ Wp S N d MX6_readInto 91 [x0, x1, x2, x3] [.int 0, .ref v0] I J P Q := wp_iconst (by decide) dX6_readInto_90
theorem e_X6_readInto_91 {v0 : Int32} {v1 : Nat} {x0 x1 x2 x3 : Option Value} : Wp S N d MX6_readInto 91 [x0, x1, x2, x3] [.int v0, .ref v1] I J P Q ↔ S v1 = 6 ∧ Wp S N d MX6_readInto 94 [x0, x1, x2, x3] [] (u2 I v1 1 v0) J P Q := wp_putI rfl rfl rfl rfl dX6_readInto_91
theorem e_X6_readInto_94  {x0 x1 x2 x3 : Option Value} : Wp S N d MX6_readInto 94 [x0, x1, x2, x3] [] I J P Q ↔ Q none I J P := wp_vret rfl dX6_readInto_94
theorem dX6_readItem_0 : decode cX6_readItem 0 = .ok (.aload_n 0, 1) := by decide +kernel
theorem dX6_readItem_1 : decode cX6_readItem 1 = .ok (.invokevirtual 43, 3) := by decide +kernel
theorem dX6_readItem_4 : decode cX6_readItem 4 = .ok (.istore_n 2, 1) := by decide +kernel
theorem dX6_readItem_5 : decode cX6_readItem 5 = .ok (.aload_n 0, 1) := by decide +kernel
theorem dX6_readItem_6 : decode cX6_readItem 6 = .ok (.iload_n 2, 1) := by decide +kernel
theorem dX6_readItem_7 : decode cX6_readItem 7 = .ok (.invokevirtual 47, 3) := by decide +kernel
theorem dX6_readItem_10 : decode cX6_readItem 10 = .ok (.istore_n 3, 1) := by decide +kernel
theorem dX6_readItem_11 : decode cX6_readItem 11 = .ok (.iload_n 3, 1) := by decide +kernel
theorem dX6_readItem_12 : decode cX6_readItem 12 = .ok (.ifCond .ne 5, 3) := by decide +kernel
theorem dX6_readItem_15 : decode cX6_readItem 15 = .ok (.iconst 0, 1) := by decide +kernel
theorem dX6_readItem_16 : decode cX6_readItem 16 = .ok (.ireturn, 1) := by decide +kernel
theorem dX6_readItem_17 : decode cX6_readItem 17 = .ok (.aload_n 0, 1) := by decide +kernel
theorem dX6_readItem_18 : decode cX6_readItem 18 = .ok (.dup, 1) := by decide +kernel
theorem dX6_readItem_19 : decode cX6_readItem 19 = .ok (.getfield 22, 3) := by decide +kernel
theorem dX6_readItem_22 : decode cX6_readItem 22 = .ok (.iconst 1, 1) := by decide +kernel
theorem dX6_readItem_23 : decode cX6_readItem 23 = .ok (.iadd, 1) := by decide +kernel
theorem dX6_readItem_24 : decode cX6_readItem 24 = .ok (.putfield 22, 3) := by decide +kernel
theorem dX6_readItem_27 : decode cX6_readItem 27 = .ok (.aload_n 0, 1) := by decide +kernel
theorem dX6_readItem_28 : decode cX6_readItem 28 = .ok (.iconst 0, 1) := by decide +kernel
theorem dX6_readItem_29 : decode cX6_readItem 29 = .ok (.putfield 51, 3) := by decide +kernel
theorem dX6_readItem_32 : decode cX6_readItem 32 = .ok (.iload_n 2, 1) := by decide +kernel
theorem dX6_readItem_33 : decode cX6_readItem 33 = .ok (.bipush 98, 2) := by decide +kernel
theorem dX6_readItem_35 : decode cX6_readItem 35 = .ok (.if_icmp .ne 13, 3) := by decide +kernel
theorem dX6_readItem_38 : decode cX6_readItem 38 = .ok (.aload_n 0, 1) := by decide +kernel
theorem dX6_readItem_39 : decode cX6_readItem 39 = .ok (.invokevirtual 54, 3) := by decide +kernel
theorem dX6_readItem_42 : decode cX6_readItem 42 = .ok (.ifCond .eq 14, 3) := by decide +kernel
theorem dX6_readItem_45 : decode cX6_readItem 45 = .ok (.goto 13, 3) := by decide +kernel
theorem dX6_readItem_48 : decode cX6_readItem 48 = .ok (.aload_n 0, 1) := by decide +kernel
theorem dX6_readItem_49 : decode cX6_readItem 49 = .ok (.iload_n 3, 1) := by decide +kernel
theorem dX6_readItem_50 : decode cX6_readItem 50 = .ok (.invokevirtual 58, 3) := by decide +kernel
theorem dX6_readItem_53 : decode cX6_readItem 53 = .ok (.ifCond .ne 5, 3) := by decide +kernel
theorem dX6_readItem_56 : decode cX6_readItem 56 = .ok (.iconst 0, 1) := by decide +kernel
theorem dX6_readItem_57 : decode cX6_readItem 57 = .ok (.ireturn, 1) := by decide +kernel
theorem dX6_readItem_58 : decode cX6_readItem 58 = .ok (.aload_n 0, 1) := by decide +kernel
theorem dX6_readItem_59 : decode cX6_readItem 59 = .ok (.iload_n 2, 1) := by decide +kernel
theorem dX6_readItem_60 : decode cX6_readItem 60 = .ok (.invokevirtual 61, 3) := by decide +kernel
theorem dX6_readItem_63 : decode cX6_readItem 63 = .ok (.ifCond .lt 16, 3) := by decide +kernel
theorem dX6_readItem_66 : decode cX6_readItem 66 = .ok (.aload_n 0, 1) := by decide +kernel
theorem dX6_readItem_67 : decode cX6_readItem 67 = .ok (.bipush 42, 2) := by decide +kernel
theorem dX6_readItem_69 : decode cX6_readItem 69 = .ok (.invokevirtual 39, 3) := by decide +kernel
theorem dX6_readItem_72 : decode cX6_readItem 72 = .ok (.ifCond .eq 7, 3) := by decide +kernel
theorem dX6_readItem_75 : decode cX6_readItem 75 = .ok (.iconst 1, 1) := by decide +kernel
theorem dX6_readItem_76 : decode cX6_readItem 76 = .ok (.goto 4, 3) := by decide +kernel
theorem dX6_readItem_79 : decode cX6_readItem 79 = .ok (.iconst 0, 1) := by decide +kernel
theorem dX6_readItem_80 : decode cX6_readItem 80 = .ok (.istore 4, 2) := by decide +kernel
theorem dX6_readItem_82 : decode cX6_readItem 82 = .ok (.aload_n 0, 1) := by decide +kernel
theorem dX6_readItem_83 : decode cX6_readItem 83 = .ok (.dup, 1) := by decide +kernel
theorem dX6_readItem_84 : decode cX6_readItem 84 = .ok (.getfield 25, 3) := by decide +kernel
theorem dX6_readItem_87 : decode cX6_readItem 87 = .ok (.iconst 1, 1) := by decide +kernel
theorem dX6_readItem_88 : decode cX6_readItem 88 = .ok (.iadd, 1) := by decide +kernel
theorem dX6_readItem_89 : decode cX6_readItem 89 = .ok (.putfield 25, 3) := by decide +kernel
theorem dX6_readItem_92 : decode cX6_readItem 92 = .ok (.aload_n 0, 1) := by decide +kernel
theorem dX6_readItem_93 : decode cX6_readItem 93 = .ok (.aload_n 1, 1) := by decide +kernel
theorem dX6_readItem_94 : decode cX6_readItem 94 = .ok (.iload_n 2, 1) := by decide +kernel
theorem dX6_readItem_95 : decode cX6_readItem 95 = .ok (.iload 4, 2) := by decide +kernel
theorem dX6_readItem_97 : decode cX6_readItem 97 = .ok (.invokevirtual 64, 3) := by decide +kernel
theorem dX6_readItem_100 : decode cX6_readItem 100 = .ok (.ifCond .ne 8, 3) := by decide +kernel
theorem dX6_readItem_103 : decode cX6_readItem 103 = .ok (.aload_n 0, 1) := by decide +kernel
theorem dX6_readItem_104 : decode cX6_readItem 104 = .ok (.iconst 0, 1) := by decide +kernel
theorem dX6_readItem_105 : decode cX6_readItem 105 = .ok (.putfield 28, 3) := by decide +kernel
theorem dX6_readItem_108 : decode cX6_readItem 108 = .ok (.iconst 1, 1) := by decide +kernel
theorem dX6_readItem_109 : decode cX6_readItem 109 = .ok (.ireturn, 1) := by decide +kernel
theorem c_X6_readItem {a0 : Nat} {a1 : Nat} : CWp S N d MX6_readItem [.ref a0, .ref a1] I J P Q ↔ Wp S N d MX6_readItem 0 [some (.ref a0), some (.ref a1), none, none, none] [] I J P Q := by
  rw [cwp_iff]
  exact ⟨fun h => h.2, fun h => ⟨Nat.le_of_ble_eq_true rfl, h⟩⟩
theorem e_X6_readItem_0 {w : Nat} {x1 x2 x3 x4 : Option Value} : Wp S N d MX6_readItem 0 [some (.ref w), x1, x2, x3, x4] [] I J P Q ↔ Wp S N d MX6_readItem 1 [some (.ref w), x1, x2, x3, x4] [.ref w] I J P Q := wp_lod (len := 1) rfl rfl rfl rfl dX6_readItem_0
theorem e_X6_readItem_1 {v0 : Nat} {x0 x1 x2 x3 x4 : Option Value} : Wp S N (d + 1) MX6_readItem 1 [x0, x1, x2, x3, x4] [.ref v0] I J P Q ↔ S v0 = 6 ∧ CWp S N d MX6_peek [.ref v0] I J P (fun r I1 J1 P1 => Wp S N (d + 1) MX6_readItem 4 [x0, x1, x2, x3, x4] (r.toList ++ []) I1 J1 P1 Q) := wp_callV (M' := MX6_peek) (As := []) rfl rfl rfl rfl (by decide) (Nat.le_of_ble_eq_true rfl) dX6_readItem_1
theorem e_X6_readItem_4 {v0 : Int32} {x0 x1 x2 x3 x4 : Option Value} : Wp S N d MX6_readItem 4 [x0, x1, x2, x3, x4] [.int v0] I J P Q ↔ Wp S N d MX6_readItem 5 [x0, kl x1, some (.int v0), x3, x4] [] I J P Q := wp_sto (len := 1) rfl rfl rfl rfl (Nat.le_of_ble_eq_true rfl) rfl dX6_readItem_4
theorem e_X6_readItem_5 {w : Nat} {x1 x2 x3 x4 : Option Value} : Wp S N d MX6_readItem 5 [some (.ref w), x1, x2, x3, x4] [] I J P Q ↔ Wp S N d MX6_readItem 6 [some (.ref w), x1, x2, x3, x4] [.ref w] I J P Q := wp_lod (len := 1) rfl rfl rfl rfl dX6_readItem_5
theorem e_X6_readItem_6 {v0 : Nat} {w : Int32} {x0 x1 x3 x4 : Option Value} : Wp S N d MX6_readItem 6 [x0, x1, some (.int w), x3, x4] [.ref v0] I J P Q ↔ Wp S N d MX6_readItem 7 [x0, x1, some (.int w), x3, x4] [.int w, .ref v0] I J P Q := wp_lod (len := 1) rfl rfl rfl rfl dX6_readItem_6
theorem e_X6_readItem_7 {v0 : Int32} {v1 : Nat} {x0 x1 x2 x3 x4 : Option Value} : Wp S N (d + 1) MX6_readItem 7 [x0, x1, x2, x3, x4] [.int v0, .ref v1] I J P Q ↔ S v1 = 6 ∧ CWp S N d MX6_numbersWanted [.ref v1, .int v0] I J P (fun r I1 J1 P1 => Wp S N (d + 1) MX6_readItem 10 [x0, x1, x2, x3, x4] (r.toList ++ []) I1 J1 P1 Q) := wp_callV (M' := MX6_numbersWanted) (As := [.int v0]) rfl rfl rfl rfl (by decide) (Nat.le_of_ble_eq_true rfl) dX6_readItem_7
theorem e_X6_readItem_10 {v0 : Int32} {x0 x1 x2 x3 x4 : Option Value} : Wp S N d MX6_readItem 10 [x0, x1, x2, x3, x4] [.int v0] I J P Q ↔ Wp S N d MX6_readItem 11 [x0, x1, kl x2, some (.int v0), x4] [] I J P Q := wp_sto (len := 1) rfl rfl rfl rfl (Nat.le_of_ble_eq_true rfl) rfl dX6_readItem_10
theorem e_X6_readItem_11 {w : Int32} {x0 x1 x2 x4 : Option Value} : Wp S N d MX6_readItem 11 [x0, x1, x2, some (.int w), x4] [] I J P Q ↔ Wp S N d MX6_readItem 12 [x0, x1, x2, some (.int w), x4] [.int w] I J P Q := wp_lod (len := 1) rfl rfl rfl rfl dX6_readItem_11
theorem e_X6_readItem_12 {v0 : Int32} {x0 x1 x2 x3 x4 : Option Value} : Wp S N d MX6_readItem 12 [x0, x1, x2, x3, x4] [.int v0] I J P Q ↔ (¬ v0 = 0 → Wp S N d MX6_readItem 17 [x0, x1, x2, x3, x4] [] I J P Q) ∧ (v0 = 0 → Wp S N d MX6_readItem 15 [x0, x1, x2, x3, x4] [] I J P Q) := wp_brn rfl rfl (by decide) dX6_readItem_12
theorem e_X6_readItem_15  {x0 x1 x2 x3 x4 : Option Value} : Wp S N d MX6_readItem 15 [x0, x1, x2, x3, x4] [] I J P Q ↔ Wp S N d MX6_readItem 16 [x0, x1, x2, x3, x4] [.int 0] I J P Q := wp_iconst (by decide) dX6_readItem_15
theorem e_X6_readItem_16 {v0 : Int32} (hb : isB v0) {x0 x1 x2 x3 x4 : Option Value} : Wp S N d MX6_readItem 16 [x0, x1, x2, x3, x4] [.int v0] I J P Q ↔ Q (some (.int v0)) I J P := wp_zret rfl dX6_readItem_16 hb
theorem e_X6_readItem_17 {w : Nat} {x1 x2 x3 x4 : Option Value} : Wp S N d MX6_readItem 17 [some (.ref w), x1, x2, x3, x4] [] I J P Q ↔ Wp S N d MX6_readItem 18 [some (.ref w), x1, x2, x3, x4] [.ref w] I J P Q := wp_lod (len := 1) rfl rfl rfl rfl dX6_readItem_17
theorem e_X6_readItem_18 {v0 : Nat} {x0 x1 x2 x3 x4 : Option Value} : Wp S N d MX6_readItem 18 [x0, x1, x2, x3, x4] [.ref v0] I J P Q ↔ Wp S N d MX6_readItem 19 [x0, x1, x2, x3, x4] [.ref v0, .ref v0] I J P Q := wp_alu (len := 1) rfl rfl rfl dX6_readItem_18
theorem e_X6_readItem_19 {v0 : Nat} {v1 : Nat} {x0 x1 x2 x3 x4 : Option Value} : Wp S N d MX6_readItem 19 [x0, x1, x2, x3, x4] [.ref v0, .ref v1] I J P Q ↔ S v0 = 6 ∧ Wp S N d MX6_readItem 22 [x0, x1, x2, x3, x4] [.int (I v0 5), .ref v1] I J P Q := wp_getf rfl rfl rfl rfl dX6_readItem_19
theorem e_X6_readItem_22 {v0 : Int32} {v1 : Nat} {x0 x1 x2 x3 x4 : Option Value} : Wp S N d MX6_readItem 22 [x0, x1, x2, x3, x4] [.int v0, .ref v1] I J P Q ↔ Wp S N d MX6_readItem 23 [x0, x1, x2, x3, x4] [.int 1, .int v0, .ref v1] I J P Q := wp_iconst (by decide) dX6_readItem_22
theorem e_X6_readItem_23 {v0 : Int32} {v1 : Int32} {v2 : Nat} {x0 x1 x2 x3 x4 : Option Value} : Wp S N d MX6_readItem 23 [x0, x1, x2, x3, x4] [.int v0, .int v1, .ref v2] I J P Q ↔ Wp S N d MX6_readItem 24 [x0, x1, x2, x3, x4] [.int (v1 + v0), .ref v2] I J P Q := wp_alu (len := 1) rfl rfl rfl dX6_readItem_23
theorem e_X6_readItem_24 {v0 : Int32} {v1 : Nat} {x0 x1 x2 x3 x4 : Option Value} : Wp S N d MX6_readItem 24 [x0, x1, x2, x3, x4] [.int v0, .ref v1] I J P Q ↔ S v1 = 6 ∧ Wp S N d MX6_readItem 27 [x0, x1, x2, x3, x4] [] (u2 I v1 5 v0) J P Q := wp_putI rfl rfl rfl rfl dX6_readItem_24
theorem e_X6_readItem_27 {w : Nat} {x1 x2 x3 x4 : Option Value} : Wp S N d MX6_readItem 27 [some (.ref w), x1, x2, x3, x4] [] I J P Q ↔ Wp S N d MX6_readItem 28 [some (.ref w), x1, x2, x3, x4] [.ref w] I J P Q := wp_lod (len := 1) rfl rfl rfl rfl dX6_readItem_27
theorem e_X6_readItem_28 {v0 : Nat} {x0 x1 x2 x3 x4 : Option Value} : Wp S N d MX6_readItem 28 [x0, x1, x2, x3, x4] [.ref v0] I J P Q ↔ Wp S N d MX6_readItem 29 [x0, x1, x2, x3, x4] [.int 0, .ref v0] I J P Q := wp_iconst (by decide) dX6_readItem_28
theorem e_X6_readItem_29 {v0 : Int32} {v1 : Nat} {x0 x1 x2 x3 x4 : Option Value} : Wp S N d MX6_readItem 29 [x0, x1, x2, x3, x4] [.int v0, .ref v1] I J P Q ↔ S v1 = 6 ∧ Wp S N d MX6_readItem 32 [x0, x1, x2, x3, x4] [] (u2 I v1 7 v0) J P Q := wp_putI rfl rfl rfl rfl dX6_readItem_29
theorem e_X6_readItem_32 {w : Int32} {x0 x1 x3 x4 : Option Value} : Wp S N d MX6_readItem 32 [x0, x1, some (.int w), x3, x4] [] I J P Q ↔ Wp S N d MX6_readItem 33 [x0, x1, some (.int w), x3, x4] [.int w] I J P Q := wp_lod (len := 1) rfl rfl rfl rfl dX6_readItem_32
theorem e_X6_readItem_33 {v0 : Int32} {x0 x1 x2 x3 x4 : Option Value} : Wp S N d MX6_readItem 33 [x0, x1, x2, x3, x4] [.int v0] I J P Q ↔ Wp S N d MX6_readItem 35 [x0, x1, x2, x3, x4] [.int 98, .int v0] I J P Q := wp_bipush (by decide) dX6_readItem_33
theorem e_X6_readItem_35 {v0 : Int32} {v1 : Int32} {x0 x1 x2 x3 x4 : Option Value} : Wp S N d MX6_readItem 35 [x0, x1, x2, x3, x4] [.int v0, .int v1] I J P Q ↔ (¬ v1 = v0 → Wp S N d MX6_readItem 48 [x0, x1, x2, x3, x4] [] I J P Q) ∧ (v1 = v0 → Wp S N d MX6_readItem 38 [x0, x1, x2, x3, x4] [] I J P Q) := wp_brn rfl rfl (by decide) dX6_readItem_35
theorem e_X6_readItem_38 {w : Nat} {x1 x2 x3 x4 : Option Value} : Wp S N d MX6_readItem 38 [some (.ref w), x1, x2, x3, x4] [] I J P Q ↔ Wp S N d MX6_readItem 39 [some (.ref w), x1, x2, x3, x4] [.ref w] I J P Q := wp_lod (len := 1) rfl rfl rfl rfl dX6_readItem_38
theorem e_X6_readItem_39 {v0 : Nat} {x0 x1 x2 x3 x4 : Option Value} : Wp S N (d + 1) MX6_readItem 39 [x0, x1, x2, x3, x4] [.ref v0] I J P Q ↔ S v0 = 6 ∧ CWp S N d MX6_readPairs [.ref v0] I J P (fun r I1 J1 P1 => Wp S N (d + 1) MX6_readItem 42 [x0, x1, x2, x3, x4] (r.toList ++ []) I1 J1 P1 Q) := wp_callV (M' := MX6_readPairs) (As := []) rfl rfl rfl rfl (by decide) (Nat.le_of_ble_eq_true rfl) dX6_readItem_39
theorem e_X6_readItem_42 {v0 : Int32} {x0 x1 x2 x3 x4 : Option Value} : Wp S N d MX6_readItem 42 [x0, x1, x2, x3, x4] [.int v0] I J P Q ↔ (v0 = 0 → Wp S N d MX6_readItem 56 [x0, x1, x2, x3, x4] [] I J P Q) ∧ (¬ v0 = 0 → Wp S N d MX6_readItem 45 [x0, x1, x2, x3, x4] [] I J P Q) := wp_br rfl rfl (by decide) dX6_readItem_42
theorem e_X6_readItem_45  {x0 x1 x2 x3 x4 : Option Value} : Wp S N d MX6_readItem 45 [x0, x1, x2, x3, x4] [] I J P Q ↔ Wp S N d MX6_readItem 58 [x0, x1, x2, x3, x4] [] I J P Q := wp_go (len := 3) rfl (fun _ _ => rfl) rfl (by decide) dX6_readItem_45
theorem e_X6_readItem_48 {w : Nat} {x1 x2 x3 x4 : Option Value} : Wp S N d MX6_readItem 48 [some (.ref w), x1, x2, x3, x4] [] I J P Q ↔ Wp S N d MX6_readItem 49 [some (.ref w), x1, x2, x3, x4] [.ref w] I J P Q := wp_lod (len := 1) rfl rfl rfl rfl dX6_readItem_48
theorem e_X6_readItem_49 {v0 : Nat} {w : Int32} {x0 x1 x2 x4 : Option Value} : Wp S N d MX6_readItem 49 [x0, x1, x2, some (.int w), x4] [.ref v0] I J P Q ↔ Wp S N d MX6_readItem 50 [x0, x1, x2, some (.int w), x4] [.int w, .ref v0] I J P Q := wp_lod (len := 1) rfl rfl rfl rfl dX6_readItem_49
theorem e_X6_readItem_50 {v0 : Int32} {v1 : Nat} {x0 x1 x2 x3 x4 : Option Value} : Wp S N (d + 1) MX6_readItem 50 [x0, x1, x2, x3, x4] [.int v0, .ref v1] I J P Q ↔ S v1 = 6 ∧ CWp S N d MX6_readList [.ref v1, .int v0] I J P (fun r I1 J1 P1 => Wp S N (d + 1) MX6_readItem 53 [x0, x1, x2, x3, x4] (r.toList ++ []) I1 J1 P1 Q) := wp_callV (M' := MX6_readList) (As := [.int v0]) rfl rfl rfl rfl (by decide) (Nat.le_of_ble_eq_true rfl) dX6_readItem_50
theorem e_X6_readItem_53 {v0 : Int32} {x0 x1 x2 x3 x4 : Option Value} : Wp S N d MX6_readItem 53 [x0, x1, x2, x3, x4] [.int v0] I J P Q ↔ (¬ v0 = 0 → Wp S N d MX6_readItem 58 [x0, x1, x2, x3, x4] [] I J P Q) ∧ (v0 = 0 → Wp S N d MX6_readItem 56 [x0, x1, x2, x3, x4] [] I J P Q) := wp_brn rfl rfl (by decide) dX6_readItem_53
theorem e_X6_readItem_56  {x0 x1 x2 x3 x4 : Option Value} : Wp S N d MX6_readItem 56 [x0, x1, x2, x3, x4] [] I J P Q ↔ Wp S N d MX6_readItem 57 [x0, x1, x2, x3, x4] [.int 0] I J P Q := wp_iconst (by decide) dX6_readItem_56
theorem e_X6_readItem_57 {v0 : Int32} (hb : isB v0) {x0 x1 x2 x3 x4 : Option Value} : Wp S N d MX6_readItem 57 [x0, x1, x2, x3, x4] [.int v0] I J P Q ↔ Q (some (.int v0)) I J P := wp_zret rfl dX6_readItem_57 hb
theorem e_X6_readItem_58 {w : Nat} {x1 x2 x3 x4 : Option Value} : Wp S N d MX6_readItem 58 [some (.ref w), x1, x2, x3, x4] [] I J P Q ↔ Wp S N d MX6_readItem 59 [some (.ref w), x1, x2, x3, x4] [.ref w] I J P Q := wp_lod (len := 1) rfl rfl rfl rfl dX6_readItem_58
theorem e_X6_readItem_59 {v0 : Nat} {w : Int32} {x0 x1 x3 x4 : Option Value} : Wp S N d MX6_readItem 59 [x0, x1, some (.int w), x3, x4] [.ref v0] I J P Q ↔ Wp S N d MX6_readItem 60 [x0, x1, some (.int w), x3, x4] [.int w, .ref v0] I J P Q := wp_lod (len := 1) rfl rfl rfl rfl dX6_readItem_59
theorem e_X6_readItem_60 {v0 : Int32} {v1 : Nat} {x0 x1 x2 x3 x4 : Option Value} : Wp S N (d + 1) MX6_readItem 60 [x0, x1, x2, x3, x4] [.int v0, .ref v1] I J P Q ↔ S v1 = 6 ∧ CWp S N d MX6_kindOf [.ref v1, .int v0] I J P (fun r I1 J1 P1 => Wp S N (d + 1) MX6_readItem 63 [x0, x1, x2, x3, x4] (r.toList ++ []) I1 J1 P1 Q) := wp_callV (M' := MX6_kindOf) (As := [.int v0]) rfl rfl rfl rfl (by decide) (Nat.le_of_ble_eq_true rfl) dX6_readItem_60
theorem e_X6_readItem_63 {v0 : Int32} {x0 x1 x2 x3 x4 : Option Value} : Wp S N d MX6_readItem 63 [x0, x1, x2, x3, x4] [.int v0] I J P Q ↔ (v0 < 0 → Wp S N d MX6_readItem 79 [x0, x1, x2, x3, x4] [] I J P Q) ∧ (¬ v0 < 0 → Wp S N d MX6_readItem 66 [x0, x1, x2, x3, x4] [] I J P Q) := wp_br rfl rfl (by decide) dX6_readItem_63
theorem e_X6_readItem_66 {w : Nat} {x1 x2 x3 x4 : Option Value} : Wp S N d MX6_readItem 66 [some (.ref w), x1, x2, x3, x4] [] I J P Q ↔ Wp S N d MX6_readItem 67 [some (.ref w), x1, x2, x3, x4] [.ref w] I J P Q := wp_lod (len := 1) rfl rfl rfl rfl dX6_readItem_66
theorem e_X6_readItem_67 {v0 : Nat} {x0 x1 x2 x3 x4 : Option Value} : Wp S N d MX6_readItem 67 [x0, x1, x2, x3, x4] [.ref v0] I J P Q ↔ Wp S N d MX6_readItem 69 [x0, x1, x2, x3, x4] [.int 42, .ref v0] I J P Q := wp_bipush (by decide) dX6_readItem_67
theorem e_X6_readItem_69 {v0 : Int32} {v1 : Nat} {x0 x1 x2 x3 x4 : Option Value} : Wp S N (d + 1) MX6_readItem 69 [x0, x1, x2, x3, x4] [.int v0, .ref v1] I J P Q ↔ S v1 = 6 ∧ CWp S N d MX6_skip [.ref v1, .int v0] I J P (fun r I1 J1 P1 => Wp S N (d + 1) MX6_readItem 72 [x0, x1, x2, x3, x4] (r.toList ++ []) I1 J1 P1 Q) := wp_callV (M' := MX6_skip) (As := [.int v0]) rfl rfl rfl rfl (by decide) (Nat.le_of_ble_eq_true rfl) dX6_readItem_69
theorem e_X6_readItem_72 {v0 : Int32} {x0 x1 x2 x3 x4 : Option Value} : Wp S N d MX6_readItem 72 [x0, x1, x2, x3, x4] [.int v0] I J P Q ↔ (v0 = 0 → Wp S N d MX6_readItem 79 [x0, x1, x2, x3, x4] [] I J P Q) ∧ (¬ v0 = 0 → Wp S N d MX6_readItem 75 [x0, x1, x2, x3, x4] [] I J P Q) := wp_br rfl rfl (by decide) dX6_readItem_72
theorem e_X6_readItem_75  {x0 x1 x2 x3 x4 : Option Value} : Wp S N d MX6_readItem 75 [x0, x1, x2, x3, x4] [] I J P Q ↔ Wp S N d MX6_readItem 76 [x0, x1, x2, x3, x4] [.int 1] I J P Q := wp_iconst (by decide) dX6_readItem_75
theorem e_X6_readItem_76 {v0 : Int32} {x0 x1 x2 x3 x4 : Option Value} : Wp S N d MX6_readItem 76 [x0, x1, x2, x3, x4] [.int v0] I J P Q ↔ Wp S N d MX6_readItem 80 [x0, x1, x2, x3, x4] [.int v0] I J P Q := wp_go (len := 3) rfl (fun _ _ => rfl) rfl (by decide) dX6_readItem_76
theorem e_X6_readItem_79  {x0 x1 x2 x3 x4 : Option Value} : Wp S N d MX6_readItem 79 [x0, x1, x2, x3, x4] [] I J P Q ↔ Wp S N d MX6_readItem 80 [x0, x1, x2, x3, x4] [.int 0] I J P Q := wp_iconst (by decide) dX6_readItem_79
theorem e_X6_readItem_80 {v0 : Int32} {x0 x1 x2 x3 x4 : Option Value} : Wp S N d MX6_readItem 80 [x0, x1, x2, x3, x4] [.int v0] I J P Q ↔ Wp S N d MX6_readItem 82 [x0, x1, x2, kl x3, some (.int v0)] [] I J P Q := wp_sto (len := 2) rfl rfl rfl rfl (Nat.le_of_ble_eq_true rfl) rfl dX6_readItem_80
theorem e_X6_readItem_82 {w : Nat} {x1 x2 x3 x4 : Option Value} : Wp S N d MX6_readItem 82 [some (.ref w), x1, x2, x3, x4] [] I J P Q ↔ Wp S N d MX6_readItem 83 [some (.ref w), x1, x2, x3, x4] [.ref w] I J P Q := wp_lod (len := 1) rfl rfl rfl rfl dX6_readItem_82
theorem e_X6_readItem_83 {v0 : Nat} {x0 x1 x2 x3 x4 : Option Value} : Wp S N d MX6_readItem 83 [x0, x1, x2, x3, x4] [.ref v0] I J P Q ↔ Wp S N d MX6_readItem 84 [x0, x1, x2, x3, x4] [.ref v0, .ref v0] I J P Q := wp_alu (len := 1) rfl rfl rfl dX6_readItem_83
theorem e_X6_readItem_84 {v0 : Nat} {v1 : Nat} {x0 x1 x2 x3 x4 : Option Value} : Wp S N d MX6_readItem 84 [x0, x1, x2, x3, x4] [.ref v0, .ref v1] I J P Q ↔ S v0 = 6 ∧ Wp S N d MX6_readItem 87 [x0, x1, x2, x3, x4] [.int (I v0 3), .ref v1] I J P Q := wp_getf rfl rfl rfl rfl dX6_readItem_84
theorem e_X6_readItem_87 {v0 : Int32} {v1 : Nat} {x0 x1 x2 x3 x4 : Option Value} : Wp S N d MX6_readItem 87 [x0, x1, x2, x3, x4] [.int v0, .ref v1] I J P Q ↔ Wp S N d MX6_readItem 88 [x0, x1, x2, x3, x4] [.int 1, .int v0, .ref v1] I J P Q := wp_iconst (by decide) dX6_readItem_87
theorem e_X6_readItem_88 {v0 : Int32} {v1 : Int32} {v2 : Nat} {x0 x1 x2 x3 x4 : Option Value} : Wp S N d MX6_readItem 88 [x0, x1, x2, x3, x4] [.int v0, .int v1, .ref v2] I J P Q ↔ Wp S N d MX6_readItem 89 [x0, x1, x2, x3, x4] [.int (v1 + v0), .ref v2] I J P Q := wp_alu (len := 1) rfl rfl rfl dX6_readItem_88
theorem e_X6_readItem_89 {v0 : Int32} {v1 : Nat} {x0 x1 x2 x3 x4 : Option Value} : Wp S N d MX6_readItem 89 [x0, x1, x2, x3, x4] [.int v0, .ref v1] I J P Q ↔ S v1 = 6 ∧ Wp S N d MX6_readItem 92 [x0, x1, x2, x3, x4] [] (u2 I v1 3 v0) J P Q := wp_putI rfl rfl rfl rfl dX6_readItem_89
theorem e_X6_readItem_92 {w : Nat} {x1 x2 x3 x4 : Option Value} : Wp S N d MX6_readItem 92 [some (.ref w), x1, x2, x3, x4] [] I J P Q ↔ Wp S N d MX6_readItem 93 [some (.ref w), x1, x2, x3, x4] [.ref w] I J P Q := wp_lod (len := 1) rfl rfl rfl rfl dX6_readItem_92
theorem e_X6_readItem_93 {v0 : Nat} {w : Nat} {x0 x2 x3 x4 : Option Value} : Wp S N d MX6_readItem 93 [x0, some (.ref w), x2, x3, x4] [.ref v0] I J P Q ↔ Wp S N d MX6_readItem 94 [x0, some (.ref w), x2, x3, x4] [.ref w, .ref v0] I J P Q := wp_lod (len := 1) rfl rfl rfl rfl dX6_readItem_93
theorem e_X6_readItem_94 {v0 : Nat} {v1 : Nat} {w : Int32} {x0 x1 x3 x4 : Option Value} : Wp S N d MX6_readItem 94 [x0, x1, some (.int w), x3, x4] [.ref v0, .ref v1] I J P Q ↔ Wp S N d MX6_readItem 95 [x0, x1, some (.int w), x3, x4] [.int w, .ref v0, .ref v1] I J P Q := wp_lod (len := 1) rfl rfl rfl rfl dX6_readItem_94
theorem e_X6_readItem_95 {v0 : Int32} {v1 : Nat} {v2 : Nat} {w : Int32} {x0 x1 x2 x3 : Option Value} : Wp S N d MX6_readItem 95 [x0, x1, x2, x3, some (.int w)] [.int v0, .ref v1, .ref v2] I J P Q ↔ Wp S N d MX6_readItem 97 [x0, x1, x2, x3, some (.int w)] [.int w, .int v0, .ref v1, .ref v2] I J P Q := wp_lod (len := 2) rfl rfl rfl rfl dX6_readItem_95
theorem e_X6_readItem_97 {v0 : Int32} {v1 : Int32} {v2 : Nat} {v3 : Nat} {x0 x1 x2 x3 x4 : Option Value} : Wp S N (d + 1) MX6_readItem 97 [x0, x1, x2, x3, x4] [.int v0, .int v1, .ref v2, .ref v3] I J P Q ↔ S v3 = 6 ∧ CWp S N d MX6_carryOut [.ref v3, .ref v2, .int v1, .int v0] I J P (fun r I1 J1 P1 => Wp S N (d + 1) MX6_readItem 100 [x0, x1, x2, x3, x4] (r.toList ++ []) I1 J1 P1 Q) := wp_callV (M' := MX6_carryOut) (As := [.ref v2, .int v1, .int v0]) rfl rfl rfl rfl (by decide) (Nat.le_of_ble_eq_true rfl) dX6_readItem_97
theorem e_X6_readItem_100 {v0 : Int32} {x0 x1 x2 x3 x4 : Option Value} : Wp S N d MX6_readItem 100 [x0, x1, x2, x3, x4] [.int v0] I J P Q ↔ (¬ v0 = 0 → Wp S N d MX6_readItem 108 [x0, x1, x2, x3, x4] [] I J P Q) ∧ (v0 = 0 → Wp S N d MX6_readItem 103 [x0, x1, x2, x3, x4] [] I J P Q) := wp_brn rfl rfl (by decide) dX6_readItem_100
theorem e_X6_readItem_103 {w : Nat} {x1 x2 x3 x4 : Option Value} : Wp S N d MX6_readItem 103 [some (.ref w), x1, x2, x3, x4] [] I J P Q ↔ Wp S N d MX6_readItem 104 [some (.ref w), x1, x2, x3, x4] [.ref w] I J P Q := wp_lod (len := 1) rfl rfl rfl rfl dX6_readItem_103
theorem e_X6_readItem_104 {v0 : Nat} {x0 x1 x2 x3 x4 : Option Value} : Wp S N d MX6_readItem 104 [x0, x1, x2, x3, x4] [.ref v0] I J P Q ↔ Wp S N d MX6_readItem 105 [x0, x1, x2, x3, x4] [.int 0, .ref v0] I J P Q := wp_iconst (by decide) dX6_readItem_104
theorem e_X6_readItem_105 {v0 : Int32} {v1 : Nat} (hb : isB v0) {x0 x1 x2 x3 x4 : Option Value} : Wp S N d MX6_readItem 105 [x0, x1, x2, x3, x4] [.int v0, .ref v1] I J P Q ↔ S v1 = 6 ∧ Wp S N d MX6_readItem 108 [x0, x1, x2, x3, x4] [] (u2 I v1 4 v0) J P Q := wp_putZ rfl rfl rfl rfl dX6_readItem_105 hb
theorem e_X6_readItem_108  {x0 x1 x2 x3 x4 : Option Value} : Wp S N d MX6_readItem 108 [x0, x1, x2, x3, x4] [] I J P Q ↔ Wp S N d MX6_readItem 109 [x0, x1, x2, x3, x4] [.int 1] I J P Q := wp_iconst (by decide) dX6_readItem_108
theorem e_X6_readItem_109 {v0 : Int32} (hb : isB v0) {x0 x1 x2 x3 x4 : Option Value} : Wp S N d MX6_readItem 109 [x0, x1, x2, x3, x4] [.int v0] I J P Q ↔ Q (some (.int v0)) I J P := wp_zret rfl dX6_readItem_109 hb
theorem dX6_numbersWanted_0 : decode cX6_numbersWanted 0 = .ok (.iload_n 1, 1) := by decide +kernel
theorem dX6_numbersWanted_1 : decode cX6_numbersWanted 1 = .ok (.tableswitch 93 97 114 #[89, 87, 87, 93, 93, 93, 93, 93, 93, 93, 91, 93, 87, 91, 93, 93, 93, 91], 87) := by decide +kernel
theorem dX6_numbersWanted_88 : decode cX6_numbersWanted 88 = .ok (.iconst 2, 1) := by decide +kernel
theorem dX6_numbersWanted_89 : decode cX6_numbersWanted 89 = .ok (.ireturn, 1) := by decide +kernel
theorem dX6_numbersWanted_90 : decode cX6_numbersWanted 90 = .ok (.iconst 3, 1) := by decide +kernel
theorem dX6_numbersWanted_91 : decode cX6_numbersWanted 91 = .ok (.ireturn, 1) := by decide +kernel
theorem dX6_numbersWanted_92 : decode cX6_numbersWanted 92 = .ok (.iconst 4, 1) := by decide +kernel
theorem dX6_numbersWanted_93 : decode cX6_numbersWanted 93 = .ok (.ireturn, 1) := by decide +kernel
theorem dX6_numbersWanted_94 : decode cX6_numbersWanted 94 = .ok (.iconst 0, 1) := by decide +kernel
theorem dX6_numbersWanted_95 : decode cX6_numbersWanted 95 = .ok (.ireturn, 1) := by decide +kernel
theorem c_X6_numbersWanted {a0 : Nat} {a1 : Int32} : CWp S N d MX6_numbersWanted [.ref a0, .int a1] I J P Q ↔ Wp S N d MX6_numbersWanted 0 [some (.ref a0), some (.int a1)] [] I J P Q := by
  rw [cwp_iff]
  exact ⟨fun h => h.2, fun h => ⟨Nat.le_of_ble_eq_true rfl, h⟩⟩
theorem e_X6_numbersWanted_0 {w : Int32} {x0 : Option Value} : Wp S N d MX6_numbersWanted 0 [x0, some (.int w)] [] I J P Q ↔ Wp S N d MX6_numbersWanted 1 [x0, some (.int w)] [.int w] I J P Q := wp_lod (len := 1) rfl rfl rfl rfl dX6_numbersWanted_0
theorem e_X6_numbersWanted_1 {v0 : Int32} {off : Int} {tgt : Nat} (h : tx_go (.tableswitch 93 97 114 #[89, 87, 87, 93, 93, 93, 93, 93, 93, 93, 91, 93, 87, 91, 93, 93, 93, 91]) ([.int v0]) = some (off, [])) (ht : ((1 : Nat) : Int) + off = ((tgt : Nat) : Int)) {x0 x1 : Option Value} : Wp S N d MX6_numbersWanted 1 [x0, x1] [.int v0] I J P Q ↔ Wp S N d MX6_numbersWanted tgt [x0, x1] [] I J P Q := wp_go (len := 87) rfl (by intro _ h; cases h) h ht dX6_numbersWanted_1
theorem e_X6_numbersWanted_88  {x0 x1 : Option Value} : Wp S N d MX6_numbersWanted 88 [x0, x1] [] I J P Q ↔ Wp S N d MX6_numbersWanted 89 [x0, x1] [.int 2] I J P Q := wp_iconst (by decide) dX6_numbersWanted_88
theorem e_X6_numbersWanted_89 {v0 : Int32} {x0 x1 : Option Value} : Wp S N d MX6_numbersWanted 89 [x0, x1] [.int v0] I J P Q ↔ Q (some (.int v0)) I J P := wp_iret rfl dX6_numbersWanted_89
theorem e_X6_numbersWanted_90  {x0 x1 : Option Value} : Wp S N d MX6_numbersWanted 90 [x0, x1] [] I J P Q ↔ Wp S N d MX6_numbersWanted 91 [x0, x1] [.int 3] I J P Q := wp_iconst (by decide) dX6_numbersWanted_90
theorem e_X6_numbersWanted_91 {v0 : Int32} {x0 x1 : Option Value} : Wp S N d MX6_numbersWanted 91 [x0, x1] [.int v0] I J P Q ↔ Q (some (.int v0)) I J P := wp_iret rfl dX6_numbersWanted_91
theorem e_X6_numbersWanted_92  {x0 x1 : Option Value} : Wp S N d MX6_numbersWanted 92 [x0, x1] [] I J P Q ↔ Wp S N d MX6_numbersWanted 93 [x0, x1] [.int 4] I J P Q := wp_iconst (by decide) dX6_numbersWanted_92
theorem e_X6_numbersWanted_93 {v0 : Int32} {x0 x1 : Option Value} : Wp S N d MX6_numbersWanted 93 [x0, x1] [.int v0] I J P Q ↔ Q (some (.int v0)) I J P := wp_iret rfl dX6_numbersWanted_93
theorem e_X6_numbersWanted_94  {x0 x1 : Option Value} : Wp S N d MX6_numbersWanted 94 [x0, x1] [] I J P Q ↔ Wp S N d MX6_numbersWanted 95 [x0, x1] [.int 0] I J P Q := wp_iconst (by decide) dX6_numbersWanted_94
theorem e_X6_numbersWanted_95 {v0 : Int32} {x0 x1 : Option Value} : Wp S N d MX6_numbersWanted 95 [x0, x1] [.int v0] I J P Q ↔ Q (some (.int v0)) I J P := wp_iret rfl dX6_numbersWanted_95
theorem dX6_kindOf_0 : decode cX6_kindOf 0 = .ok (.iload_n 1, 1) := by decide +kernel
theorem dX6_kindOf_1 : decode cX6_kindOf 1 = .ok (.lookupswitch 41 #[(107, 39), (110, 35), (114, 37)], 35) := by decide +kernel
theorem dX6_kindOf_36 : decode cX6_kindOf 36 = .ok (.iconst 0, 1) := by decide +kernel
theorem dX6_kindOf_37 : decode cX6_kindOf 37 = .ok (.ireturn, 1) := by decide +kernel
theorem dX6_kindOf_38 : decode cX6_kindOf 38 = .ok (.iconst 1, 1) := by decide +kernel
theorem dX6_kindOf_39 : decode cX6_kindOf 39 = .ok (.ireturn, 1) := by decide +kernel
theorem dX6_kindOf_40 : decode cX6_kindOf 40 = .ok (.iconst 2, 1) := by decide +kernel
theorem dX6_kindOf_41 : decode cX6_kindOf 41 = .ok (.ireturn, 1) := by decide +kernel
theorem dX6_kindOf_42 : decode cX6_kindOf 42 = .ok (.iconst (-1), 1) := by decide +kernel
theorem dX6_kindOf_43 : decode cX6_kindOf 43 = .ok (.ireturn, 1) := by decide +kernel
theorem c_X6_kindOf {a0 : Nat} {a1 : Int32} : CWp S N d MX6_kindOf [.ref a0, .int a1] I J P Q ↔ Wp S N d MX6_kindOf 0 [some (.ref a0), some (.int a1)] [] I J P Q := by
  rw [cwp_iff]
  exact ⟨fun h => h.2, fun h => ⟨Nat.le_of_ble_eq_true rfl, h⟩⟩
theorem e_X6_kindOf_0 {w : Int32} {x0 : Option Value} : Wp S N d MX6_kindOf 0 [x0, some (.int w)] [] I J P Q ↔ Wp S N d MX6_kindOf 1 [x0, some (.int w)] [.int w] I J P Q := wp_lod (len := 1) rfl rfl rfl rfl dX6_kindOf_0
theorem e_X6_kindOf_1 {v0 : Int32} {off : Int} {tgt : Nat} (h : tx_go (.lookupswitch 41 #[(107, 39), (110, 35), (114, 37)]) ([.int v0]) = some (off, [])) (ht : ((1 : Nat) : Int) + off = ((tgt : Nat) : Int)) {x0 x1 : Option Value} : Wp S N d MX6_kindOf 1 [x0, x1] [.int v0] I J P Q ↔ Wp S N d MX6_kindOf tgt [x0, x1] [] I J P Q := wp_go (len := 35) rfl (by intro _ h; cases h) h ht dX6_kindOf_1
theorem e_X6_kindOf_36  {x0 x1 : Option Value} : Wp S N d MX6_kindOf 36 [x0, x1] [] I J P Q ↔ Wp S N d MX6_kindOf 37 [x0, x1] [.int 0] I J P Q := wp_iconst (by decide) dX6_kindOf_36
theorem e_X6_kindOf_37 {v0 : Int32} {x0 x1 : Option Value} : Wp S N d MX6_kindOf 37 [x0, x1] [.int v0] I J P Q ↔ Q (some (.int v0)) I J P := wp_iret rfl dX6_kindOf_37
theorem e_X6_kindOf_38  {x0 x1 : Option Value} : Wp S N d MX6_kindOf 38 [x0, x1] [] I J P Q ↔ Wp S N d MX6_kindOf 39 [x0, x1] [.int 1] I J P Q := wp_iconst (by decide) dX6_kindOf_38
theorem e_X6_kindOf_39 {v0 : Int32} {x0 x1 : Option Value} : Wp S N d MX6_kindOf 39 [x0, x1] [.int v0] I J P Q ↔ Q (some (.int v0)) I J P := wp_iret rfl dX6_kindOf_39
theorem e_X6_kindOf_40  {x0 x1 : Option Value} : Wp S N d MX6_kindOf 40 [x0, x1] [] I J P Q ↔ Wp S N d MX6_kindOf 41 [x0, x1] [.int 2] I J P Q := wp_iconst (by decide) dX6_kindOf_40
theorem e_X6_kindOf_41 {v0 : Int32} {x0 x1 : Option Value} : Wp S N d MX6_kindOf 41 [x0, x1] [.int v0] I J P Q ↔ Q (some (.int v0)) I J P := wp_iret rfl dX6_kindOf_41
theorem e_X6_kindOf_42  {x0 x1 : Option Value} : Wp S N d MX6_kindOf 42 [x0, x1] [] I J P Q ↔ Wp S N d MX6_kindOf 43 [x0, x1] [.int (-1)] I J P Q := wp_iconst (by decide) dX6_kindOf_42
theorem e_X6_kindOf_43 {v0 : Int32} {x0 x1 : Option Value} : Wp S N d MX6_kindOf 43 [x0, x1] [.int v0] I J P Q ↔ Q (some (.int v0)) I J P := wp_iret rfl dX6_kindOf_43
theorem dX6_carryOut_0 : decode cX6_carryOut 0 = .ok (.iload_n 2, 1) := by decide +kernel
theorem dX6_carryOut_1 : decode cX6_carryOut 1 = .ok (.lookupswitch 115 #[(97, 58), (98, 43), (99, 98), (109, 81)], 43) := by decide +kernel
theorem dX6_carryOut_44 : decode cX6_carryOut 44 = .ok (.aload_n 1, 1) := by decide +kernel
theorem dX6_carryOut_45 : decode cX6_carryOut 45 = .ok (.aload_n 0, 1) := by decide +kernel
theorem dX6_carryOut_46 : decode cX6_carryOut 46 = .ok (.getfield 19, 3) := by decide +kernel
theorem dX6_carryOut_49 : decode cX6_carryOut 49 = .ok (.aload_n 0, 1) := by decide +kernel
theorem dX6_carryOut_50 : decode cX6_carryOut 50 = .ok (.getfield 51, 3) := by decide +kernel
theorem dX6_carryOut_53 : decode cX6_carryOut 53 = .ok (.iconst 2, 1) := by decide +kernel
theorem dX6_carryOut_54 : decode cX6_carryOut 54 = .ok (.idiv, 1) := by decide +kernel
theorem dX6_carryOut_55 : decode cX6_carryOut 55 = .ok (.invokevirtual 68, 3) := by decide +kernel
theorem dX6_carryOut_58 : decode cX6_carryOut 58 = .ok (.ireturn, 1) := by decide +kernel
theorem dX6_carryOut_59 : decode cX6_carryOut 59 = .ok (.aload_n 1, 1) := by decide +kernel
theorem dX6_carryOut_60 : decode cX6_carryOut 60 = .ok (.aload_n 0, 1) := by decide +kernel
theorem dX6_carryOut_61 : decode cX6_carryOut 61 = .ok (.getfield 19, 3) := by decide +kernel
theorem dX6_carryOut_64 : decode cX6_carryOut 64 = .ok (.iconst 0, 1) := by decide +kernel
theorem dX6_carryOut_65 : decode cX6_carryOut 65 = .ok (.iaload, 1) := by decide +kernel
theorem dX6_carryOut_66 : decode cX6_carryOut 66 = .ok (.aload_n 0, 1) := by decide +kernel
theorem dX6_carryOut_67 : decode cX6_carryOut 67 = .ok (.getfield 19, 3) := by decide +kernel
theorem dX6_carryOut_70 : decode cX6_carryOut 70 = .ok (.iconst 1, 1) := by decide +kernel
theorem dX6_carryOut_71 : decode cX6_carryOut 71 = .ok (.iaload, 1) := by decide +kernel
theorem dX6_carryOut_72 : decode cX6_carryOut 72 = .ok (.aload_n 0, 1) := by decide +kernel
theorem dX6_carryOut_73 : decode cX6_carryOut 73 = .ok (.getfield 19, 3) := by decide +kernel
theorem dX6_carryOut_76 : decode cX6_carryOut 76 = .ok (.iconst 2, 1) := by decide +kernel
theorem dX6_carryOut_77 : decode cX6_carryOut 77 = .ok (.iaload, 1) := by decide +kernel
theorem dX6_carryOut_78 : decode cX6_carryOut 78 = .ok (.invokevirtual 74, 3) := by decide +kernel
theorem dX6_carryOut_81 : decode cX6_carryOut 81 = .ok (.ireturn, 1) := by decide +kernel
theorem dX6_carryOut_82 : decode cX6_carryOut 82 = .ok (.aload_n 1, 1) := by decide +kernel
theorem dX6_carryOut_83 : decode cX6_carryOut 83 = .ok (.aload_n 0, 1) := by decide +kernel
theorem dX6_carryOut_84 : decode cX6_carryOut 84 = .ok (.getfield 19, 3) := by decide +kernel
theorem dX6_carryOut_87 : decode cX6_carryOut 87 = .ok (.iconst 0, 1) := by decide +kernel
theorem dX6_carryOut_88 : decode cX6_carryOut 88 = .ok (.iaload, 1) := by decide +kernel
theorem dX6_carryOut_89 : decode cX6_carryOut 89 = .ok (.aload_n 0, 1) := by decide +kernel
theorem dX6_carryOut_90 : decode cX6_carryOut 90 = .ok (.getfield 19, 3) := by decide +kernel
theorem dX6_carryOut_93 : decode cX6_carryOut 93 = .ok (.iconst 1, 1) := by decide +kernel
theorem dX6_carryOut_94 : decode cX6_carryOut 94 = .ok (.iaload, 1) := by decide +kernel
theorem dX6_carryOut_95 : decode cX6_carryOut 95 = .ok (.invokevirtual 78, 3) := by decide +kernel
theorem dX6_carryOut_98 : decode cX6_carryOut 98 = .ok (.ireturn, 1) := by decide +kernel
theorem dX6_carryOut_99 : decode cX6_carryOut 99 = .ok (.aload_n 1, 1) := by decide +kernel
theorem dX6_carryOut_100 : decode cX6_carryOut 100 = .ok (.aload_n 0, 1) := by decide +kernel
theorem dX6_carryOut_101 : decode cX6_carryOut 101 = .ok (.getfield 19, 3) := by decide +kernel
theorem dX6_carryOut_104 : decode cX6_carryOut 104 = .ok (.iconst 0, 1) := by decide +kernel
theorem dX6_carryOut_105 : decode cX6_carryOut 105 = .ok (.iaload, 1) := by decide +kernel
theorem dX6_carryOut_106 : decode cX6_carryOut 106 = .ok (.aload_n 0, 1) := by decide +kernel
theorem dX6_carryOut_107 : decode cX6_carryOut 107 = .ok (.getfield 19, 3) := by decide +kernel
theorem dX6_carryOut_110 : decode cX6_carryOut 110 = .ok (.iconst 1, 1) := by decide +kernel
theorem dX6_carryOut_111 : decode cX6_carryOut 111 = .ok (.iaload, 1) := by decide +kernel
theorem dX6_carryOut_112 : decode cX6_carryOut 112 = .ok (.invokevirtual 82, 3) := by decide +kernel
theorem dX6_carryOut_115 : decode cX6_carryOut 115 = .ok (.ireturn, 1) := by decide +kernel
theorem dX6_carryOut_116 : decode cX6_carryOut 116 = .ok (.aload_n 1, 1) := by decide +kernel
theorem dX6_carryOut_117 : decode cX6_carryOut 117 = .ok (.aload_n 0, 1) := by decide +kernel
theorem dX6_carryOut_118 : decode cX6_carryOut 118 = .ok (.iload_n 2, 1) := by decide +kernel
theorem dX6_carryOut_119 : decode cX6_carryOut 119 = .ok (.invokevirtual 61, 3) := by decide +kernel
theorem dX6_carryOut_122 : decode cX6_carryOut 122 = .ok (.aload_n 0, 1) := by decide +kernel
theorem dX6_carryOut_123 : decode cX6_carryOut 123 = .ok (.getfield 19, 3) := by decide +kernel
theorem dX6_carryOut_126 : decode cX6_carryOut 126 = .ok (.iload_n 3, 1) := by decide +kernel
theorem dX6_carryOut_127 : decode cX6_carryOut 127 = .ok (.invokevirtual 85, 3) := by decide +kernel
theorem dX6_carryOut_130 : decode cX6_carryOut 130 = .ok (.ireturn, 1) := by decide +kernel
theorem c_X6_carryOut {a0 : Nat} {a1 : Nat} {a2 : Int32} {a3 : Int32} : CWp S N d MX6_carryOut [.ref a0, .ref a1, .int a2, .int a3] I J P Q ↔ Wp S N d MX6_carryOut 0 [some (.ref a0), some (.ref a1), some (.int a2), some (.int a3)] [] I J P Q := by
  rw [cwp_iff]
  exact ⟨fun h => h.2, fun h => ⟨Nat.le_of_ble_eq_true rfl, h⟩⟩
theorem e_X6_carryOut_0 {w : Int32} {x0 x1 x3 : Option Value} : Wp S N d MX6_carryOut 0 [x0, x1, some (.int w), x3] [] I J P Q ↔ Wp S N d MX6_carryOut 1 [x0, x1, some (.int w), x3] [.int w] I J P Q := wp_lod (len := 1) rfl rfl rfl rfl dX6_carryOut_0
theorem e_X6_carryOut_1 {v0 : Int32} {off : Int} {tgt : Nat} (h : tx_go (.lookupswitch 115 #[(97, 58), (98, 43), (99, 98), (109, 81)]) ([.int v0]) = some (off, [])) (ht : ((1 : Nat) : Int) + off = ((tgt : Nat) : Int)) {x0 x1 x2 x3 : Option Value} : Wp S N d MX6_carryOut 1 [x0, x1, x2, x3] [.int v0] I J P Q ↔ Wp S N d MX6_carryOut tgt [x0, x1, x2, x3] [] I J P Q := wp_go (len := 43) rfl (by intro _ h; cases h) h ht dX6_carryOut_1
theorem e_X6_carryOut_44 {w : Nat} {x0 x2 x3 : Option Value} : Wp S N d MX6_carryOut 44 [x0, some (.ref w), x2, x3] [] I J P Q ↔ Wp S N d MX6_carryOut 45 [x0, some (.ref w), x2, x3] [.ref w] I J P Q := wp_lod (len := 1) rfl rfl rfl rfl dX6_carryOut_44
theorem e_X6_carryOut_45 {v0 : Nat} {w : Nat} {x1 x2 x3 : Option Value} : Wp S N d MX6_carryOut 45 [some (.ref w), x1, x2, x3] [.ref v0] I J P Q ↔ Wp S N d MX6_carryOut 46 [some (.ref w), x1, x2, x3] [.ref w, .ref v0] I J P Q := wp_lod (len := 1) rfl rfl rfl rfl dX6_carryOut_45
theorem e_X6_carryOut_46 {v0 : Nat} {v1 : Nat} {x0 x1 x2 x3 : Option Value} : Wp S N d MX6_carryOut 46 [x0, x1, x2, x3] [.ref v0, .ref v1] I J P Q ↔ S v0 = 6 ∧ Wp S N d MX6_carryOut 49 [x0, x1, x2, x3] [va_rf (P v0 6), .ref v1] I J P Q := wp_getf rfl rfl rfl rfl dX6_carryOut_46
theorem e_X6_carryOut_49 {v0 : Nat} {v1 : Nat} {w : Nat} {x1 x2 x3 : Option Value} : Wp S N d MX6_carryOut 49 [some (.ref w), x1, x2, x3] [.ref v0, .ref v1] I J P Q ↔ Wp S N d MX6_carryOut 50 [some (.ref w), x1, x2, x3] [.ref w, .ref v0, .ref v1] I J P Q := wp_lod (len := 1) rfl rfl rfl rfl dX6_carryOut_49
theorem e_X6_carryOut_50 {v0 : Nat} {v1 : Nat} {v2 : Nat} {x0 x1 x2 x3 : Option Value} : Wp S N d MX6_carryOut 50 [x0, x1, x2, x3] [.ref v0, .ref v1, .ref v2] I J P Q ↔ S v0 = 6 ∧ Wp S N d MX6_carryOut 53 [x0, x1, x2, x3] [.int (I v0 7), .ref v1, .ref v2] I J P Q := wp_getf rfl rfl rfl rfl dX6_carryOut_50
theorem e_X6_carryOut_53 {v0 : Int32} {v1 : Nat} {v2 : Nat} {x0 x1 x2 x3 : Option Value} : Wp S N d MX6_carryOut 53 [x0, x1, x2, x3] [.int v0, .ref v1, .ref v2] I J P Q ↔ Wp S N d MX6_carryOut 54 [x0, x1, x2, x3] [.int 2, .int v0, .ref v1, .ref v2] I J P Q := wp_iconst (by decide) dX6_carryOut_53
theorem e_X6_carryOut_54 {v0 : Int32} {v1 : Int32} {v2 : Nat} {v3 : Nat} (h0 : ¬ v0 = 0) {x0 x1 x2 x3 : Option Value} : Wp S N d MX6_carryOut 54 [x0, x1, x2, x3] [.int v0, .int v1, .ref v2, .ref v3] I J P Q ↔ Wp S N d MX6_carryOut 55 [x0, x1, x2, x3] [.int (v1 / v0), .ref v2, .ref v3] I J P Q := wp_idiv h0 dX6_carryOut_54
theorem e_X6_carryOut_55 {v0 : Int32} {v1 : Nat} {v2 : Nat} {x0 x1 x2 x3 : Option Value} : Wp S N (d + 1) MX6_carryOut 55 [x0, x1, x2, x3] [.int v0, .ref v1, .ref v2] I J P Q ↔ S v2 = 7 ∧ CWp S N d MX7_setBrackets [.ref v2, .ref v1, .int v0] I J P (fun r I1 J1 P1 => Wp S N (d + 1) MX6_carryOut 58 [x0, x1, x2, x3] (r.toList ++ []) I1 J1 P1 Q) := wp_callV (M' := MX7_setBrackets) (As := [.ref v1, .int v0]) rfl rfl rfl rfl (by decide) (Nat.le_of_ble_eq_true rfl) dX6_carryOut_55
theorem e_X6_carryOut_58 {v0 : Int32} (hb : isB v0) {x0 x1 x2 x3 : Option Value} : Wp S N d MX6_carryOut 58 [x0, x1, x2, x3] [.int v0] I J P Q ↔ Q (some (.int v0)) I J P := wp_zret rfl dX6_carryOut_58 hb
theorem e_X6_carryOut_59 {w : Nat} {x0 x2 x3 : Option Value} : Wp S N d MX6_carryOut 59 [x0, some (.ref w), x2, x3] [] I J P Q ↔ Wp S N d MX6_carryOut 60 [x0, some (.ref w), x2, x3] [.ref w] I J P Q := wp_lod (len := 1) rfl rfl rfl rfl dX6_carryOut_59
theorem e_X6_carryOut_60 {v0 : Nat} {w : Nat} {x1 x2 x3 : Option Value} : Wp S N d MX6_carryOut 60 [some (.ref w), x1, x2, x3] [.ref v0] I J P Q ↔ Wp S N d MX6_carryOut 61 [some (.ref w), x1, x2, x3] [.ref w, .ref v0] I J P Q := wp_lod (len := 1) rfl rfl rfl rfl dX6_carryOut_60
theorem e_X6_carryOut_61 {v0 : Nat} {v1 : Nat} {x0 x1 x2 x3 : Option Value} : Wp S N d MX6_carryOut 61 [x0, x1, x2, x3] [.ref v0, .ref v1] I J P Q ↔ S v0 = 6 ∧ Wp S N d MX6_carryOut 64 [x0, x1, x2, x3] [va_rf (P v0 6), .ref v1] I J P Q := wp_getf rfl rfl rfl rfl dX6_carryOut_61
theorem e_X6_carryOut_64 {v0 : Nat} {v1 : Nat} {x0 x1 x2 x3 : Option Value} : Wp S N d MX6_carryOut 64 [x0, x1, x2, x3] [.ref v0, .ref v1] I J P Q ↔ Wp S N d MX6_carryOut 65 [x0, x1, x2, x3] [.int 0, .ref v0, .ref v1] I J P Q := wp_iconst (by decide) dX6_carryOut_64
theorem e_X6_carryOut_65 {v0 : Int32} {v1 : Nat} {v2 : Nat} {x0 x1 x2 x3 : Option Value} : Wp S N d MX6_carryOut 65 [x0, x1, x2, x3] [.int v0, .ref v1, .ref v2] I J P Q ↔ (S v1 = 10 ∧ vp_in v0 (N v1)) ∧ Wp S N d MX6_carryOut 66 [x0, x1, x2, x3] [.int (I v1 v0.toNatClampNeg), .ref v2] I J P Q := wp_ald rfl rfl dX6_carryOut_65
theorem e_X6_carryOut_66 {v0 : Int32} {v1 : Nat} {w : Nat} {x1 x2 x3 : Option Value} : Wp S N d MX6_carryOut 66 [some (.ref w), x1, x2, x3] [.int v0, .ref v1] I J P Q ↔ Wp S N d MX6_carryOut 67 [some (.ref w), x1, x2, x3] [.ref w, .int v0, .ref v1] I J P Q := wp_lod (len := 1) rfl rfl rfl rfl dX6_carryOut_66
theorem e_X6_carryOut_67 {v0 : Nat} {v1 : Int32} {v2 : Nat} {x0 x1 x2 x3 : Option Value} : Wp S N d MX6_carryOut 67 [x0, x1, x2, x3] [.ref v0, .int v1, .ref v2] I J P Q ↔ S v0 = 6 ∧ Wp S N d MX6_carryOut 70 [x0, x1, x2, x3] [va_rf (P v0 6), .int v1, .ref v2] I J P Q := wp_getf rfl rfl rfl rfl dX6_carryOut_67
theorem e_X6_carryOut_70 {v0 : Nat} {v1 : Int32} {v2 : Nat} {x0 x1 x2 x3 : Option Value} : Wp S N d MX6_carryOut 70 [x0, x1, x2, x3] [.ref v0, .int v1, .ref v2] I J P Q ↔ Wp S N d MX6_carryOut 71 [x0, x1, x2, x3] [.int 1, .ref v0, .int v1, .ref v2] I J P Q := wp_iconst (by decide) dX6_carryOut_70
theorem e_X6_carryOut_71 {v0 : Int32} {v1 : Nat} {v2 : Int32} {v3 : Nat} {x0 x1 x2 x3 : Option Value} : Wp S N d MX6_carryOut 71 [x0, x1, x2, x3] [.int v0, .ref v1, .int v2, .ref v3] I J P Q ↔ (S v1 = 10 ∧ vp_in v0 (N v1)) ∧ Wp S N d MX6_carryOut 72 [x0, x1, x2, x3] [.int (I v1 v0.toNatClampNeg), .int v2, .ref v3] I J P Q := wp_ald rfl rfl dX6_carryOut_71
theorem e_X6_carryOut_72 {v0 : Int32} {v1 : Int32} {v2 : Nat} {w : Nat} {x1 x2 x3 : Option Value} : Wp S N d MX6_carryOut 72 [some (.ref w), x1, x2, x3] [.int v0, .int v1, .ref v2] I J P Q ↔ Wp S N d MX6_carryOut 73 [some (.ref w), x1, x2, x3] [.ref w, .int v0, .int v1, .ref v2] I J P Q := wp_lod (len := 1) rfl rfl rfl rfl dX6_carryOut_72
theorem e_X6_carryOut_73 {v0 : Nat} {v1 : Int32} {v2 : Int32} {v3 : Nat} {x0 x1 x2 x3 : Option Value} : Wp S N d MX6_carryOut 73 [x0, x1, x2, x3] [.ref v0, .int v1, .int v2, .ref v3] I J P Q ↔ S v0 = 6 ∧ Wp S N d MX6_carryOut 76 [x0, x1, x2, x3] [va_rf (P v0 6), .int v1, .int v2, .ref v3] I J P Q := wp_getf rfl rfl rfl rfl dX6_carryOut_73
theorem e_X6_carryOut_76 {v0 : Nat} {v1 : Int32} {v2 : Int32} {v3 : Nat} {x0 x1 x2 x3 : Option Value} : Wp S N d MX6_carryOut 76 [x0, x1, x2, x3] [.ref v0, .int v1, .int v2, .ref v3] I J P Q ↔ Wp S N d MX6_carryOut 77 [x0, x1, x2, x3] [.int 2, .ref v0, .int v1, .int v2, .ref v3] I J P Q := wp_iconst (by decide) dX6_carryOut_76
theorem e_X6_carryOut_77 {v0 : Int32} {v1 : Nat} {v2 : Int32} {v3 : Int32} {v4 : Nat} {x0 x1 x2 x3 : Option Value} : Wp S N d MX6_carryOut 77 [x0, x1, x2, x3] [.int v0, .ref v1, .int v2, .int v3, .ref v4] I J P Q ↔ (S v1 = 10 ∧ vp_in v0 (N v1)) ∧ Wp S N d MX6_carryOut 78 [x0, x1, x2, x3] [.int (I v1 v0.toNatClampNeg), .int v2, .int v3, .ref v4] I J P Q := wp_ald rfl rfl dX6_carryOut_77
theorem e_X6_carryOut_78 {v0 : Int32} {v1 : Int32} {v2 : Int32} {v3 : Nat} {x0 x1 x2 x3 : Option Value} : Wp S N (d + 1) MX6_carryOut 78 [x0, x1, x2, x3] [.int v0, .int v1, .int v2, .ref v3] I J P Q ↔ S v3 = 7 ∧ CWp S N d MX7_setAllowance [.ref v3, .int v2, .int v1, .int v0] I J P (fun r I1 J1 P1 => Wp S N (d + 1) MX6_carryOut 81 [x0, x1, x2, x3] (r.toList ++ []) I1 J1 P1 Q) := wp_callV (M' := MX7_setAllowance) (As := [.int v2, .int v1, .int v0]) rfl rfl rfl rfl (by decide) (Nat.le_of_ble_eq_true rfl) dX6_carryOut_78
theorem e_X6_carryOut_81 {v0 : Int32} (hb : isB v0) {x0 x1 x2 x3 : Option Value} : Wp S N d MX6_carryOut 81 [x0, x1, x2, x3] [.int v0] I J P Q ↔ Q (some (.int v0)) I J P := wp_zret rfl dX6_carryOut_81 hb
theorem e_X6_carryOut_82 {w : Nat} {x0 x2 x3 : Option Value} : Wp S N d MX6_carryOut 82 [x0, some (.ref w), x2, x3] [] I J P Q ↔ Wp S N d MX6_carryOut 83 [x0, some (.ref w), x2, x3] [.ref w] I J P Q := wp_lod (len := 1) rfl rfl rfl rfl dX6_carryOut_82
theorem e_X6_carryOut_83 {v0 : Nat} {w : Nat} {x1 x2 x3 : Option Value} : Wp S N d MX6_carryOut 83 [some (.ref w), x1, x2, x3] [.ref v0] I J P Q ↔ Wp S N d MX6_carryOut 84 [some (.ref w), x1, x2, x3] [.ref w, .ref v0] I J P Q := wp_lod (len := 1) rfl rfl rfl rfl dX6_carryOut_83
theorem e_X6_carryOut_84 {v0 : Nat} {v1 : Nat} {x0 x1 x2 x3 : Option Value} : Wp S N d MX6_carryOut 84 [x0, x1, x2, x3] [.ref v0, .ref v1] I J P Q ↔ S v0 = 6 ∧ Wp S N d MX6_carryOut 87 [x0, x1, x2, x3] [va_rf (P v0 6), .ref v1] I J P Q := wp_getf rfl rfl rfl rfl dX6_carryOut_84
theorem e_X6_carryOut_87 {v0 : Nat} {v1 : Nat} {x0 x1 x2 x3 : Option Value} : Wp S N d MX6_carryOut 87 [x0, x1, x2, x3] [.ref v0, .ref v1] I J P Q ↔ Wp S N d MX6_carryOut 88 [x0, x1, x2, x3] [.int 0, .ref v0, .ref v1] I J P Q := wp_iconst (by decide) dX6_carryOut_87
theorem e_X6_carryOut_88 {v0 : Int32} {v1 : Nat} {v2 : Nat} {x0 x1 x2 x3 : Option Value} : Wp S N d MX6_carryOut 88 [x0, x1, x2, x3] [.int v0, .ref v1, .ref v2] I J P Q ↔ (S v1 = 10 ∧ vp_in v0 (N v1)) ∧ Wp S N d MX6_carryOut 89 [x0, x1, x2, x3] [.int (I v1 v0.toNatClampNeg), .ref v2] I J P Q := wp_ald rfl rfl dX6_carryOut_88
theorem e_X6_carryOut_89 {v0 : Int32} {v1 : Nat} {w : Nat} {x1 x2 x3 : Option Value} : Wp S N d MX6_carryOut 89 [some (.ref w), x1, x2, x3] [.int v0, .ref v1] I J P Q ↔ Wp S N d MX6_carryOut 90 [some (.ref w), x1, x2, x3] [.ref w, .int v0, .ref v1] I J P Q := wp_lod (len := 1) rfl rfl rfl rfl dX6_carryOut_89
theorem e_X6_carryOut_90 {v0 : Nat} {v1 : Int32} {v2 : Nat} {x0 x1 x2 x3 : Option Value} : Wp S N d MX6_carryOut 90 [x0, x1, x2, x3] [.ref v0, .int v1, .ref v2] I J P Q ↔ S v0 = 6 ∧ Wp S N d MX6_carryOut 93 [x0, x1, x2, x3] [va_rf (P v0 6), .int v1, .ref v2] I J P Q := wp_getf rfl rfl rfl rfl dX6_carryOut_90
theorem e_X6_carryOut_93 {v0 : Nat} {v1 : Int32} {v2 : Nat} {x0 x1 x2 x3 : Option Value} : Wp S N d MX6_carryOut 93 [x0, x1, x2, x3] [.ref v0, .int v1, .ref v2] I J P Q ↔ Wp S N d MX6_carryOut 94 [x0, x1, x2, x3] [.int 1, .ref v0, .int v1, .ref v2] I J P Q := wp_iconst (by decide) dX6_carryOut_93
theorem e_X6_carryOut_94 {v0 : Int32} {v1 : Nat} {v2 : Int32} {v3 : Nat} {x0 x1 x2 x3 : Option Value} : Wp S N d MX6_carryOut 94 [x0, x1, x2, x3] [.int v0, .ref v1, .int v2, .ref v3] I J P Q ↔ (S v1 = 10 ∧ vp_in v0 (N v1)) ∧ Wp S N d MX6_carryOut 95 [x0, x1, x2, x3] [.int (I v1 v0.toNatClampNeg), .int v2, .ref v3] I J P Q := wp_ald rfl rfl dX6_carryOut_94
theorem e_X6_carryOut_95 {v0 : Int32} {v1 : Int32} {v2 : Nat} {x0 x1 x2 x3 : Option Value} : Wp S N (d + 1) MX6_carryOut 95 [x0, x1, x2, x3] [.int v0, .int v1, .ref v2] I J P Q ↔ S v2 = 7 ∧ CWp S N d MX7_setMinimum [.ref v2, .int v1, .int v0] I J P (fun r I1 J1 P1 => Wp S N (d + 1) MX6_carryOut 98 [x0, x1, x2, x3] (r.toList ++ []) I1 J1 P1 Q) := wp_callV (M' := MX7_setMinimum) (As := [.int v1, .int v0]) rfl rfl rfl rfl (by decide) (Nat.le_of_ble_eq_true rfl) dX6_carryOut_95
theorem e_X6_carryOut_98 {v0 : Int32} (hb : isB v0) {x0 x1 x2 x3 : Option Value} : Wp S N d MX6_carryOut 98 [x0, x1, x2, x3] [.int v0] I J P Q ↔ Q (some (.int v0)) I J P := wp_zret rfl dX6_carryOut_98 hb
theorem e_X6_carryOut_99 {w : Nat} {x0 x2 x3 : Option Value} : Wp S N d MX6_carryOut 99 [x0, some (.ref w), x2, x3] [] I J P Q ↔ Wp S N d MX6_carryOut 100 [x0, some (.ref w), x2, x3] [.ref w] I J P Q := wp_lod (len := 1) rfl rfl rfl rfl dX6_carryOut_99
theorem e_X6_carryOut_100 {v0 : Nat} {w : Nat} {x1 x2 x3 : Option Value} : Wp S N d MX6_carryOut 100 [some (.ref w), x1, x2, x3] [.ref v0] I J P Q ↔ Wp S N d MX6_carryOut 101 [some (.ref w), x1, x2, x3] [.ref w, .ref v0] I J P Q := wp_lod (len := 1) rfl rfl rfl rfl dX6_carryOut_100
theorem e_X6_carryOut_101 {v0 : Nat} {v1 : Nat} {x0 x1 x2 x3 : Option Value} : Wp S N d MX6_carryOut 101 [x0, x1, x2, x3] [.ref v0, .ref v1] I J P Q ↔ S v0 = 6 ∧ Wp S N d MX6_carryOut 104 [x0, x1, x2, x3] [va_rf (P v0 6), .ref v1] I J P Q := wp_getf rfl rfl rfl rfl dX6_carryOut_101
theorem e_X6_carryOut_104 {v0 : Nat} {v1 : Nat} {x0 x1 x2 x3 : Option Value} : Wp S N d MX6_carryOut 104 [x0, x1, x2, x3] [.ref v0, .ref v1] I J P Q ↔ Wp S N d MX6_carryOut 105 [x0, x1, x2, x3] [.int 0, .ref v0, .ref v1] I J P Q := wp_iconst (by decide) dX6_carryOut_104
theorem e_X6_carryOut_105 {v0 : Int32} {v1 : Nat} {v2 : Nat} {x0 x1 x2 x3 : Option Value} : Wp S N d MX6_carryOut 105 [x0, x1, x2, x3] [.int v0, .ref v1, .ref v2] I J P Q ↔ (S v1 = 10 ∧ vp_in v0 (N v1)) ∧ Wp S N d MX6_carryOut 106 [x0, x1, x2, x3] [.int (I v1 v0.toNatClampNeg), .ref v2] I J P Q := wp_ald rfl rfl dX6_carryOut_105
theorem e_X6_carryOut_106 {v0 : Int32} {v1 : Nat} {w : Nat} {x1 x2 x3 : Option Value} : Wp S N d MX6_carryOut 106 [some (.ref w), x1, x2, x3] [.int v0, .ref v1] I J P Q ↔ Wp S N d MX6_carryOut 107 [some (.ref w), x1, x2, x3] [.ref w, .int v0, .ref v1] I J P Q := wp_lod (len := 1) rfl rfl rfl rfl dX6_carryOut_106
theorem e_X6_carryOut_107 {v0 : Nat} {v1 : Int32} {v2 : Nat} {x0 x1 x2 x3 : Option Value} : Wp S N d MX6_carryOut 107 [x0, x1, x2, x3] [.ref v0, .int v1, .ref v2] I J P Q ↔ S v0 = 6 ∧ Wp S N d MX6_carryOut 110 [x0, x1, x2, x3] [va_rf (P v0 6), .int v1, .ref v2] I J P Q := wp_getf rfl rfl rfl rfl dX6_carryOut_107
theorem e_X6_carryOut_110 {v0 : Nat} {v1 : Int32} {v2 : Nat} {x0 x1 x2 x3 : Option Value} : Wp S N d MX6_carryOut 110 [x0, x1, x2, x3] [.ref v0, .int v1, .ref v2] I J P Q ↔ Wp S N d MX6_carryOut 111 [x0, x1, x2, x3] [.int 1, .ref v0, .int v1, .ref v2] I J P Q := wp_iconst (by decide) dX6_carryOut_110
theorem e_X6_carryOut_111 {v0 : Int32} {v1 : Nat} {v2 : Int32} {v3 : Nat} {x0 x1 x2 x3 : Option Value} : Wp S N d MX6_carryOut 111 [x0, x1, x2, x3] [.int v0, .ref v1, .int v2, .ref v3] I J P Q ↔ (S v1 = 10 ∧ vp_in v0 (N v1)) ∧ Wp S N d MX6_carryOut 112 [x0, x1, x2, x3] [.int (I v1 v0.toNatClampNeg), .int v2, .ref v3] I J P Q := wp_ald rfl rfl dX6_carryOut_111
theorem e_X6_carryOut_112 {v0 : Int32} {v1 : Int32} {v2 : Nat} {x0 x1 x2 x3 : Option Value} : Wp S N (d + 1) MX6_carryOut 112 [x0, x1, x2, x3] [.int v0, .int v1, .ref v2] I J P Q ↔ S v2 = 7 ∧ CWp S N d MX7_addCharge [.ref v2, .int v1, .int v0] I J P (fun r I1 J1 P1 => Wp S N (d + 1) MX6_carryOut 115 [x0, x1, x2, x3] (r.toList ++ []) I1 J1 P1 Q) := wp_callV (M' := MX7_addCharge) (As := [.int v1, .int v0]) rfl rfl rfl rfl (by decide) (Nat.le_of_ble_eq_true rfl) dX6_carryOut_112
theorem e_X6_carryOut_115 {v0 : Int32} (hb : isB v0) {x0 x1 x2 x3 : Option Value} : Wp S N d MX6_carryOut 115 [x0, x1, x2, x3] [.int v0] I J P Q ↔ Q (some (.int v0)) I J P := wp_zret rfl dX6_carryOut_115 hb
theorem e_X6_carryOut_116 {w : Nat} {x0 x2 x3 : Option Value} : Wp S N d MX6_carryOut 116 [x0, some (.ref w), x2, x3] [] I J P Q ↔ Wp S N d MX6_carryOut 117 [x0, some (.ref w), x2, x3] [.ref w] I J P Q := wp_lod (len := 1) rfl rfl rfl rfl dX6_carryOut_116
theorem e_X6_carryOut_117 {v0 : Nat} {w : Nat} {x1 x2 x3 : Option Value} : Wp S N d MX6_carryOut 117 [some (.ref w), x1, x2, x3] [.ref v0] I J P Q ↔ Wp S N d MX6_carryOut 118 [some (.ref w), x1, x2, x3] [.ref w, .ref v0] I J P Q := wp_lod (len := 1) rfl rfl rfl rfl dX6_carryOut_117
theorem e_X6_carryOut_118 {v0 : Nat} {v1 : Nat} {w : Int32} {x0 x1 x3 : Option Value} : Wp S N d MX6_carryOut 118 [x0, x1, some (.int w), x3] [.ref v0, .ref v1] I J P Q ↔ Wp S N d MX6_carryOut 119 [x0, x1, some (.int w), x3] [.int w, .ref v0, .ref v1] I J P Q := wp_lod (len := 1) rfl rfl rfl rfl dX6_carryOut_118
theorem e_X6_carryOut_119 {v0 : Int32} {v1 : Nat} {v2 : Nat} {x0 x1 x2 x3 : Option Value} : Wp S N (d + 1) MX6_carryOut 119 [x0, x1, x2, x3] [.int v0, .ref v1, .ref v2] I J P Q ↔ S v1 = 6 ∧ CWp S N d MX6_kindOf [.ref v1, .int v0] I J P (fun r I1 J1 P1 => Wp S N (d + 1) MX6_carryOut 122 [x0, x1, x2, x3] (r.toList ++ [.ref v2]) I1 J1 P1 Q) := wp_callV (M' := MX6_kindOf) (As := [.int v0]) rfl rfl rfl rfl (by decide) (Nat.le_of_ble_eq_true rfl) dX6_carryOut_119
theorem e_X6_carryOut_122 {v0 : Int32} {v1 : Nat} {w : Nat} {x1 x2 x3 : Option Value} : Wp S N d MX6_carryOut 122 [some (.ref w), x1, x2, x3] [.int v0, .ref v1] I J P Q ↔ Wp S N d MX6_carryOut 123 [some (.ref w), x1, x2, x3] [.ref w, .int v0, .ref v1] I J P Q := wp_lod (len := 1) rfl rfl rfl rfl dX6_carryOut_122
theorem e_X6_carryOut_123 {v0 : Nat} {v1 : Int32} {v2 : Nat} {x0 x1 x2 x3 : Option Value} : Wp S N d MX6_carryOut 123 [x0, x1, x2, x3] [.ref v0, .int v1, .ref v2] I J P Q ↔ S v0 = 6 ∧ Wp S N d MX6_carryOut 126 [x0, x1, x2, x3] [va_rf (P v0 6), .int v1, .ref v2] I J P Q := wp_getf rfl rfl rfl rfl dX6_carryOut_123
theorem e_X6_carryOut_126 {v0 : Nat} {v1 : Int32} {v2 : Nat} {w : Int32} {x0 x1 x2 : Option Value} : Wp S N d MX6_carryOut 126 [x0, x1, x2, some (.int w)] [.ref v0, .int v1, .ref v2] I J P Q ↔ Wp S N d MX6_carryOut 127 [x0, x1, x2, some (.int w)] [.int w, .ref v0, .int v1, .ref v2] I J P Q := wp_lod (len := 1) rfl rfl rfl rfl dX6_carryOut_126
theorem e_X6_carryOut_127 {v0 : Int32} {v1 : Nat} {v2 : Int32} {v3 : Nat} {x0 x1 x2 x3 : Option Value} : Wp S N (d + 1) MX6_carryOut 127 [x0, x1, x2, x3] [.int v0, .ref v1, .int v2, .ref v3] I J P Q ↔ S v3 = 7 ∧ CWp S N d MX7_addCredit [.ref v3, .int v2, .ref v1, .int v0] I J P (fun r I1 J1 P1 => Wp S N (d + 1) MX6_carryOut 130 [x0, x1, x2, x3] (r.toList ++ []) I1 J1 P1 Q) := wp_callV (M' := MX7_addCredit) (As := [.int v2, .ref v1, .int v0]) rfl rfl rfl rfl (by decide) (Nat.le_of_ble_eq_true rfl) dX6_carryOut_127
theorem e_X6_carryOut_130 {v0 : Int32} (hb : isB v0) {x0 x1 x2 x3 : Option Value} : Wp S N d MX6_carryOut 130 [x0, x1, x2, x3] [.int v0] I J P Q ↔ Q (some (.int v0)) I J P := wp_zret rfl dX6_carryOut_130 hb
theorem dX6_readPairs_0 : decode cX6_readPairs 0 = .ok (.aload_n 0, 1) := by decide +kernel
theorem dX6_readPairs_1 : decode cX6_readPairs 1 = .ok (.invokevirtual 89, 3) := by decide +kernel
theorem dX6_readPairs_4 : decode cX6_readPairs 4 = .ok (.istore_n 1, 1) := by decide +kernel
theorem dX6_readPairs_5 : decode cX6_readPairs 5 = .ok (.iconst 0, 1) := by decide +kernel
theorem dX6_readPairs_6 : decode cX6_readPairs 6 = .ok (.istore_n 2, 1) := by decide +kernel
theorem dX6_readPairs_7 : decode cX6_readPairs 7 = .ok (.iload_n 2, 1) := by decide +kernel
theorem dX6_readPairs_8 : decode cX6_readPairs 8 = .ok (.bipush 80, 2) := by decide +kernel
theorem dX6_readPairs_10 : decode cX6_readPairs 10 = .ok (.if_icmp .ge 37, 3) := by decide +kernel
theorem dX6_readPairs_13 : decode cX6_readPairs 13 = .ok (.iload_n 1, 1) := by decide +kernel
theorem dX6_readPairs_14 : decode cX6_readPairs 14 = .ok (.ifCond .eq 33, 3) := by decide +kernel
theorem dX6_readPairs_17 : decode cX6_readPairs 17 = .ok (.aload_n 0, 1) := by decide +kernel
theorem dX6_readPairs_18 : decode cX6_readPairs 18 = .ok (.invokevirtual 43, 3) := by decide +kernel
theorem dX6_readPairs_21 : decode cX6_readPairs 21 = .ok (.bipush 44, 2) := by decide +kernel
theorem dX6_readPairs_23 : decode cX6_readPairs 23 = .ok (.if_icmp .ne 24, 3) := by decide +kernel
theorem dX6_readPairs_26 : decode cX6_readPairs 26 = .ok (.aload_n 0, 1) := by decide +kernel
theorem dX6_readPairs_27 : decode cX6_readPairs 27 = .ok (.dup, 1) := by decide +kernel
theorem dX6_readPairs_28 : decode cX6_readPairs 28 = .ok (.getfield 22, 3) := by decide +kernel
theorem dX6_readPairs_31 : decode cX6_readPairs 31 = .ok (.iconst 1, 1) := by decide +kernel
theorem dX6_readPairs_32 : decode cX6_readPairs 32 = .ok (.iadd, 1) := by decide +kernel
theorem dX6_readPairs_33 : decode cX6_readPairs 33 = .ok (.putfield 22, 3) := by decide +kernel
theorem dX6_readPairs_36 : decode cX6_readPairs 36 = .ok (.aload_n 0, 1) := by decide +kernel
theorem dX6_readPairs_37 : decode cX6_readPairs 37 = .ok (.invokevirtual 89, 3) := by decide +kernel
theorem dX6_readPairs_40 : decode cX6_readPairs 40 = .ok (.istore_n 1, 1) := by decide +kernel
theorem dX6_readPairs_41 : decode cX6_readPairs 41 = .ok (.iinc 2 1, 3) := by decide +kernel
theorem dX6_readPairs_44 : decode cX6_readPairs 44 = .ok (.goto (-37), 3) := by decide +kernel
theorem dX6_readPairs_47 : decode cX6_readPairs 47 = .ok (.iload_n 1, 1) := by decide +kernel
theorem dX6_readPairs_48 : decode cX6_readPairs 48 = .ok (.ireturn, 1) := by decide +kernel
theorem c_X6_readPairs {a0 : Nat} : CWp S N d MX6_readPairs [.ref a0] I J P Q ↔ Wp S N d MX6_readPairs 0 [some (.ref a0), none, none] [] I J P Q := by
  rw [cwp_iff]
  exact ⟨fun h => h.2, fun h => ⟨Nat.le_of_ble_eq_true rfl, h⟩⟩
theorem e_X6_readPairs_0 {w : Nat} {x1 x2 : Option Value} : Wp S N d MX6_readPairs 0 [some (.ref w), x1, x2] [] I J P Q ↔ Wp S N d MX6_readPairs 1 [some (.ref w), x1, x2] [.ref w] I J P Q := wp_lod (len := 1) rfl rfl rfl rfl dX6_readPairs_0
theorem e_X6_readPairs_1 {v0 : Nat} {x0 x1 x2 : Option Value} : Wp S N (d + 1) MX6_readPairs 1 [x0, x1, x2] [.ref v0] I J P Q ↔ S v0 = 6 ∧ CWp S N d MX6_readPair [.ref v0] I J P (fun r I1 J1 P1 => Wp S N (d + 1) MX6_readPairs 4 [x0, x1, x2] (r.toList ++ []) I1 J1 P1 Q) := wp_callV (M' := MX6_readPair) (As := []) rfl rfl rfl rfl (by decide) (Nat.le_of_ble_eq_true rfl) dX6_readPairs_1
theorem e_X6_readPairs_4 {v0 : Int32} {x0 x1 x2 : Option Value} : Wp S N d MX6_readPairs 4 [x0, x1, x2] [.int v0] I J P Q ↔ Wp S N d MX6_readPairs 5 [kl x0, some (.int v0), x2] [] I J P Q := wp_sto (len := 1) rfl rfl rfl rfl (Nat.le_of_ble_eq_true rfl) rfl dX6_readPairs_4
theorem e_X6_readPairs_5  {x0 x1 x2 : Option Value} : Wp S N d MX6_readPairs 5 [x0, x1, x2] [] I J P Q ↔ Wp S N d MX6_readPairs 6 [x0, x1, x2] [.int 0] I J P Q := wp_iconst (by decide) dX6_readPairs_5
theorem e_X6_readPairs_6 {v0 : Int32} {x0 x1 x2 : Option Value} : Wp S N d MX6_readPairs 6 [x0, x1, x2] [.int v0] I J P Q ↔ Wp S N d MX6_readPairs 7 [x0, kl x1, some (.int v0)] [] I J P Q := wp_sto (len := 1) rfl rfl rfl rfl (Nat.le_of_ble_eq_true rfl) rfl dX6_readPairs_6
theorem e_X6_readPairs_7 {w : Int32} {x0 x1 : Option Value} : Wp S N d MX6_readPairs 7 [x0, x1, some (.int w)] [] I J P Q ↔ Wp S N d MX6_readPairs 8 [x0, x1, some (.int w)] [.int w] I J P Q := wp_lod (len := 1) rfl rfl rfl rfl dX6_readPairs_7
theorem e_X6_readPairs_8 {v0 : Int32} {x0 x1 x2 : Option Value} : Wp S N d MX6_readPairs 8 [x0, x1, x2] [.int v0] I J P Q ↔ Wp S N d MX6_readPairs 10 [x0, x1, x2] [.int 80, .int v0] I J P Q := wp_bipush (by decide) dX6_readPairs_8
theorem e_X6_readPairs_10 {v0 : Int32} {v1 : Int32} {x0 x1 x2 : Option Value} : Wp S N d MX6_readPairs 10 [x0, x1, x2] [.int v0, .int v1] I J P Q ↔ (v0 ≤ v1 → Wp S N d MX6_readPairs 47 [x0, x1, x2] [] I J P Q) ∧ (¬ v0 ≤ v1 → Wp S N d MX6_readPairs 13 [x0, x1, x2] [] I J P Q) := wp_br rfl rfl (by decide) dX6_readPairs_10
theorem e_X6_readPairs_13 {w : Int32} {x0 x2 : Option Value} : Wp S N d MX6_readPairs 13 [x0, some (.int w), x2] [] I J P Q ↔ Wp S N d MX6_readPairs 14 [x0, some (.int w), x2] [.int w] I J P Q := wp_lod (len := 1) rfl rfl rfl rfl dX6_readPairs_13
theorem e_X6_readPairs_14 {v0 : Int32} {x0 x1 x2 : Option Value} : Wp S N d MX6_readPairs 14 [x0, x1, x2] [.int v0] I J P Q ↔ (v0 = 0 → Wp S N d MX6_readPairs 47 [x0, x1, x2] [] I J P Q) ∧ (¬ v0 = 0 → Wp S N d MX6_readPairs 17 [x0, x1, x2] [] I J P Q) := wp_br rfl rfl (by decide) dX6_readPairs_14
theorem e_X6_readPairs_17 {w : Nat} {x1 x2 : Option Value} : Wp S N d MX6_readPairs 17 [some (.ref w), x1, x2] [] I J P Q ↔ Wp S N d MX6_readPairs 18 [some (.ref w), x1, x2] [.ref w] I J P Q := wp_lod (len := 1) rfl rfl rfl rfl dX6_readPairs_17
theorem e_X6_readPairs_18 {v0 : Nat} {x0 x1 x2 : Option Value} : Wp S N (d + 1) MX6_readPairs 18 [x0, x1, x2] [.ref v0] I J P Q ↔ S v0 = 6 ∧ CWp S N d MX6_peek [.ref v0] I J P (fun r I1 J1 P1 => Wp S N (d + 1) MX6_readPairs 21 [x0, x1, x2] (r.toList ++ []) I1 J1 P1 Q) := wp_callV (M' := MX6_peek) (As := []) rfl rfl rfl rfl (by decide) (Nat.le_of_ble_eq_true rfl) dX6_readPairs_18
theorem e_X6_readPairs_21 {v0 : Int32} {x0 x1 x2 : Option Value} : Wp S N d MX6_readPairs 21 [x0, x1, x2] [.int v0] I J P Q ↔ Wp S N d MX6_readPairs 23 [x0, x1, x2] [.int 44, .int v0] I J P Q := wp_bipush (by decide) dX6_readPairs_21
theorem e_X6_readPairs_23 {v0 : Int32} {v1 : Int32} {x0 x1 x2 : Option Value} : Wp S N d MX6_readPairs 23 [x0, x1, x2] [.int v0, .int v1] I J P Q ↔ (¬ v1 = v0 → Wp S N d MX6_readPairs 47 [x0, x1, x2] [] I J P Q) ∧ (v1 = v0 → Wp S N d MX6_readPairs 26 [x0, x1, x2] [] I J P Q) := wp_brn rfl rfl (by decide) dX6_readPairs_23
theorem e_X6_readPairs_26 {w : Nat} {x1 x2 : Option Value} : Wp S N d MX6_readPairs 26 [some (.ref w), x1, x2] [] I J P Q ↔ Wp S N d MX6_readPairs 27 [some (.ref w), x1, x2] [.ref w] I J P Q := wp_lod (len := 1) rfl rfl rfl rfl dX6_readPairs_26
theorem e_X6_readPairs_27 {v0 : Nat} {x0 x1 x2 : Option Value} : Wp S N d MX6_readPairs 27 [x0, x1, x2] [.ref v0] I J P Q ↔ Wp S N d MX6_readPairs 28 [x0, x1, x2] [.ref v0, .ref v0] I J P Q := wp_alu (len := 1) rfl rfl rfl dX6_readPairs_27
theorem e_X6_readPairs_28 {v0 : Nat} {v1 : Nat} {x0 x1 x2 : Option Value} : Wp S N d MX6_readPairs 28 [x0, x1, x2] [.ref v0, .ref v1] I J P Q ↔ S v0 = 6 ∧ Wp S N d MX6_readPairs 31 [x0, x1, x2] [.int (I v0 5), .ref v1] I J P Q := wp_getf rfl rfl rfl rfl dX6_readPairs_28
theorem e_X6_readPairs_31 {v0 : Int32} {v1 : Nat} {x0 x1 x2 : Option Value} : Wp S N d MX6_readPairs 31 [x0, x1, x2] [.int v0, .ref v1] I J P Q ↔ Wp S N d MX6_readPairs 32 [x0, x1, x2] [.int 1, .int v0, .ref v1] I J P Q := wp_iconst (by decide) dX6_readPairs_31
theorem e_X6_readPairs_32 {v0 : Int32} {v1 : Int32} {v2 : Nat} {x0 x1 x2 : Option Value} : Wp S N d MX6_readPairs 32 [x0, x1, x2] [.int v0, .int v1, .ref v2] I J P Q ↔ Wp S N d MX6_readPairs 33 [x0, x1, x2] [.int (v1 + v0), .ref v2] I J P Q := wp_alu (len := 1) rfl rfl rfl dX6_readPairs_32
theorem e_X6_readPairs_33 {v0 : Int32} {v1 : Nat} {x0 x1 x2 : Option Value} : Wp S N d MX6_readPairs 33 [x0, x1, x2] [.int v0, .ref v1] I J P Q ↔ S v1 = 6 ∧ Wp S N d MX6_readPairs 36 [x0, x1, x2] [] (u2 I v1 5 v0) J P Q := wp_putI rfl rfl rfl rfl dX6_readPairs_33
theorem e_X6_readPairs_36 {w : Nat} {x1 x2 : Option Value} : Wp S N d MX6_readPairs 36 [some (.ref w), x1, x2] [] I J P Q ↔ Wp S N d MX6_readPairs 37 [some (.ref w), x1, x2] [.ref w] I J P Q := wp_lod (len := 1) rfl rfl rfl rfl dX6_readPairs_36
theorem e_X6_readPairs_37 {v0 : Nat} {x0 x1 x2 : Option Value} : Wp S N (d + 1) MX6_readPairs 37 [x0, x1, x2] [.ref v0] I J P Q ↔ S v0 = 6 ∧ CWp S N d MX6_readPair [.ref v0] I J P (fun r I1 J1 P1 => Wp S N (d + 1) MX6_readPairs 40 [x0, x1, x2] (r.toList ++ []) I1 J1 P1 Q) := wp_callV (M' := MX6_readPair) (As := []) rfl rfl rfl rfl (by decide) (Nat.le_of_ble_eq_true rfl) dX6_readPairs_37
theorem e_X6_readPairs_40 {v0 : Int32} {x0 x1 x2 : Option Value} : Wp S N d MX6_readPairs 40 [x0, x1, x2] [.int v0] I J P Q ↔ Wp S N d MX6_readPairs 41 [kl x0, some (.int v0), x2] [] I J P Q := wp_sto (len := 1) rfl rfl rfl rfl (Nat.le_of_ble_eq_true rfl) rfl dX6_readPairs_40
theorem e_X6_readPairs_41 {w : Int32} {x0 x1 : Option Value} : Wp S N d MX6_readPairs 41 [x0, x1, some (.int w)] [] I J P Q ↔ Wp S N d MX6_readPairs 44 [x0, kl x1, some (.int (w + 1))] [] I J P Q := wp_inc rfl rfl dX6_readPairs_41
theorem e_X6_readPairs_44  {x0 x1 x2 : Option Value} : Wp S N d MX6_readPairs 44 [x0, x1, x2] [] I J P Q ↔ Wp S N d MX6_readPairs 7 [x0, x1, x2] [] I J P Q := wp_go (len := 3) rfl (fun _ _ => rfl) rfl (by decide) dX6_readPairs_44
theorem e_X6_readPairs_47 {w : Int32} {x0 x2 : Option Value} : Wp S N d MX6_readPairs 47 [x0, some (.int w), x2] [] I J P Q ↔ Wp S N d MX6_readPairs 48 [x0, some (.int w), x2] [.int w] I J P Q := wp_lod (len := 1) rfl rfl rfl rfl dX6_readPairs_47
theorem e_X6_readPairs_48 {v0 : Int32} (hb : isB v0) {x0 x1 x2 : Option Value} : Wp S N d MX6_readPairs 48 [x0, x1, x2] [.int v0] I J P Q ↔ Q (some (.int v0)) I J P := wp_zret rfl dX6_readPairs_48 hb
theorem dX6_readPair_0 : decode cX6_readPair 0 = .ok (.aload_n 0, 1) := by decide +kernel
theorem dX6_readPair_1 : decode cX6_readPair 1 = .ok (.invokevirtual 92, 3) := by decide +kernel
theorem dX6_readPair_4 : decode cX6_readPair 4 = .ok (.ifCond .eq 23, 3) := by decide +kernel
theorem dX6_readPair_7 : decode cX6_readPair 7 = .ok (.aload_n 0, 1) := by decide +kernel
theorem dX6_readPair_8 : decode cX6_readPair 8 = .ok (.bipush 58, 2) := by decide +kernel
theorem dX6_readPair_10 : decode cX6_readPair 10 = .ok (.invokevirtual 39, 3) := by decide +kernel
theorem dX6_readPair_13 : decode cX6_readPair 13 = .ok (.ifCond .eq 14, 3) := by decide +kernel
theorem dX6_readPair_16 : decode cX6_readPair 16 = .ok (.aload_n 0, 1) := by decide +kernel
theorem dX6_readPair_17 : decode cX6_readPair 17 = .ok (.invokevirtual 92, 3) := by decide +kernel
theorem dX6_readPair_20 : decode cX6_readPair 20 = .ok (.ifCond .eq 7, 3) := by decide +kernel
theorem dX6_readPair_23 : decode cX6_readPair 23 = .ok (.iconst 1, 1) := by decide +kernel
theorem dX6_readPair_24 : decode cX6_readPair 24 = .ok (.goto 4, 3) := by decide +kernel
theorem dX6_readPair_27 : decode cX6_readPair 27 = .ok (.iconst 0, 1) := by decide +kernel
theorem dX6_readPair_28 : decode cX6_readPair 28 = .ok (.ireturn, 1) := by decide +kernel
theorem c_X6_readPair {a0 : Nat} : CWp S N d MX6_readPair [.ref a0] I J P Q ↔ Wp S N d MX6_readPair 0 [some (.ref a0)] [] I J P Q := by
  rw [cwp_iff]
  exact ⟨fun h => h.2, fun h => ⟨Nat.le_of_ble_eq_true rfl, h⟩⟩
theorem e_X6_readPair_0 {w : Nat} : Wp S N d MX6_readPair 0 [some (.ref w)] [] I J P Q ↔ Wp S N d MX6_readPair 1 [some (.ref w)] [.ref w] I J P Q := wp_lod (len := 1) rfl rfl rfl rfl dX6_readPair_0
theorem e_X6_readPair_1 {v0 : Nat} {x0 : Option Value} : Wp S N (d + 1) MX6_readPair 1 [x0] [.ref v0] I J P Q ↔ S v0 = 6 ∧ CWp S N d MX6_readNumber [.ref v0] I J P (fun r I1 J1 P1 => Wp S N (d + 1) MX6_readPair 4 [x0] (r.toList ++ []) I1 J1 P1 Q) := wp_callV (M' := MX6_readNumber) (As := []) rfl rfl rfl rfl (by decide) (Nat.le_of_ble_eq_true rfl) dX6_readPair_1
theorem e_X6_readPair_4 {v0 : Int32} {x0 : Option Value} : Wp S N d MX6_readPair 4 [x0] [.int v0] I J P Q ↔ (v0 = 0 → Wp S N d MX6_readPair 27 [x0] [] I J P Q) ∧ (¬ v0 = 0 → Wp S N d MX6_readPair 7 [x0] [] I J P Q) := wp_br rfl rfl (by decide) dX6_readPair_4
theorem e_X6_readPair_7 {w : Nat} : Wp S N d MX6_readPair 7 [some (.ref w)] [] I J P Q ↔ Wp S N d MX6_readPair 8 [some (.ref w)] [.ref w] I J P Q := wp_lod (len := 1) rfl rfl rfl rfl dX6_readPair_7
theorem e_X6_readPair_8 {v0 : Nat} {x0 : Option Value} : Wp S N d MX6_readPair 8 [x0] [.ref v0] I J P Q ↔ Wp S N d MX6_readPair 10 [x0] [.int 58, .ref v0] I J P Q := wp_bipush (by decide) dX6_readPair_8
theorem e_X6_readPair_10 {v0 : Int32} {v1 : Nat} {x0 : Option Value} : Wp S N (d + 1) MX6_readPair 10 [x0] [.int v0, .ref v1] I J P Q ↔ S v1 = 6 ∧ CWp S N d MX6_skip [.ref v1, .int v0] I J P (fun r I1 J1 P1 => Wp S N (d + 1) MX6_readPair 13 [x0] (r.toList ++ []) I1 J1 P1 Q) := wp_callV (M' := MX6_skip) (As := [.int v0]) rfl rfl rfl rfl (by decide) (Nat.le_of_ble_eq_true rfl) dX6_readPair_10
theorem e_X6_readPair_13 {v0 : Int32} {x0 : Option Value} : Wp S N d MX6_readPair 13 [x0] [.int v0] I J P Q ↔ (v0 = 0 → Wp S N d MX6_readPair 27 [x0] [] I J P Q) ∧ (¬ v0 = 0 → Wp S N d MX6_readPair 16 [x0] [] I J P Q) := wp_br rfl rfl (by decide) dX6_readPair_13
theorem e_X6_readPair_16 {w : Nat} : Wp S N d MX6_readPair 16 [some (.ref w)] [] I J P Q ↔ Wp S N d MX6_readPair 17 [some (.ref w)] [.ref w] I J P Q := wp_lod (len := 1) rfl rfl rfl rfl dX6_readPair_16
theorem e_X6_readPair_17 {v0 : Nat} {x0 : Option Value} : Wp S N (d + 1) MX6_readPair 17 [x0] [.ref v0] I J P Q ↔ S v0 = 6 ∧ CWp S N d MX6_readNumber [.ref v0] I J P (fun r I1 J1 P1 => Wp S N (d + 1) MX6_readPair 20 [x0] (r.toList ++ []) I1 J1 P1 Q) := wp_callV (M' := MX6_readNumber) (As := []) rfl rfl rfl rfl (by decide) (Nat.le_of_ble_eq_true rfl) dX6_readPair_17
theorem e_X6_readPair_20 {v0 : Int32} {x0 : Option Value} : Wp S N d MX6_readPair 20 [x0] [.int v0] I J P Q ↔ (v0 = 0 → Wp S N d MX6_readPair 27 [x0] [] I J P Q) ∧ (¬ v0 = 0 → Wp S N d MX6_readPair 23 [x0] [] I J P Q) := wp_br rfl rfl (by decide) dX6_readPair_20
theorem e_X6_readPair_23  {x0 : Option Value} : Wp S N d MX6_readPair 23 [x0] [] I J P Q ↔ Wp S N d MX6_readPair 24 [x0] [.int 1] I J P Q := wp_iconst (by decide) dX6_readPair_23
theorem e_X6_readPair_24 {v0 : Int32} {x0 : Option Value} : Wp S N d MX6_readPair 24 [x0] [.int v0] I J P Q ↔ Wp S N d MX6_readPair 28 [x0] [.int v0] I J P Q := wp_go (len := 3) rfl (fun _ _ => rfl) rfl (by decide) dX6_readPair_24
theorem e_X6_readPair_27  {x0 : Option Value} : Wp S N d MX6_readPair 27 [x0] [] I J P Q ↔ Wp S N d MX6_readPair 28 [x0] [.int 0] I J P Q := wp_iconst (by decide) dX6_readPair_27
theorem e_X6_readPair_28 {v0 : Int32} (hb : isB v0) {x0 : Option Value} : Wp S N d MX6_readPair 28 [x0] [.int v0] I J P Q ↔ Q (some (.int v0)) I J P := wp_zret rfl dX6_readPair_28 hb
theorem dX6_readList_0 : decode cX6_readList 0 = .ok (.aload_n 0, 1) := by decide +kernel
theorem dX6_readList_1 : decode cX6_readList 1 = .ok (.invokevirtual 92, 3) := by decide +kernel
theorem dX6_readList_4 : decode cX6_readList 4 = .ok (.istore_n 2, 1) := by decide +kernel
theorem dX6_readList_5 : decode cX6_readList 5 = .ok (.iconst 1, 1) := by decide +kernel
theorem dX6_readList_6 : decode cX6_readList 6 = .ok (.istore_n 3, 1) := by decide +kernel
theorem dX6_readList_7 : decode cX6_readList 7 = .ok (.iload_n 3, 1) := by decide +kernel
theorem dX6_readList_8 : decode cX6_readList 8 = .ok (.iload_n 1, 1) := by decide +kernel
theorem dX6_readList_9 : decode cX6_readList 9 = .ok (.if_icmp .ge 35, 3) := by decide +kernel
theorem dX6_readList_12 : decode cX6_readList 12 = .ok (.iload_n 2, 1) := by decide +kernel
theorem dX6_readList_13 : decode cX6_readList 13 = .ok (.ifCond .eq 31, 3) := by decide +kernel
theorem dX6_readList_16 : decode cX6_readList 16 = .ok (.aload_n 0, 1) := by decide +kernel
theorem dX6_readList_17 : decode cX6_readList 17 = .ok (.bipush 44, 2) := by decide +kernel
theorem dX6_readList_19 : decode cX6_readList 19 = .ok (.invokevirtual 39, 3) := by decide +kernel
theorem dX6_readList_22 : decode cX6_readList 22 = .ok (.ifCond .eq 14, 3) := by decide +kernel
theorem dX6_readList_25 : decode cX6_readList 25 = .ok (.aload_n 0, 1) := by decide +kernel
theorem dX6_readList_26 : decode cX6_readList 26 = .ok (.invokevirtual 92, 3) := by decide +kernel
theorem dX6_readList_29 : decode cX6_readList 29 = .ok (.ifCond .eq 7, 3) := by decide +kernel
theorem dX6_readList_32 : decode cX6_readList 32 = .ok (.iconst 1, 1) := by decide +kernel
theorem dX6_readList_33 : decode cX6_readList 33 = .ok (.goto 4, 3) := by decide +kernel
theorem dX6_readList_36 : decode cX6_readList 36 = .ok (.iconst 0, 1) := by decide +kernel
theorem dX6_readList_37 : decode cX6_readList 37 = .ok (.istore_n 2, 1) := by decide +kernel
theorem dX6_readList_38 : decode cX6_readList 38 = .ok (.iinc 3 1, 3) := by decide +kernel
theorem dX6_readList_41 : decode cX6_readList 41 = .ok (.goto (-34), 3) := by decide +kernel
theorem dX6_readList_44 : decode cX6_readList 44 = .ok (.iload_n 2, 1) := by decide +kernel
theorem dX6_readList_45 : decode cX6_readList 45 = .ok (.ireturn, 1) := by decide +kernel
theorem c_X6_readList {a0 : Nat} {a1 : Int32} : CWp S N d MX6_readList [.ref a0, .int a1] I J P Q ↔ Wp S N d MX6_readList 0 [some (.ref a0), some (.int a1), none, none] [] I J P Q := by
  rw [cwp_iff]
  exact ⟨fun h => h.2, fun h => ⟨Nat.le_of_ble_eq_true rfl, h⟩⟩
theorem e_X6_readList_0 {w : Nat} {x1 x2 x3 : Option Value} : Wp S N d MX6_readList 0 [some (.ref w), x1, x2, x3] [] I J P Q ↔ Wp S N d MX6_readList 1 [some (.ref w), x1, x2, x3] [.ref w] I J P Q := wp_lod (len := 1) rfl rfl rfl rfl dX6_readList_0
theorem e_X6_readList_1 {v0 : Nat} {x0 x1 x2 x3 : Option Value} : Wp S N (d + 1) MX6_readList 1 [x0, x1, x2, x3] [.ref v0] I J P Q ↔ S v0 = 6 ∧ CWp S N d MX6_readNumber [.ref v0] I J P (fun r I1 J1 P1 => Wp S N (d + 1) MX6_readList 4 [x0, x1, x2, x3] (r.toList ++ []) I1 J1 P1 Q) := wp_callV (M' := MX6_readNumber) (As := []) rfl rfl rfl rfl (by decide) (Nat.le_of_ble_eq_true rfl) dX6_readList_1
theorem e_X6_readList_4 {v0 : Int32} {x0 x1 x2 x3 : Option Value} : Wp S N d MX6_readList 4 [x0, x1, x2, x3] [.int v0] I J P Q ↔ Wp S N d MX6_readList 5 [x0, kl x1, some (.int v0), x3] [] I J P Q := wp_sto (len := 1) rfl rfl rfl rfl (Nat.le_of_ble_eq_true rfl) rfl dX6_readList_4
theorem e_X6_readList_5  {x0 x1 x2 x3 : Option Value} : Wp S N d MX6_readList 5 [x0, x1, x2, x3] [] I J P Q ↔ Wp S N d MX6_readList 6 [x0, x1, x2, x3] [.int 1] I J P Q := wp_iconst (by decide) dX6_readList_5
theorem e_X6_readList_6 {v0 : Int32} {x0 x1 x2 x3 : Option Value} : Wp S N d MX6_readList 6 [x0, x1, x2, x3] [.int v0] I J P Q ↔ Wp S N d MX6_readList 7 [x0, x1, kl x2, some (.int v0)] [] I J P Q := wp_sto (len := 1) rfl rfl rfl rfl (Nat.le_of_ble_eq_true rfl) rfl dX6_readList_6
theorem e_X6_readList_7 {w : Int32} {x0 x1 x2 : Option Value} : Wp S N d MX6_readList 7 [x0, x1, x2, some (.int w)] [] I J P Q ↔ Wp S N d MX6_readList 8 [x0, x1, x2, some (.int w)] [.int w] I J P Q := wp_lod (len := 1) rfl rfl rfl rfl dX6_readList_7
theorem e_X6_readList_8 {v0 : Int32} {w : Int32} {x0 x2 x3 : Option Value} : Wp S N d MX6_readList 8 [x0, some (.int w), x2, x3] [.int v0] I J P Q ↔ Wp S N d MX6_readList 9 [x0, some (.int w), x2, x3] [.int w, .int v0] I J P Q := wp_lod (len := 1) rfl rfl rfl rfl dX6_readList_8
theorem e_X6_readList_9 {v0 : Int32} {v1 : Int32} {x0 x1 x2 x3 : Option Value} : Wp S N d MX6_readList 9 [x0, x1, x2, x3] [.int v0, .int v1] I J P Q ↔ (v0 ≤ v1 → Wp S N d MX6_readList 44 [x0, x1, x2, x3] [] I J P Q) ∧ (¬ v0 ≤ v1 → Wp S N d MX6_readList 12 [x0, x1, x2, x3] [] I J P Q) := wp_br rfl rfl (by decide) dX6_readList_9
theorem e_X6_readList_12 {w : Int32} {x0 x1 x3 : Option Value} : Wp S N d MX6_readList 12 [x0, x1, some (.int w), x3] [] I J P Q ↔ Wp S N d MX6_readList 13 [x0, x1, some (.int w), x3] [.int w] I J P Q := wp_lod (len := 1) rfl rfl rfl rfl dX6_readList_12
theorem e_X6_readList_13 {v0 : Int32} {x0 x1 x2 x3 : Option Value} : Wp S N d MX6_readList 13 [x0, x1, x2, x3] [.int v0] I J P Q ↔ (v0 = 0 → Wp S N d MX6_readList 44 [x0, x1, x2, x3] [] I J P Q) ∧ (¬ v0 = 0 → Wp S N d MX6_readList 16 [x0, x1, x2, x3] [] I J P Q) := wp_br rfl rfl (by decide) dX6_readList_13
theorem e_X6_readList_16 {w : Nat} {x1 x2 x3 : Option Value} : Wp S N d MX6_readList 16 [some (.ref w), x1, x2, x3] [] I J P Q ↔ Wp S N d MX6_readList 17 [some (.ref w), x1, x2, x3] [.ref w] I J P Q := wp_lod (len := 1) rfl rfl rfl rfl dX6_readList_16
theorem e_X6_readList_17 {v0 : Nat} {x0 x1 x2 x3 : Option Value} : Wp S N d MX6_readList 17 [x0, x1, x2, x3] [.ref v0] I J P Q ↔ Wp S N d MX6_readList 19 [x0, x1, x2, x3] [.int 44, .ref v0] I J P Q := wp_bipush (by decide) dX6_readList_17
theorem e_X6_readList_19 {v0 : Int32} {v1 : Nat} {x0 x1 x2 x3 : Option Value} : Wp S N (d + 1) MX6_readList 19 [x0, x1, x2, x3] [.int v0, .ref v1] I J P Q ↔ S v1 = 6 ∧ CWp S N d MX6_skip [.ref v1, .int v0] I J P (fun r I1 J1 P1 => Wp S N (d + 1) MX6_readList 22 [x0, x1, x2, x3] (r.toList ++ []) I1 J1 P1 Q) := wp_callV (M' := MX6_skip) (As := [.int v0]) rfl rfl rfl rfl (by decide) (Nat.le_of_ble_eq_true rfl) dX6_readList_19
theorem e_X6_readList_22 {v0 : Int32} {x0 x1 x2 x3 : Option Value} : Wp S N d MX6_readList 22 [x0, x1, x2, x3] [.int v0] I J P Q ↔ (v0 = 0 → Wp S N d MX6_readList 36 [x0, x1, x2, x3] [] I J P Q) ∧ (¬ v0 = 0 → Wp S N d MX6_readList 25 [x0, x1, x2, x3] [] I J P Q) := wp_br rfl rfl (by decide) dX6_readList_22
theorem e_X6_readList_25 {w : Nat} {x1 x2 x3 : Option Value} : Wp S N d MX6_readList 25 [some (.ref w), x1, x2, x3] [] I J P Q ↔ Wp S N d MX6_readList 26 [some (.ref w), x1, x2, x3] [.ref w] I J P Q := wp_lod (len := 1) rfl rfl rfl rfl dX6_readList_25
theorem e_X6_readList_26 {v0 : Nat} {x0 x1 x2 x3 : Option Value} : Wp S N (d + 1) MX6_readList 26 [x0, x1, x2, x3] [.ref v0] I J P Q ↔ S v0 = 6 ∧ CWp S N d MX6_readNumber [.ref v0] I J P (fun r I1 J1 P1 => Wp S N (d + 1) MX6_readList 29 [x0, x1, x2, x3] (r.toList ++ []) I1 J1 P1 Q) := wp_callV (M' := MX6_readNumber) (As := []) rfl rfl rfl rfl (by decide) (Nat.le_of_ble_eq_true rfl) dX6_readList_26
theorem e_X6_readList_29 {v0 : Int32} {x0 x1 x2 x3 : Option Value} : Wp S N d MX6_readList 29 [x0, x1, x2, x3] [.int v0] I J P Q ↔ (v0 = 0 → Wp S N d MX6_readList 36 [x0, x1, x2, x3] [] I J P Q) ∧ (¬ v0 = 0 → Wp S N d MX6_readList 32 [x0, x1, x2, x3] [] I J P Q) := wp_br rfl rfl (by decide) dX6_readList_29
theorem e_X6_readList_32  {x0 x1 x2 x3 : Option Value} : Wp S N d MX6_readList 32 [x0, x1, x2, x3] [] I J P Q ↔ Wp S N d MX6_readList 33 [x0, x1, x2, x3] [.int 1] I J P Q := wp_iconst (by decide) dX6_readList_32
theorem e_X6_readList_33 {v0 : Int32} {x0 x1 x2 x3 : Option Value} : Wp S N d MX6_readList 33 [x0, x1, x2, x3] [.int v0] I J P Q ↔ Wp S N d MX6_readList 37 [x0, x1, x2, x3] [.int v0] I J P Q := wp_go (len := 3) rfl (fun _ _ => rfl) rfl (by decide) dX6_readList_33
theorem e_X6_readList_36  {x0 x1 x2 x3 : Option Value} : Wp S N d MX6_readList 36 [x0, x1, x2, x3] [] I J P Q ↔ Wp S N d MX6_readList 37 [x0, x1, x2, x3] [.int 0] I J P Q := wp_iconst (by decide) dX6_readList_36
theorem e_X6_readList_37 {v0 : Int32} {x0 x1 x2 x3 : Option Value} : Wp S N d MX6_readList 37 [x0, x1, x2, x3] [.int v0] I J P Q ↔ Wp S N d MX6_readList 38 [x0, kl x1, some (.int v0), x3] [] I J P Q := wp_sto (len := 1) rfl rfl rfl rfl (Nat.le_of_ble_eq_true rfl) rfl dX6_readList_37
theorem e_X6_readList_38 {w : Int32} {x0 x1 x2 : Option Value} : Wp S N d MX6_readList 38 [x0, x1, x2, some (.int w)] [] I J P Q ↔ Wp S N d MX6_readList 41 [x0, x1, kl x2, some (.int (w + 1))] [] I J P Q := wp_inc rfl rfl dX6_readList_38
theorem e_X6_readList_41  {x0 x1 x2 x3 : Option Value} : Wp S N d MX6_readList 41 [x0, x1, x2, x3] [] I J P Q ↔ Wp S N d MX6_readList 7 [x0, x1, x2, x3] [] I J P Q := wp_go (len := 3) rfl (fun _ _ => rfl) rfl (by decide) dX6_readList_41
theorem e_X6_readList_44 {w : Int32} {x0 x1 x3 : Option Value} : Wp S N d MX6_readList 44 [x0, x1, some (.int w), x3] [] I J P Q ↔ Wp S N d MX6_readList 45 [x0, x1, some (.int w), x3] [.int w] I J P Q := wp_lod (len := 1) rfl rfl rfl rfl dX6_readList_44
theorem e_X6_readList_45 {v0 : Int32} (hb : isB v0) {x0 x1 x2 x3 : Option Value} : Wp S N d MX6_readList 45 [x0, x1, x2, x3] [.int v0] I J P Q ↔ Q (some (.int v0)) I J P := wp_zret rfl dX6_readList_45 hb
theorem dX6_readNumber_0 : decode cX6_readNumber 0 = .ok (.iconst 0, 1) := by decide +kernel
theorem dX6_readNumber_1 : decode cX6_readNumber 1 = .ok (.istore_n 1, 1) := by decide +kernel
theorem dX6_readNumber_2 : decode cX6_readNumber 2 = .ok (.iconst 0, 1) := by decide +kernel
theorem dX6_readNumber_3 : decode cX6_readNumber 3 = .ok (.istore_n 2, 1) := by decide +kernel
theorem dX6_readNumber_4 : decode cX6_readNumber 4 = .ok (.iload_n 2, 1) := by decide +kernel
theorem dX6_readNumber_5 : decode cX6_readNumber 5 = .ok (.iconst 4, 1) := by decide +kernel
theorem dX6_readNumber_6 : decode cX6_readNumber 6 = .ok (.if_icmp .ge 50, 3) := by decide +kernel
theorem dX6_readNumber_9 : decode cX6_readNumber 9 = .ok (.aload_n 0, 1) := by decide +kernel
theorem dX6_readNumber_10 : decode cX6_readNumber 10 = .ok (.invokevirtual 43, 3) := by decide +kernel
theorem dX6_readNumber_13 : decode cX6_readNumber 13 = .ok (.bipush 48, 2) := by decide +kernel
theorem dX6_readNumber_15 : decode cX6_readNumber 15 = .ok (.if_icmp .lt 41, 3) := by decide +kernel
theorem dX6_readNumber_18 : decode cX6_readNumber 18 = .ok (.aload_n 0, 1) := by decide +kernel
theorem dX6_readNumber_19 : decode cX6_readNumber 19 = .ok (.invokevirtual 43, 3) := by decide +kernel
theorem dX6_readNumber_22 : decode cX6_readNumber 22 = .ok (.bipush 57, 2) := by decide +kernel
theorem dX6_readNumber_24 : decode cX6_readNumber 24 = .ok (.if_icmp .gt 32, 3) := by decide +kernel
theorem dX6_readNumber_27 : decode cX6_readNumber 27 = .ok (.bipush 10, 2) := by decide +kernel
theorem dX6_readNumber_29 : decode cX6_readNumber 29 = .ok (.iload_n 1, 1) := by decide +kernel
theorem dX6_readNumber_30 : decode cX6_readNumber 30 = .ok (.imul, 1) := by decide +kernel
theorem dX6_readNumber_31 : decode cX6_readNumber 31 = .ok (.aload_n 0, 1) := by decide +kernel
theorem dX6_readNumber_32 : decode cX6_readNumber 32 = .ok (.invokevirtual 43, 3) := by decide +kernel
theorem dX6_readNumber_35 : decode cX6_readNumber 35 = .ok (.iadd, 1) := by decide +kernel
theorem dX6_readNumber_36 : decode cX6_readNumber 36 = .ok (.bipush 48, 2) := by decide +kernel
theorem dX6_readNumber_38 : decode cX6_readNumber 38 = .ok (.isub, 1) := by decide +kernel
theorem dX6_readNumber_39 : decode cX6_readNumber 39 = .ok (.istore_n 1, 1) := by decide +kernel
theorem dX6_readNumber_40 : decode cX6_readNumber 40 = .ok (.aload_n 0, 1) := by decide +kernel
theorem dX6_readNumber_41 : decode cX6_readNumber 41 = .ok (.dup, 1) := by decide +kernel
theorem dX6_readNumber_42 : decode cX6_readNumber 42 = .ok (.getfield 22, 3) := by decide +kernel
theorem dX6_readNumber_45 : decode cX6_readNumber 45 = .ok (.iconst 1, 1) := by decide +kernel
theorem dX6_readNumber_46 : decode cX6_readNumber 46 = .ok (.iadd, 1) := by decide +kernel
theorem dX6_readNumber_47 : decode cX6_readNumber 47 = .ok (.putfield 22, 3) := by decide +kernel
theorem dX6_readNumber_50 : decode cX6_readNumber 50 = .ok (.iinc 2 1, 3) := by decide +kernel
theorem dX6_readNumber_53 : decode cX6_readNumber 53 = .ok (.goto (-49), 3) := by decide +kernel
theorem dX6_readNumber_56 : decode cX6_readNumber 56 = .ok (.iload_n 2, 1) := by decide +kernel
theorem dX6_readNumber_57 : decode cX6_readNumber 57 = .ok (.ifCond .eq 12, 3) := by decide +kernel
theorem dX6_readNumber_60 : decode cX6_readNumber 60 = .ok (.aload_n 0, 1) := by decide +kernel
theorem dX6_readNumber_61 : decode cX6_readNumber 61 = .ok (.getfield 51, 3) := by decide +kernel
theorem dX6_readNumber_64 : decode cX6_readNumber 64 = .ok (.bipush 80, 2) := by decide +kernel
theorem dX6_readNumber_66 : decode cX6_readNumber 66 = .ok (.if_icmp .lt 5, 3) := by decide +kernel
theorem dX6_readNumber_69 : decode cX6_readNumber 69 = .ok (.iconst 0, 1) := by decide +kernel
theorem dX6_readNumber_70 : decode cX6_readNumber 70 = .ok (.ireturn, 1) := by decide +kernel
theorem dX6_readNumber_71 : decode cX6_readNumber 71 = .ok (.aload_n 0, 1) := by decide +kernel
theorem dX6_readNumber_72 : decode cX6_readNumber 72 = .ok (.getfield 19, 3) := by decide +kernel
theorem dX6_readNumber_75 : decode cX6_readNumber 75 = .ok (.aload_n 0, 1) := by decide +kernel
theorem dX6_readNumber_76 : decode cX6_readNumber 76 = .ok (.getfield 51, 3) := by decide +kernel
theorem dX6_readNumber_79 : decode cX6_readNumber 79 = .ok (.iload_n 1, 1) := by decide +kernel
theorem dX6_readNumber_80 : decode cX6_readNumber 80 = .ok (.iastore, 1) := by decide +kernel
theorem dX6_readNumber_81 : decode cX6_readNumber 81 = .ok (.aload_n 0, 1) := by decide +kernel
theorem dX6_readNumber_82 : decode cX6_readNumber 82 = .ok (.dup, 1) := by decide +kernel
theorem dX6_readNumber_83 : decode cX6_readNumber 83 = .ok (.getfield 51, 3) := by decide +kernel
theorem dX6_readNumber_86 : decode cX6_readNumber 86 = .ok (.iconst 1, 1) := by decide +kernel
theorem dX6_readNumber_87 : decode cX6_readNumber 87 = .ok (.iadd, 1) := by decide +kernel
theorem dX6_readNumber_88 : decode cX6_readNumber 88 = .ok (.putfield 51, 3) := by decide +kernel
theorem dX6_readNumber_91 : decode cX6_readNumber 91 = .ok (.iconst 1, 1) := by decide +kernel
theorem dX6_readNumber_92 : decode cX6_readNumber 92 = .ok (.ireturn, 1) := by decide +kernel
theorem c_X6_readNumber {a0 : Nat} : CWp S N d MX6_readNumber [.ref a0] I J P Q ↔ Wp S N d MX6_readNumber 0 [some (.ref a0), none, none] [] I J P Q := by
  rw [cwp_iff]
  exact ⟨fun h => h.2, fun h => ⟨Nat.le_of_ble_eq_true rfl, h⟩⟩
theorem e_X6_readNumber_0  {x0 x1 x2 : Option Value} : Wp S N d MX6_readNumber 0 [x0, x1, x2] [] I J P Q ↔ Wp S N d MX6_readNumber 1 [x0, x1, x2] [.int 0] I J P Q := wp_iconst (by decide) dX6_readNumber_0
theorem e_X6_readNumber_1 {v0 : Int32} {x0 x1 x2 : Option Value} : Wp S N d MX6_readNumber 1 [x0, x1, x2] [.int v0] I J P Q ↔ Wp S N d MX6_readNumber 2 [kl x0, some (.int v0), x2] [] I J P Q := wp_sto (len := 1) rfl rfl rfl rfl (Nat.le_of_ble_eq_true rfl) rfl dX6_readNumber_1
theorem e_X6_readNumber_2  {x0 x1 x2 : Option Value} : Wp S N d MX6_readNumber 2 [x0, x1, x2] [] I J P Q ↔ Wp S N d MX6_readNumber 3 [x0, x1, x2] [.int 0] I J P Q := wp_iconst (by decide) dX6_readNumber_2
theorem e_X6_readNumber_3 {v0 : Int32} {x0 x1 x2 : Option Value} : Wp S N d MX6_readNumber 3 [x0, x1, x2] [.int v0] I J P Q ↔ Wp S N d MX6_readNumber 4 [x0, kl x1, some (.int v0)] [] I J P Q := wp_sto (len := 1) rfl rfl rfl rfl (Nat.le_of_ble_eq_true rfl) rfl dX6_readNumber_3
theorem e_X6_readNumber_4 {w : Int32} {x0 x1 : Option Value} : Wp S N d MX6_readNumber 4 [x0, x1, some (.int w)] [] I J P Q ↔ Wp S N d MX6_readNumber 5 [x0, x1, some (.int w)] [.int w] I J P Q := wp_lod (len := 1) rfl rfl rfl rfl dX6_readNumber_4
theorem e_X6_readNumber_5 {v0 : Int32} {x0 x1 x2 : Option Value} : Wp S N d MX6_readNumber 5 [x0, x1, x2] [.int v0] I J P Q ↔ Wp S N d MX6_readNumber 6 [x0, x1, x2] [.int 4, .int v0] I J P Q := wp_iconst (by decide) dX6_readNumber_5
theorem e_X6_readNumber_6 {v0 : Int32} {v1 : Int32} {x0 x1 x2 : Option Value} : Wp S N d MX6_readNumber 6 [x0, x1, x2] [.int v0, .int v1] I J P Q ↔ (v0 ≤ v1 → Wp S N d MX6_readNumber 56 [x0, x1, x2] [] I J P Q) ∧ (¬ v0 ≤ v1 → Wp S N d MX6_readNumber 9 [x0, x1, x2] [] I J P Q) := wp_br rfl rfl (by decide) dX6_readNumber_6
theorem e_X6_readNumber_9 {w : Nat} {x1 x2 : Option Value} : Wp S N d MX6_readNumber 9 [some (.ref w), x1, x2] [] I J P Q ↔ Wp S N d MX6_readNumber 10 [some (.ref w), x1, x2] [.ref w] I J P Q := wp_lod (len := 1) rfl rfl rfl rfl dX6_readNumber_9
theorem e_X6_readNumber_10 {v0 : Nat} {x0 x1 x2 : Option Value} : Wp S N (d + 1) MX6_readNumber 10 [x0, x1, x2] [.ref v0] I J P Q ↔ S v0 = 6 ∧ CWp S N d MX6_peek [.ref v0] I J P (fun r I1 J1 P1 => Wp S N (d + 1) MX6_readNumber 13 [x0, x1, x2] (r.toList ++ []) I1 J1 P1 Q) := wp_callV (M' := MX6_peek) (As := []) rfl rfl rfl rfl (by decide) (Nat.le_of_ble_eq_true rfl) dX6_readNumber_10
theorem e_X6_readNumber_13 {v0 : Int32} {x0 x1 x2 : Option Value} : Wp S N d MX6_readNumber 13 [x0, x1, x2] [.int v0] I J P Q ↔ Wp S N d MX6_readNumber 15 [x0, x1, x2] [.int 48, .int v0] I J P Q := wp_bipush (by decide) dX6_readNumber_13
theorem e_X6_readNumber_15 {v0 : Int32} {v1 : Int32} {x0 x1 x2 : Option Value} : Wp S N d MX6_readNumber 15 [x0, x1, x2] [.int v0, .int v1] I J P Q ↔ (v1 < v0 → Wp S N d MX6_readNumber 56 [x0, x1, x2] [] I J P Q) ∧ (¬ v1 < v0 → Wp S N d MX6_readNumber 18 [x0, x1, x2] [] I J P Q) := wp_br rfl rfl (by decide) dX6_readNumber_15
theorem e_X6_readNumber_18 {w : Nat} {x1 x2 : Option Value} : Wp S N d MX6_readNumber 18 [some (.ref w), x1, x2] [] I J P Q ↔ Wp S N d MX6_readNumber 19 [some (.ref w), x1, x2] [.ref w] I J P Q := wp_lod (len := 1) rfl rfl rfl rfl dX6_readNumber_18
theorem e_X6_readNumber_19 {v0 : Nat} {x0 x1 x2 : Option Value} : Wp S N (d + 1) MX6_readNumber 19 [x0, x1, x2] [.ref v0] I J P Q ↔ S v0 = 6 ∧ CWp S N d MX6_peek [.ref v0] I J P (fun r I1 J1 P1 => Wp S N (d + 1) MX6_readNumber 22 [x0, x1, x2] (r.toList ++ []) I1 J1 P1 Q) := wp_callV (M' := MX6_peek) (As := []) rfl rfl rfl rfl (by decide) (Nat.le_of_ble_eq_true rfl) dX6_readNumber_19
theorem e_X6_readNumber_22 {v0 : Int32} {x0 x1 x2 : Option Value} : Wp S N d MX6_readNumber 22 [x0, x1, x2] [.int v0] I J P Q ↔ Wp S N d MX6_readNumber 24 [x0, x1, x2] [.int 57, .int v0] I J P Q := wp_bipush (by decide) dX6_readNumber_22
theorem e_X6_readNumber_24 {v0 : Int32} {v1 : Int32} {x0 x1 x2 : Option Value} : Wp S N d MX6_readNumber 24 [x0, x1, x2] [.int v0, .int v1] I J P Q ↔ (v0 < v1 → Wp S N d MX6_readNumber 56 [x0, x1, x2] [] I J P Q) ∧ (¬ v0 < v1 → Wp S N d MX6_readNumber 27 [x0, x1, x2] [] I J P Q) := wp_br rfl rfl (by decide) dX6_readNumber_24
theorem e_X6_readNumber_27  {x0 x1 x2 : Option Value} : Wp S N d MX6_readNumber 27 [x0, x1, x2] [] I J P Q ↔ Wp S N d MX6_readNumber 29 [x0, x1, x2] [.int 10] I J P Q := wp_bipush (by decide) dX6_readNumber_27
theorem e_X6_readNumber_29 {v0 : Int32} {w : Int32} {x0 x2 : Option Value} : Wp S N d MX6_readNumber 29 [x0, some (.int w), x2] [.int v0] I J P Q ↔ Wp S N d MX6_readNumber 30 [x0, some (.int w), x2] [.int w, .int v0] I J P Q := wp_lod (len := 1) rfl rfl rfl rfl dX6_readNumber_29
theorem e_X6_readNumber_30 {v0 : Int32} {v1 : Int32} {x0 x1 x2 : Option Value} : Wp S N d MX6_readNumber 30 [x0, x1, x2] [.int v0, .int v1] I J P Q ↔ Wp S N d MX6_readNumber 31 [x0, x1, x2] [.int (v1 * v0)] I J P Q := wp_alu (len := 1) rfl rfl rfl dX6_readNumber_30
theorem e_X6_readNumber_31 {v0 : Int32} {w : Nat} {x1 x2 : Option Value} : Wp S N d MX6_readNumber 31 [some (.ref w), x1, x2] [.int v0] I J P Q ↔ Wp S N d MX6_readNumber 32 [some (.ref w), x1, x2] [.ref w, .int v0] I J P Q := wp_lod (len := 1) rfl rfl rfl rfl dX6_readNumber_31
theorem e_X6_readNumber_32 {v0 : Nat} {v1 : Int32} {x0 x1 x2 : Option Value} : Wp S N (d + 1) MX6_readNumber 32 [x0, x1, x2] [.ref v0, .int v1] I J P Q ↔ S v0 = 6 ∧ CWp S N d MX6_peek [.ref v0] I J P (fun r I1 J1 P1 => Wp S N (d + 1) MX6_readNumber 35 [x0, x1, x2] (r.toList ++ [.int v1]) I1 J1 P1 Q) := wp_callV (M' := MX6_peek) (As := []) rfl rfl rfl rfl (by decide) (Nat.le_of_ble_eq_true rfl) dX6_readNumber_32
theorem e_X6_readNumber_35 {v0 : Int32} {v1 : Int32} {x0 x1 x2 : Option Value} : Wp S N d MX6_readNumber 35 [x0, x1, x2] [.int v0, .int v1] I J P Q ↔ Wp S N d MX6_readNumber 36 [x0, x1, x2] [.int (v1 + v0)] I J P Q := wp_alu (len := 1) rfl rfl rfl dX6_readNumber_35
theorem e_X6_readNumber_36 {v0 : Int32} {x0 x1 x2 : Option Value} : Wp S N d MX6_readNumber 36 [x0, x1, x2] [.int v0] I J P Q ↔ Wp S N d MX6_readNumber 38 [x0, x1, x2] [.int 48, .int v0] I J P Q := wp_bipush (by decide) dX6_readNumber_36
theorem e_X6_readNumber_38 {v0 : Int32} {v1 : Int32} {x0 x1 x2 : Option Value} : Wp S N d MX6_readNumber 38 [x0, x1, x2] [.int v0, .int v1] I J P Q ↔ Wp S N d MX6_readNumber 39 [x0, x1, x2] [.int (v1 - v0)] I J P Q := wp_alu (len := 1) rfl rfl rfl dX6_readNumber_38
theorem e_X6_readNumber_39 {v0 : Int32} {x0 x1 x2 : Option Value} : Wp S N d MX6_readNumber 39 [x0, x1, x2] [.int v0] I J P Q ↔ Wp S N d MX6_readNumber 40 [kl x0, some (.int v0), x2] [] I J P Q := wp_sto (len := 1) rfl rfl rfl rfl (Nat.le_of_ble_eq_true rfl) rfl dX6_readNumber_39
theorem e_X6_readNumber_40 {w : Nat} {x1 x2 : Option Value} : Wp S N d MX6_readNumber 40 [some (.ref w), x1, x2] [] I J P Q ↔ Wp S N d MX6_readNumber 41 [some (.ref w), x1, x2] [.ref w] I J P Q := wp_lod (len := 1) rfl rfl rfl rfl dX6_readNumber_40
theorem e_X6_readNumber_41 {v0 : Nat} {x0 x1 x2 : Option Value} : Wp S N d MX6_readNumber 41 [x0, x1, x2] [.ref v0] I J P Q ↔ Wp S N d MX6_readNumber 42 [x0, x1, x2] [.ref v0, .ref v0] I J P Q := wp_alu (len := 1) rfl rfl rfl dX6_readNumber_41
theorem e_X6_readNumber_42 {v0 : Nat} {v1 : Nat} {x0 x1 x2 : Option Value} : Wp S N d MX6_readNumber 42 [x0, x1, x2] [.ref v0, .ref v1] I J P Q ↔ S v0 = 6 ∧ Wp S N d MX6_readNumber 45 [x0, x1, x2] [.int (I v0 5), .ref v1] I J P Q := wp_getf rfl rfl rfl rfl dX6_readNumber_42
theorem e_X6_readNumber_45 {v0 : Int32} {v1 : Nat} {x0 x1 x2 : Option Value} : Wp S N d MX6_readNumber 45 [x0, x1, x2] [.int v0, .ref v1] I J P Q ↔ Wp S N d MX6_readNumber 46 [x0, x1, x2] [.int 1, .int v0, .ref v1] I J P Q := wp_iconst (by decide) dX6_readNumber_45
theorem e_X6_readNumber_46 {v0 : Int32} {v1 : Int32} {v2 : Nat} {x0 x1 x2 : Option Value} : Wp S N d MX6_readNumber 46 [x0, x1, x2] [.int v0, .int v1, .ref v2] I J P Q ↔ Wp S N d MX6_readNumber 47 [x0, x1, x2] [.int (v1 + v0), .ref v2] I J P Q := wp_alu (len := 1) rfl rfl rfl dX6_readNumber_46
theorem e_X6_readNumber_47 {v0 : Int32} {v1 : Nat} {x0 x1 x2 : Option Value} : Wp S N d MX6_readNumber 47 [x0, x1, x2] [.int v0, .ref v1] I J P Q ↔ S v1 = 6 ∧ Wp S N d MX6_readNumber 50 [x0, x1, x2] [] (u2 I v1 5 v0) J P Q := wp_putI rfl rfl rfl rfl dX6_readNumber_47
theorem e_X6_readNumber_50 {w : Int32} {x0 x1 : Option Value} : Wp S N d MX6_readNumber 50 [x0, x1, some (.int w)] [] I J P Q ↔ Wp S N d MX6_readNumber 53 [x0, kl x1, some (.int (w + 1))] [] I J P Q := wp_inc rfl rfl dX6_readNumber_50
theorem e_X6_readNumber_53  {x0 x1 x2 : Option Value} : Wp S N d MX6_readNumber 53 [x0, x1, x2] [] I J P Q ↔ Wp S N d MX6_readNumber 4 [x0, x1, x2] [] I J P Q := wp_go (len := 3) rfl (fun _ _ => rfl) rfl (by decide) dX6_readNumber_53
theorem e_X6_readNumber_56 {w : Int32} {x0 x1 : Option Value} : Wp S N d MX6_readNumber 56 [x0, x1, some (.int w)] [] I J P Q ↔ Wp S N d MX6_readNumber 57 [x0, x1, some (.int w)] [.int w] I J P Q := wp_lod (len := 1) rfl rfl rfl rfl dX6_readNumber_56
theorem e_X6_readNumber_57 {v0 : Int32} {x0 x1 x2 : Option Value} : Wp S N d MX6_readNumber 57 [x0, x1, x2] [.int v0] I J P Q ↔ (v0 = 0 → Wp S N d MX6_readNumber 69 [x0, x1, x2] [] I J P Q) ∧ (¬ v0 = 0 → Wp S N d MX6_readNumber 60 [x0, x1, x2] [] I J P Q) := wp_br rfl rfl (by decide) dX6_readNumber_57
theorem e_X6_readNumber_60 {w : Nat} {x1 x2 : Option Value} : Wp S N d MX6_readNumber 60 [some (.ref w), x1, x2] [] I J P Q ↔ Wp S N d MX6_readNumber 61 [some (.ref w), x1, x2] [.ref w] I J P Q := wp_lod (len := 1) rfl rfl rfl rfl dX6_readNumber_60
theorem e_X6_readNumber_61 {v0 : Nat} {x0 x1 x2 : Option Value} : Wp S N d MX6_readNumber 61 [x0, x1, x2] [.ref v0] I J P Q ↔ S v0 = 6 ∧ Wp S N d MX6_readNumber 64 [x0, x1, x2] [.int (I v0 7)] I J P Q := wp_getf rfl rfl rfl rfl dX6_readNumber_61
theorem e_X6_readNumber_64 {v0 : Int32} {x0 x1 x2 : Option Value} : Wp S N d MX6_readNumber 64 [x0, x1, x2] [.int v0] I J P Q ↔ Wp S N d MX6_readNumber 66 [x0, x1, x2] [.int 80, .int v0] I J P Q := wp_bipush (by decide) dX6_readNumber_64
theorem e_X6_readNumber_66 {v0 : Int32} {v1 : Int32} {x0 x1 x2 : Option Value} : Wp S N d MX6_readNumber 66 [x0, x1, x2] [.int v0, .int v1] I J P Q ↔ (v1 < v0 → Wp S N d MX6_readNumber 71 [x0, x1, x2] [] I J P Q) ∧ (¬ v1 < v0 → Wp S N d MX6_readNumber 69 [x0, x1, x2] [] I J P Q) := wp_br rfl rfl (by decide) dX6_readNumber_66
theorem e_X6_readNumber_69  {x0 x1 x2 : Option Value} : Wp S N d MX6_readNumber 69 [x0, x1, x2] [] I J P Q ↔ Wp S N d MX6_readNumber 70 [x0, x1, x2] [.int 0] I J P Q := wp_iconst (by decide) dX6_readNumber_69
theorem e_X6_readNumber_70 {v0 : Int32} (hb : isB v0) {x0 x1 x2 : Option Value} : Wp S N d MX6_readNumber 70 [x0, x1, x2] [.int v0] I J P Q ↔ Q (some (.int v0)) I J P := wp_zret rfl dX6_readNumber_70 hb
theorem e_X6_readNumber_71 {w : Nat} {x1 x2 : Option Value} : Wp S N d MX6_readNumber 71 [some (.ref w), x1, x2] [] I J P Q ↔ Wp S N d MX6_readNumber 72 [some (.ref w), x1, x2] [.ref w] I J P Q := wp_lod (len := 1) rfl rfl rfl rfl dX6_readNumber_71
theorem e_X6_readNumber_72 {v0 : Nat} {x0 x1 x2 : Option Value} : Wp S N d MX6_readNumber 72 [x0, x1, x2] [.ref v0] I J P Q ↔ S v0 = 6 ∧ Wp S N d MX6_readNumber 75 [x0, x1, x2] [va_rf (P v0 6)] I J P Q := wp_getf rfl rfl rfl rfl dX6_readNumber_72
theorem e_X6_readNumber_75 {v0 : Nat} {w : Nat} {x1 x2 : Option Value} : Wp S N d MX6_readNumber 75 [some (.ref w), x1, x2] [.ref v0] I J P Q ↔ Wp S N d MX6_readNumber 76 [some (.ref w), x1, x2] [.ref w, .ref v0] I J P Q := wp_lod (len := 1) rfl rfl rfl rfl dX6_readNumber_75
theorem e_X6_readNumber_76 {v0 : Nat} {v1 : Nat} {x0 x1 x2 : Option Value} : Wp S N d MX6_readNumber 76 [x0, x1, x2] [.ref v0, .ref v1] I J P Q ↔ S v0 = 6 ∧ Wp S N d MX6_readNumber 79 [x0, x1, x2] [.int (I v0 7), .ref v1] I J P Q := wp_getf rfl rfl rfl rfl dX6_readNumber_76
theorem e_X6_readNumber_79 {v0 : Int32} {v1 : Nat} {w : Int32} {x0 x2 : Option Value} : Wp S N d MX6_readNumber 79 [x0, some (.int w), x2] [.int v0, .ref v1] I J P Q ↔ Wp S N d MX6_readNumber 80 [x0, some (.int w), x2] [.int w, .int v0, .ref v1] I J P Q := wp_lod (len := 1) rfl rfl rfl rfl dX6_readNumber_79
theorem e_X6_readNumber_80 {v0 : Int32} {v1 : Int32} {v2 : Nat} {x0 x1 x2 : Option Value} : Wp S N d MX6_readNumber 80 [x0, x1, x2] [.int v0, .int v1, .ref v2] I J P Q ↔ (S v2 = 10 ∧ vp_in v1 (N v2)) ∧ Wp S N d MX6_readNumber 81 [x0, x1, x2] [] (u2 I v2 v1.toNatClampNeg v0) J P Q := wp_ast rfl rfl dX6_readNumber_80
theorem e_X6_readNumber_81 {w : Nat} {x1 x2 : Option Value} : Wp S N d MX6_readNumber 81 [some (.ref w), x1, x2] [] I J P Q ↔ Wp S N d MX6_readNumber 82 [some (.ref w), x1, x2] [.ref w] I J P Q := wp_lod (len := 1) rfl rfl rfl rfl dX6_readNumber_81
theorem e_X6_readNumber_82 {v0 : Nat} {x0 x1 x2 : Option Value} : Wp S N d MX6_readNumber 82 [x0, x1, x2] [.ref v0] I J P Q ↔ Wp S N d MX6_readNumber 83 [x0, x1, x2] [.ref v0, .ref v0] I J P Q := wp_alu (len := 1) rfl rfl rfl dX6_readNumber_82
theorem e_X6_readNumber_83 {v0 : Nat} {v1 : Nat} {x0 x1 x2 : Option Value} : Wp S N d MX6_readNumber 83 [x0, x1, x2] [.ref v0, .ref v1] I J P Q ↔ S v0 = 6 ∧ Wp S N d MX6_readNumber 86 [x0, x1, x2] [.int (I v0 7), .ref v1] I J P Q := wp_getf rfl rfl rfl rfl dX6_readNumber_83
theorem e_X6_readNumber_86 {v0 : Int32} {v1 : Nat} {x0 x1 x2 : Option Value} : Wp S N d MX6_readNumber 86 [x0, x1, x2] [.int v0, .ref v1] I J P Q ↔ Wp S N d MX6_readNumber 87 [x0, x1, x2] [.int 1, .int v0, .ref v1] I J P Q := wp_iconst (by decide) dX6_readNumber_86
theorem e_X6_readNumber_87 {v0 : Int32} {v1 : Int32} {v2 : Nat} {x0 x1 x2 : Option Value} : Wp S N d MX6_readNumber 87 [x0, x1, x2] [.int v0, .int v1, .ref v2] I J P Q ↔ Wp S N d MX6_readNumber 88 [x0, x1, x2] [.int (v1 + v0), .ref v2] I J P Q := wp_alu (len := 1) rfl rfl rfl dX6_readNumber_87
theorem e_X6_readNumber_88 {v0 : Int32} {v1 : Nat} {x0 x1 x2 : Option Value} : Wp S N d MX6_readNumber 88 [x0, x1, x2] [.int v0, .ref v1] I J P Q ↔ S v1 = 6 ∧ Wp S N d MX6_readNumber 91 [x0, x1, x2] [] (u2 I v1 7 v0) J P Q := wp_putI rfl rfl rfl rfl dX6_readNumber_88
theorem e_X6_readNumber_91  {x0 x1 x2 : Option Value} : Wp S N d MX6_readNumber 91 [x0, x1, x2] [] I J P Q ↔ Wp S N d MX6_readNumber 92 [x0, x1, x2] [.int 1] I J P Q := wp_iconst (by decide) dX6_readNumber_91
theorem e_X6_readNumber_92 {v0 : Int32} (hb : isB v0) {x0 x1 x2 : Option Value} : Wp S N d MX6_readNumber 92 [x0, x1, x2] [.int v0] I J P Q ↔ Q (some (.int v0)) I J P := wp_zret rfl dX6_readNumber_92 hb
theorem dX6_peek_0 : decode cX6_peek 0 = .ok (.aload_n 0, 1) := by decide +kernel
theorem dX6_peek_1 : decode cX6_peek 1 = .ok (.getfield 22, 3) := by decide +kernel
theorem dX6_peek_4 : decode cX6_peek 4 = .ok (.aload_n 0, 1) := by decide +kernel
theorem dX6_peek_5 : decode cX6_peek 5 = .ok (.getfield 36, 3) := by decide +kernel
theorem dX6_peek_8 : decode cX6_peek 8 = .ok (.if_icmp .ge 15, 3) := by decide +kernel
theorem dX6_peek_11 : decode cX6_peek 11 = .ok (.aload_n 0, 1) := by decide +kernel
theorem dX6_peek_12 : decode cX6_peek 12 = .ok (.getfield 9, 3) := by decide +kernel
theorem dX6_peek_15 : decode cX6_peek 15 = .ok (.aload_n 0, 1) := by decide +kernel
theorem dX6_peek_16 : decode cX6_peek 16 = .ok (.getfield 22, 3) := by decide +kernel
theorem dX6_peek_19 : decode cX6_peek 19 = .ok (.iaload, 1) := by decide +kernel
theorem dX6_peek_20 : decode cX6_peek 20 = .ok (.goto 4, 3) := by decide +kernel
theorem dX6_peek_23 : decode cX6_peek 23 = .ok (.iconst 0, 1) := by decide +kernel
theorem dX6_peek_24 : decode cX6_peek 24 = .ok (.ireturn, 1) := by decide +kernel
theorem c_X6_peek {a0 : Nat} : CWp S N d MX6_peek [.ref a0] I J P Q ↔ Wp S N d MX6_peek 0 [some (.ref a0)] [] I J P Q := by
  rw [cwp_iff]
  exact ⟨fun h => h.2, fun h => ⟨Nat.le_of_ble_eq_true rfl, h⟩⟩
theorem e_X6_peek_0 {w : Nat} : Wp S N d MX6_peek 0 [some (.ref w)] [] I J P Q ↔ Wp S N d MX6_peek 1 [some (.ref w)] [.ref w] I J P Q := wp_lod (len := 1) rfl rfl rfl rfl dX6_peek_0
theorem e_X6_peek_1 {v0 : Nat} {x0 : Option Value} : Wp S N d MX6_peek 1 [x0] [.ref v0] I J P Q ↔ S v0 = 6 ∧ Wp S N d MX6_peek 4 [x0] [.int (I v0 5)] I J P Q := wp_getf rfl rfl rfl rfl dX6_peek_1
theorem e_X6_peek_4 {v0 : Int32} {w : Nat} : Wp S N d MX6_peek 4 [some (.ref w)] [.int v0] I J P Q ↔ Wp S N d MX6_peek 5 [some (.ref w)] [.ref w, .int v0] I J P Q := wp_lod (len := 1) rfl rfl rfl rfl dX6_peek_4
theorem e_X6_peek_5 {v0 : Nat} {v1 : Int32} {x0 : Option Value} : Wp S N d MX6_peek 5 [x0] [.ref v0, .int v1] I J P Q ↔ S v0 = 6 ∧ Wp S N d MX6_peek 8 [x0] [.int (I v0 1), .int v1] I J P Q := wp_getf rfl rfl rfl rfl dX6_peek_5
theorem e_X6_peek_8 {v0 : Int32} {v1 : Int32} {x0 : Option Value} : Wp S N d MX6_peek 8 [x0] [.int v0, .int v1] I J P Q ↔ (v0 ≤ v1 → Wp S N d MX6_peek 23 [x0] [] I J P Q) ∧ (¬ v0 ≤ v1 → Wp S N d MX6_peek 11 [x0] [] I J P Q) := wp_br rfl rfl (by decide) dX6_peek_8
theorem e_X6_peek_11 {w : Nat} : Wp S N d MX6_peek 11 [some (.ref w)] [] I J P Q ↔ Wp S N d MX6_peek 12 [some (.ref w)] [.ref w] I J P Q := wp_lod (len := 1) rfl rfl rfl rfl dX6_peek_11
theorem e_X6_peek_12 {v0 : Nat} {x0 : Option Value} : Wp S N d MX6_peek 12 [x0] [.ref v0] I J P Q ↔ S v0 = 6 ∧ Wp S N d MX6_peek 15 [x0] [va_rf (P v0 0)] I J P Q := wp_getf rfl rfl rfl rfl dX6_peek_12
theorem e_X6_peek_15 {v0 : Nat} {w : Nat} : Wp S N d MX6_peek 15 [some (.ref w)] [.ref v0] I J P Q ↔ Wp S N d MX6_peek 16 [some (.ref w)] [.ref w, .ref v0] I J P Q := wp_lod (len := 1) rfl rfl rfl rfl dX6_peek_15
theorem e_X6_peek_16 {v0 : Nat} {v1 : Nat} {x0 : Option Value} : Wp S N d MX6_peek 16 [x0] [.ref v0, .ref v1] I J P Q ↔ S v0 = 6 ∧ Wp S N d MX6_peek 19 [x0] [.int (I v0 5), .ref v1] I J P Q := wp_getf rfl rfl rfl rfl dX6_peek_16
theorem e_X6_peek_19 {v0 : Int32} {v1 : Nat} {x0 : Option Value} : Wp S N d MX6_peek 19 [x0] [.int v0, .ref v1] I J P Q ↔ (S v1 = 10 ∧ vp_in v0 (N v1)) ∧ Wp S N d MX6_peek 20 [x0] [.int (I v1 v0.toNatClampNeg)] I J P Q := wp_ald rfl rfl dX6_peek_19
theorem e_X6_peek_20 {v0 : Int32} {x0 : Option Value} : Wp S N d MX6_peek 20 [x0] [.int v0] I J P Q ↔ Wp S N d MX6_peek 24 [x0] [.int v0] I J P Q := wp_go (len := 3) rfl (fun _ _ => rfl) rfl (by decide) dX6_peek_20
theorem e_X6_peek_23  {x0 : Option Value} : Wp S N d MX6_peek 23 [x0] [] I J P Q ↔ Wp S N d MX6_peek 24 [x0] [.int 0] I J P Q := wp_iconst (by decide) dX6_peek_23
theorem e_X6_peek_24 {v0 : Int32} {x0 : Option Value} : Wp S N d MX6_peek 24 [x0] [.int v0] I J P Q ↔ Q (some (.int v0)) I J P := wp_iret rfl dX6_peek_24
theorem dX6_skip_0 : decode cX6_skip 0 = .ok (.aload_n 0, 1) := by decide +kernel
theorem dX6_skip_1 : decode cX6_skip 1 = .ok (.invokevirtual 43, 3) := by decide +kernel
theorem dX6_skip_4 : decode cX6_skip 4 = .ok (.iload_n 1, 1) := by decide +kernel
theorem dX6_skip_5 : decode cX6_skip 5 = .ok (.if_icmp .eq 5, 3) := by decide +kernel
theorem dX6_skip_8 : decode cX6_skip 8 = .ok (.iconst 0, 1) := by decide +kernel
theorem dX6_skip_9 : decode cX6_skip 9 = .ok (.ireturn, 1) := by decide +kernel
theorem dX6_skip_10 : decode cX6_skip 10 = .ok (.aload_n 0, 1) := by decide +kernel
theorem dX6_skip_11 : decode cX6_skip 11 = .ok (.dup, 1) := by decide +kernel
theorem dX6_skip_12 : decode cX6_skip 12 = .ok (.getfield 22, 3) := by decide +kernel
theorem dX6_skip_15 : decode cX6_skip 15 = .ok (.iconst 1, 1) := by decide +kernel
theorem dX6_skip_16 : decode cX6_skip 16 = .ok (.iadd, 1) := by decide +kernel
theorem dX6_skip_17 : decode cX6_skip 17 = .ok (.putfield 22, 3) := by decide +kernel
theorem dX6_skip_20 : decode cX6_skip 20 = .ok (.iconst 1, 1) := by decide +kernel
theorem dX6_skip_21 : decode cX6_skip 21 = .ok (.ireturn, 1) := by decide +kernel
theorem c_X6_skip {a0 : Nat} {a1 : Int32} : CWp S N d MX6_skip [.ref a0, .int a1] I J P Q ↔ Wp S N d MX6_skip 0 [some (.ref a0), some (.int a1)] [] I J P Q := by
  rw [cwp_iff]
  exact ⟨fun h => h.2, fun h => ⟨Nat.le_of_ble_eq_true rfl, h⟩⟩
theorem e_X6_skip_0 {w : Nat} {x1 : Option Value} : Wp S N d MX6_skip 0 [some (.ref w), x1] [] I J P Q ↔ Wp S N d MX6_skip 1 [some (.ref w), x1] [.ref w] I J P Q := wp_lod (len := 1) rfl rfl rfl rfl dX6_skip_0
theorem e_X6_skip_1 {v0 : Nat} {x0 x1 : Option Value} : Wp S N (d + 1) MX6_skip 1 [x0, x1] [.ref v0] I J P Q ↔ S v0 = 6 ∧ CWp S N d MX6_peek [.ref v0] I J P (fun r I1 J1 P1 => Wp S N (d + 1) MX6_skip 4 [x0, x1] (r.toList ++ []) I1 J1 P1 Q) := wp_callV (M' := MX6_peek) (As := []) rfl rfl rfl rfl (by decide) (Nat.le_of_ble_eq_true rfl) dX6_skip_1
theorem e_X6_skip_4 {v0 : Int32} {w : Int32} {x0 : Option Value} : Wp S N d MX6_skip 4 [x0, some (.int w)] [.int v0] I J P Q ↔ Wp S N d MX6_skip 5 [x0, some (.int w)] [.int w, .int v0] I J P Q := wp_lod (len := 1) rfl rfl rfl rfl dX6_skip_4
theorem e_X6_skip_5 {v0 : Int32} {v1 : Int32} {x0 x1 : Option Value} : Wp S N d MX6_skip 5 [x0, x1] [.int v0, .int v1] I J P Q ↔ (v1 = v0 → Wp S N d MX6_skip 10 [x0, x1] [] I J P Q) ∧ (¬ v1 = v0 → Wp S N d MX6_skip 8 [x0, x1] [] I J P Q) := wp_br rfl rfl (by decide) dX6_skip_5
theorem e_X6_skip_8  {x0 x1 : Option Value} : Wp S N d MX6_skip 8 [x0, x1] [] I J P Q ↔ Wp S N d MX6_skip 9 [x0, x1] [.int 0] I J P Q := wp_iconst (by decide) dX6_skip_8
theorem e_X6_skip_9 {v0 : Int32} (hb : isB v0) {x0 x1 : Option Value} : Wp S N d MX6_skip 9 [x0, x1] [.int v0] I J P Q ↔ Q (some (.int v0)) I J P := wp_zret rfl dX6_skip_9 hb
theorem e_X6_skip_10 {w : Nat} {x1 : Option Value} : Wp S N d MX6_skip 10 [some (.ref w), x1] [] I J P Q ↔ Wp S N d MX6_skip 11 [some (.ref w), x1] [.ref w] I J P Q := wp_lod (len := 1) rfl rfl rfl rfl dX6_skip_10
theorem e_X6_skip_11 {v0 : Nat} {x0 x1 : Option Value} : Wp S N d MX6_skip 11 [x0, x1] [.ref v0] I J P Q ↔ Wp S N d MX6_skip 12 [x0, x1] [.ref v0, .ref v0] I J P Q := wp_alu (len := 1) rfl rfl rfl dX6_skip_11
theorem e_X6_skip_12 {v0 : Nat} {v1 : Nat} {x0 x1 : Option Value} : Wp S N d MX6_skip 12 [x0, x1] [.ref v0, .ref v1] I J P Q ↔ S v0 = 6 ∧ Wp S N d MX6_skip 15 [x0, x1] [.int (I v0 5), .ref v1] I J P Q := wp_getf rfl rfl rfl rfl dX6_skip_12
theorem e_X6_skip_15 {v0 : Int32} {v1 : Nat} {x0 x1 : Option Value} : Wp S N d MX6_skip 15 [x0, x1] [.int v0, .ref v1] I J P Q ↔ Wp S N d MX6_skip 16 [x0, x1] [.int 1, .int v0, .ref v1] I J P Q := wp_iconst (by decide) dX6_skip_15
theorem e_X6_skip_16 {v0 : Int32} {v1 : Int32} {v2 : Nat} {x0 x1 : Option Value} : Wp S N d MX6_skip 16 [x0, x1] [.int v0, .int v1, .ref v2] I J P Q ↔ Wp S N d MX6_skip 17 [x0, x1] [.int (v1 + v0), .ref v2] I J P Q := wp_alu (len := 1) rfl rfl rfl dX6_skip_16
theorem e_X6_skip_17 {v0 : Int32} {v1 : Nat} {x0 x1 : Option Value} : Wp S N d MX6_skip 17 [x0, x1] [.int v0, .ref v1] I J P Q ↔ S v1 = 6 ∧ Wp S N d MX6_skip 20 [x0, x1] [] (u2 I v1 5 v0) J P Q := wp_putI rfl rfl rfl rfl dX6_skip_17
theorem e_X6_skip_20  {x0 x1 : Option Value} : Wp S N d MX6_skip 20 [x0, x1] [] I J P Q ↔ Wp S N d MX6_skip 21 [x0, x1] [.int 1] I J P Q := wp_iconst (by decide) dX6_skip_20
theorem e_X6_skip_21 {v0 : Int32} (hb : isB v0) {x0 x1 : Option Value} : Wp S N d MX6_skip 21 [x0, x1] [.int v0] I J P Q ↔ Q (some (.int v0)) I J P := wp_zret rfl dX6_skip_21 hb
theorem dX7_copyFrom_0 : decode cX7_copyFrom 0 = .ok (.aload_n 0, 1) := by decide +kernel
theorem dX7_copyFrom_1 : decode cX7_copyFrom 1 = .ok (.aload_n 1, 1) := by decide +kernel
theorem dX7_copyFrom_2 : decode cX7_copyFrom 2 = .ok (.getfield 9, 3) := by decide +kernel
theorem dX7_copyFrom_5 : decode cX7_copyFrom 5 = .ok (.putfield 9, 3) := by decide +kernel
theorem dX7_copyFrom_8 : decode cX7_copyFrom 8 = .ok (.aload_n 1, 1) := by decide +kernel
theorem dX7_copyFrom_9 : decode cX7_copyFrom 9 = .ok (.getfield 15, 3) := by decide +kernel
theorem dX7_copyFrom_12 : decode cX7_copyFrom 12 = .ok (.iconst 0, 1) := by decide +kernel
theorem dX7_copyFrom_13 : decode cX7_copyFrom 13 = .ok (.aload_n 0, 1) := by decide +kernel
theorem dX7_copyFrom_14 : decode cX7_copyFrom 14 = .ok (.getfield 15, 3) := by decide +kernel
theorem dX7_copyFrom_17 : decode cX7_copyFrom 17 = .ok (.iconst 0, 1) := by decide +kernel
theorem dX7_copyFrom_18 : decode cX7_copyFrom 18 = .ok (.bipush 6, 2) := by decide +kernel
theorem dX7_copyFrom_20 : decode cX7_copyFrom 20 = .ok (.invokestatic 38, 3) := by decide +kernel
theorem dX7_copyFrom_23 : decode cX7_copyFrom 23 = .ok (.aload_n 1, 1) := by decide +kernel
theorem dX7_copyFrom_24 : decode cX7_copyFrom 24 = .ok (.getfield 19, 3) := by decide +kernel
theorem dX7_copyFrom_27 : decode cX7_copyFrom 27 = .ok (.iconst 0, 1) := by decide +kernel
theorem dX7_copyFrom_28 : decode cX7_copyFrom 28 = .ok (.aload_n 0, 1) := by decide +kernel
theorem dX7_copyFrom_29 : decode cX7_copyFrom 29 = .ok (.getfield 19, 3) := by decide +kernel
theorem dX7_copyFrom_32 : decode cX7_copyFrom 32 = .ok (.iconst 0, 1) := by decide +kernel
theorem dX7_copyFrom_33 : decode cX7_copyFrom 33 = .ok (.bipush 6, 2) := by decide +kernel
theorem dX7_copyFrom_35 : decode cX7_copyFrom 35 = .ok (.invokestatic 38, 3) := by decide +kernel
theorem dX7_copyFrom_38 : decode cX7_copyFrom 38 = .ok (.aload_n 1, 1) := by decide +kernel
theorem dX7_copyFrom_39 : decode cX7_copyFrom 39 = .ok (.getfield 22, 3) := by decide +kernel
theorem dX7_copyFrom_42 : decode cX7_copyFrom 42 = .ok (.iconst 0, 1) := by decide +kernel
theorem dX7_copyFrom_43 : decode cX7_copyFrom 43 = .ok (.aload_n 0, 1) := by decide +kernel
theorem dX7_copyFrom_44 : decode cX7_copyFrom 44 = .ok (.getfield 22, 3) := by decide +kernel
theorem dX7_copyFrom_47 : decode cX7_copyFrom 47 = .ok (.iconst 0, 1) := by decide +kernel
theorem dX7_copyFrom_48 : decode cX7_copyFrom 48 = .ok (.iconst 5, 1) := by decide +kernel
theorem dX7_copyFrom_49 : decode cX7_copyFrom 49 = .ok (.invokestatic 38, 3) := by decide +kernel
theorem dX7_copyFrom_52 : decode cX7_copyFrom 52 = .ok (.aload_n 0, 1) := by decide +kernel
theorem dX7_copyFrom_53 : decode cX7_copyFrom 53 = .ok (.aload_n 1, 1) := by decide +kernel
theorem dX7_copyFrom_54 : decode cX7_copyFrom 54 = .ok (.getfield 44, 3) := by decide +kernel
theorem dX7_copyFrom_57 : decode cX7_copyFrom 57 = .ok (.putfield 44, 3) := by decide +kernel
theorem dX7_copyFrom_60 : decode cX7_copyFrom 60 = .ok (.aload_n 1, 1) := by decide +kernel
theorem dX7_copyFrom_61 : decode cX7_copyFrom 61 = .ok (.getfield 25, 3) := by decide +kernel
theorem dX7_copyFrom_64 : decode cX7_copyFrom 64 = .ok (.iconst 0, 1) := by decide +kernel
theorem dX7_copyFrom_65 : decode cX7_copyFrom 65 = .ok (.aload_n 0, 1) := by decide +kernel
theorem dX7_copyFrom_66 : decode cX7_copyFrom 66 = .ok (.getfield 25, 3) := by decide +kernel
theorem dX7_copyFrom_69 : decode cX7_copyFrom 69 = .ok (.iconst 0, 1) := by decide +kernel
theorem dX7_copyFrom_70 : decode cX7_copyFrom 70 = .ok (.iconst 4, 1) := by decide +kernel
theorem dX7_copyFrom_71 : decode cX7_copyFrom 71 = .ok (.invokestatic 38, 3) := by decide +kernel
theorem dX7_copyFrom_74 : decode cX7_copyFrom 74 = .ok (.aload_n 1, 1) := by decide +kernel
theorem dX7_copyFrom_75 : decode cX7_copyFrom 75 = .ok (.getfield 28, 3) := by decide +kernel
theorem dX7_copyFrom_78 : decode cX7_copyFrom 78 = .ok (.iconst 0, 1) := by decide +kernel
theorem dX7_copyFrom_79 : decode cX7_copyFrom 79 = .ok (.aload_n 0, 1) := by decide +kernel
theorem dX7_copyFrom_80 : decode cX7_copyFrom 80 = .ok (.getfield 28, 3) := by decide +kernel
theorem dX7_copyFrom_83 : decode cX7_copyFrom 83 = .ok (.iconst 0, 1) := by decide +kernel
theorem dX7_copyFrom_84 : decode cX7_copyFrom 84 = .ok (.iconst 4, 1) := by decide +kernel
theorem dX7_copyFrom_85 : decode cX7_copyFrom 85 = .ok (.invokestatic 38, 3) := by decide +kernel
theorem dX7_copyFrom_88 : decode cX7_copyFrom 88 = .ok (.aload_n 0, 1) := by decide +kernel
theorem dX7_copyFrom_89 : decode cX7_copyFrom 89 = .ok (.aload_n 1, 1) := by decide +kernel
theorem dX7_copyFrom_90 : decode cX7_copyFrom 90 = .ok (.getfield 47, 3) := by decide +kernel
theorem dX7_copyFrom_93 : decode cX7_copyFrom 93 = .ok (.putfield 47, 3) := by decide +kernel
theorem dX7_copyFrom_96 : decode cX7_copyFrom 96 = .ok (.iconst 0, 1) := by decide +kernel
theorem dX7_copyFrom_97 : decode cX7_copyFrom 97 = .ok (.istore_n 2, 1) := by decide +kernel
theorem dX7_copyFrom_98 : decode cX7_copyFrom 98 = .ok (.iload_n 2, 1) := by decide +kernel
theorem dX7_copyFrom_99 : decode cX7_copyFrom 99 = .ok (.bipush 6, 2) := by decide +kernel
theorem dX7_copyFrom_101 : decode cX7_copyFrom 101 = .ok (.if_icmp .ge 24, 3) := by decide +kernel
theorem dX7_copyFrom_104 : decode cX7_copyFrom 104 = .ok (.aload_n 0, 1) := by decide +kernel
theorem dX7_copyFrom_105 : decode cX7_copyFrom 105 = .ok (.getfield 33, 3) := by decide +kernel
theorem dX7_copyFrom_108 : decode cX7_copyFrom 108 = .ok (.iload_n 2, 1) := by decide +kernel
theorem dX7_copyFrom_109 : decode cX7_copyFrom 109 = .ok (.aaload, 1) := by decide +kernel
theorem dX7_copyFrom_110 : decode cX7_copyFrom 110 = .ok (.aload_n 1, 1) := by decide +kernel
theorem dX7_copyFrom_111 : decode cX7_copyFrom 111 = .ok (.getfield 33, 3) := by decide +kernel
theorem dX7_copyFrom_114 : decode cX7_copyFrom 114 = .ok (.iload_n 2, 1) := by decide +kernel
theorem dX7_copyFrom_115 : decode cX7_copyFrom 115 = .ok (.aaload, 1) := by decide +kernel
theorem dX7_copyFrom_116 : decode cX7_copyFrom 116 = .ok (.invokevirtual 50, 3) := by decide +kernel
theorem dX7_copyFrom_119 : decode cX7_copyFrom 119 = .ok (.iinc 2 1, 3) := by decide +kernel
theorem dX7_copyFrom_122 : decode cX7_copyFrom 122 = .ok (.goto (-24), 3) := by decide +kernel
theorem dX7_copyFrom_125 : decode cX7_copyFrom 125 = .ok (.return_, 1) := by decide +kernel
theorem c_X7_copyFrom {a0 : Nat} {a1 : Nat} : CWp S N d MX7_copyFrom [.ref a0, .ref a1] I J P Q ↔ Wp S N d MX7_copyFrom 0 [some (.ref a0), some (.ref a1), none] [] I J P Q := by
  rw [cwp_iff]
  exact ⟨fun h => h.2, fun h => ⟨Nat.le_of_ble_eq_true rfl, h⟩⟩
theorem e_X7_copyFrom_0 {w : Nat} {x1 x2 : Option Value} : Wp S N d MX7_copyFrom 0 [some (.ref w), x1, x2] [] I J P Q ↔ Wp S N d MX7_copyFrom 1 [some (.ref w), x1, x2] [.ref w] I J P Q := wp_lod (len := 1) rfl rfl rfl rfl dX7_copyFrom_0
theorem e_X7_copyFrom_1 {v0 : Nat} {w : Nat} {x0 x2 : Option Value} : Wp S N d MX7_copyFrom 1 [x0, some (.ref w), x2] [.ref v0] I J P Q ↔ Wp S N d MX7_copyFrom 2 [x0, some (.ref w), x2] [.ref w, .ref v0] I J P Q := wp_lod (len := 1) rfl rfl rfl rfl dX7_copyFrom_1
theorem e_X7_copyFrom_2 {v0 : Nat} {v1 : Nat} {x0 x1 x2 : Option Value} : Wp S N d MX7_copyFrom 2 [x0, x1, x2] [.ref v0, .ref v1] I J P Q ↔ S v0 = 7 ∧ Wp S N d MX7_copyFrom 5 [x0, x1, x2] [.int (I v0 0), .ref v1] I J P Q := wp_getf rfl rfl rfl rfl dX7_copyFrom_2
theorem e_X7_copyFrom_5 {v0 : Int32} {v1 : Nat} {x0 x1 x2 : Option Value} : Wp S N d MX7_copyFrom 5 [x0, x1, x2] [.int v0, .ref v1] I J P Q ↔ S v1 = 7 ∧ Wp S N d MX7_copyFrom 8 [x0, x1, x2] [] (u2 I v1 0 v0) J P Q := wp_putI rfl rfl rfl rfl dX7_copyFrom_5
theorem e_X7_copyFrom_8 {w : Nat} {x0 x2 : Option Value} : Wp S N d MX7_copyFrom 8 [x0, some (.ref w), x2] [] I J P Q ↔ Wp S N d MX7_copyFrom 9 [x0, some (.ref w), x2] [.ref w] I J P Q := wp_lod (len := 1) rfl rfl rfl rfl dX7_copyFrom_8
theorem e_X7_copyFrom_9 {v0 : Nat} {x0 x1 x2 : Option Value} : Wp S N d MX7_copyFrom 9 [x0, x1, x2] [.ref v0] I J P Q ↔ S v0 = 7 ∧ Wp S N d MX7_copyFrom 12 [x0, x1, x2] [va_rf (P v0 1)] I J P Q := wp_getf rfl rfl rfl rfl dX7_copyFrom_9
theorem e_X7_copyFrom_12 {v0 : Nat} {x0 x1 x2 : Option Value} : Wp S N d MX7_copyFrom 12 [x0, x1, x2] [.ref v0] I J P Q ↔ Wp S N d MX7_copyFrom 13 [x0, x1, x2] [.int 0, .ref v0] I J P Q := wp_iconst (by decide) dX7_copyFrom_12
theorem e_X7_copyFrom_13 {v0 : Int32} {v1 : Nat} {w : Nat} {x1 x2 : Option Value} : Wp S N d MX7_copyFrom 13 [some (.ref w), x1, x2] [.int v0, .ref v1] I J P Q ↔ Wp S N d MX7_copyFrom 14 [some (.ref w), x1, x2] [.ref w, .int v0, .ref v1] I J P Q := wp_lod (len := 1) rfl rfl rfl rfl dX7_copyFrom_13
theorem e_X7_copyFrom_14 {v0 : Nat} {v1 : Int32} {v2 : Nat} {x0 x1 x2 : Option Value} : Wp S N d MX7_copyFrom 14 [x0, x1, x2] [.ref v0, .int v1, .ref v2] I J P Q ↔ S v0 = 7 ∧ Wp S N d MX7_copyFrom 17 [x0, x1, x2] [va_rf (P v0 1), .int v1, .ref v2] I J P Q := wp_getf rfl rfl rfl rfl dX7_copyFrom_14
theorem e_X7_copyFrom_17 {v0 : Nat} {v1 : Int32} {v2 : Nat} {x0 x1 x2 : Option Value} : Wp S N d MX7_copyFrom 17 [x0, x1, x2] [.ref v0, .int v1, .ref v2] I J P Q ↔ Wp S N d MX7_copyFrom 18 [x0, x1, x2] [.int 0, .ref v0, .int v1, .ref v2] I J P Q := wp_iconst (by decide) dX7_copyFrom_17
theorem e_X7_copyFrom_18 {v0 : Int32} {v1 : Nat} {v2 : Int32} {v3 : Nat} {x0 x1 x2 : Option Value} : Wp S N d MX7_copyFrom 18 [x0, x1, x2] [.int v0, .ref v1, .int v2, .ref v3] I J P Q ↔ Wp S N d MX7_copyFrom 20 [x0, x1, x2] [.int 6, .int v0, .ref v1, .int v2, .ref v3] I J P Q := wp_bipush (by decide) dX7_copyFrom_18
theorem e_X7_copyFrom_20 {v0 : Int32} {v1 : Int32} {v2 : Nat} {v3 : Int32} {v4 : Nat} {x0 x1 x2 : Option Value} (hS : S v2 = 10) : Wp S N (d + 1) MX7_copyFrom 20 [x0, x1, x2] [.int v0, .int v1, .ref v2, .int v3, .ref v4] I J P Q ↔ (S v4 = 10 ∧ ¬ v3 < 0 ∧ ¬ v1 < 0 ∧ ¬ v0 < 0 ∧ v3.toNatClampNeg + v0.toNatClampNeg ≤ N v4 ∧ v1.toNatClampNeg + v0.toNatClampNeg ≤ N v2) ∧ Wp S N (d + 1) MX7_copyFrom 23 [x0, x1, x2] [] (uA I v2 (va_cpy (I v4) (I v2) v3.toNatClampNeg v1.toNatClampNeg v0.toNatClampNeg)) J P Q := wp_cpI rfl rfl hS (Nat.le_of_ble_eq_true rfl) dX7_copyFrom_20
theorem e_X7_copyFrom_20L {v0 : Int32} {v1 : Int32} {v2 : Nat} {v3 : Int32} {v4 : Nat} {x0 x1 x2 : Option Value} (hS : S v2 = 11) : Wp S N (d + 1) MX7_copyFrom 20 [x0, x1, x2] [.int v0, .int v1, .ref v2, .int v3, .ref v4] I J P Q ↔ (S v2 = 11 ∧ S v4 = 11 ∧ ¬ v3 < 0 ∧ ¬ v1 < 0 ∧ ¬ v0 < 0 ∧ v3.toNatClampNeg + v0.toNatClampNeg ≤ N v4 ∧ v1.toNatClampNeg + v0.toNatClampNeg ≤ N v2) ∧ Wp S N (d + 1) MX7_copyFrom 23 [x0, x1, x2] [] I (uA J v2 (va_cpy (J v4) (J v2) v3.toNatClampNeg v1.toNatClampNeg v0.toNatClampNeg)) P Q := wp_cpJ rfl rfl hS (Nat.le_of_ble_eq_true rfl) dX7_copyFrom_20
theorem e_X7_copyFrom_23 {w : Nat} {x0 x2 : Option Value} : Wp S N d MX7_copyFrom 23 [x0, some (.ref w), x2] [] I J P Q ↔ Wp S N d MX7_copyFrom 24 [x0, some (.ref w), x2] [.ref w] I J P Q := wp_lod (len := 1) rfl rfl rfl rfl dX7_copyFrom_23
theorem e_X7_copyFrom_24 {v0 : Nat} {x0 x1 x2 : Option Value} : Wp S N d MX7_copyFrom 24 [x0, x1, x2] [.ref v0] I J P Q ↔ S v0 = 7 ∧ Wp S N d MX7_copyFrom 27 [x0, x1, x2] [va_rf (P v0 2)] I J P Q := wp_getf rfl rfl rfl rfl dX7_copyFrom_24
theorem e_X7_copyFrom_27 {v0 : Nat} {x0 x1 x2 : Option Value} : Wp S N d MX7_copyFrom 27 [x0, x1, x2] [.ref v0] I J P Q ↔ Wp S N d MX7_copyFrom 28 [x0, x1, x2] [.int 0, .ref v0] I J P Q := wp_iconst (by decide) dX7_copyFrom_27
theorem e_X7_copyFrom_28 {v0 : Int32} {v1 : Nat} {w : Nat} {x1 x2 : Option Value} : Wp S N d MX7_copyFrom 28 [some (.ref w), x1, x2] [.int v0, .ref v1] I J P Q ↔ Wp S N d MX7_copyFrom 29 [some (.ref w), x1, x2] [.ref w, .int v0, .ref v1] I J P Q := wp_lod (len := 1) rfl rfl rfl rfl dX7_copyFrom_28
theorem e_X7_copyFrom_29 {v0 : Nat} {v1 : Int32} {v2 : Nat} {x0 x1 x2 : Option Value} : Wp S N d MX7_copyFrom 29 [x0, x1, x2] [.ref v0, .int v1, .ref v2] I J P Q ↔ S v0 = 7 ∧ Wp S N d MX7_copyFrom 32 [x0, x1, x2] [va_rf (P v0 2), .int v1, .ref v2] I J P Q := wp_getf rfl rfl rfl rfl dX7_copyFrom_29
theorem e_X7_copyFrom_32 {v0 : Nat} {v1 : Int32} {v2 : Nat} {x0 x1 x2 : Option Value} : Wp S N d MX7_copyFrom 32 [x0, x1, x2] [.ref v0, .int v1, .ref v2] I J P Q ↔ Wp S N d MX7_copyFrom 33 [x0, x1, x2] [.int 0, .ref v0, .int v1, .ref v2] I J P Q := wp_iconst (by decide) dX7_copyFrom_32
theorem e_X7_copyFrom_33 {v0 : Int32} {v1 : Nat} {v2 : Int32} {v3 : Nat} {x0 x1 x2 : Option Value} : Wp S N d MX7_copyFrom 33 [x0, x1, x2] [.int v0, .ref v1, .int v2, .ref v3] I J P Q ↔ Wp S N d MX7_copyFrom 35 [x0, x1, x2] [.int 6, .int v0, .ref v1, .int v2, .ref v3] I J P Q := wp_bipush (by decide) dX7_copyFrom_33
theorem e_X7_copyFrom_35 {v0 : Int32} {v1 : Int32} {v2 : Nat} {v3 : Int32} {v4 : Nat} {x0 x1 x2 : Option Value} (hS : S v2 = 10) : Wp S N (d + 1) MX7_copyFrom 35 [x0, x1, x2] [.int v0, .int v1, .ref v2, .int v3, .ref v4] I J P Q ↔ (S v4 = 10 ∧ ¬ v3 < 0 ∧ ¬ v1 < 0 ∧ ¬ v0 < 0 ∧ v3.toNatClampNeg + v0.toNatClampNeg ≤ N v4 ∧ v1.toNatClampNeg + v0.toNatClampNeg ≤ N v2) ∧ Wp S N (d + 1) MX7_copyFrom 38 [x0, x1, x2] [] (uA I v2 (va_cpy (I v4) (I v2) v3.toNatClampNeg v1.toNatClampNeg v0.toNatClampNeg)) J P Q := wp_cpI rfl rfl hS (Nat.le_of_ble_eq_true rfl) dX7_copyFrom_35
theorem e_X7_copyFrom_35L {v0 : Int32} {v1 : Int32} {v2 : Nat} {v3 : Int32} {v4 : Nat} {x0 x1 x2 : Option Value} (hS : S v2 = 11) : Wp S N (d + 1) MX7_copyFrom 35 [x0, x1, x2] [.int v0, .int v1, .ref v2, .int v3, .ref v4] I J P Q ↔ (S v2 = 11 ∧ S v4 = 11 ∧ ¬ v3 < 0 ∧ ¬ v1 < 0 ∧ ¬ v0 < 0 ∧ v3.toNatClampNeg + v0.toNatClampNeg ≤ N v4 ∧ v1.toNatClampNeg + v0.toNatClampNeg ≤ N v2) ∧ Wp S N (d + 1) MX7_copyFrom 38 [x0, x1, x2] [] I (uA J v2 (va_cpy (J v4) (J v2) v3.toNatClampNeg v1.toNatClampNeg v0.toNatClampNeg)) P Q := wp_cpJ rfl rfl hS (Nat.le_of_ble_eq_true rfl) dX7_copyFrom_35
theorem e_X7_copyFrom_38 {w : Nat} {x0 x2 : Option Value} : Wp S N d MX7_copyFrom 38 [x0, some (.ref w), x2] [] I J P Q ↔ Wp S N d MX7_copyFrom 39 [x0, some (.ref w), x2] [.ref w] I J P Q := wp_lod (len := 1) rfl rfl rfl rfl dX7_copyFrom_38
theorem e_X7_copyFrom_39 {v0 : Nat} {x0 x1 x2 : Option Value} : Wp S N d MX7_copyFrom 39 [x0, x1, x2] [.ref v0] I J P Q ↔ S v0 = 7 ∧ Wp S N d MX7_copyFrom 42 [x0, x1, x2] [va_rf (P v0 3)] I J P Q := wp_getf rfl rfl rfl rfl dX7_copyFrom_39
theorem e_X7_copyFrom_42 {v0 : Nat} {x0 x1 x2 : Option Value} : Wp S N d MX7_copyFrom 42 [x0, x1, x2] [.ref v0] I J P Q ↔ Wp S N d MX7_copyFrom 43 [x0, x1, x2] [.int 0, .ref v0] I J P Q := wp_iconst (by decide) dX7_copyFrom_42
theorem e_X7_copyFrom_43 {v0 : Int32} {v1 : Nat} {w : Nat} {x1 x2 : Option Value} : Wp S N d MX7_copyFrom 43 [some (.ref w), x1, x2] [.int v0, .ref v1] I J P Q ↔ Wp S N d MX7_copyFrom 44 [some (.ref w), x1, x2] [.ref w, .int v0, .ref v1] I J P Q := wp_lod (len := 1) rfl rfl rfl rfl dX7_copyFrom_43
theorem e_X7_copyFrom_44 {v0 : Nat} {v1 : Int32} {v2 : Nat} {x0 x1 x2 : Option Value} : Wp S N d MX7_copyFrom 44 [x0, x1, x2] [.ref v0, .int v1, .ref v2] I J P Q ↔ S v0 = 7 ∧ Wp S N d MX7_copyFrom 47 [x0, x1, x2] [va_rf (P v0 3), .int v1, .ref v2] I J P Q := wp_getf rfl rfl rfl rfl dX7_copyFrom_44
theorem e_X7_copyFrom_47 {v0 : Nat} {v1 : Int32} {v2 : Nat} {x0 x1 x2 : Option Value} : Wp S N d MX7_copyFrom 47 [x0, x1, x2] [.ref v0, .int v1, .ref v2] I J P Q ↔ Wp S N d MX7_copyFrom 48 [x0, x1, x2] [.int 0, .ref v0, .int v1, .ref v2] I J P Q := wp_iconst (by decide) dX7_copyFrom_47
theorem e_X7_copyFrom_48 {v0 : Int32} {v1 : Nat} {v2 : Int32} {v3 : Nat} {x0 x1 x2 : Option Value} : Wp S N d MX7_copyFrom 48 [x0, x1, x2] [.int v0, .ref v1, .int v2, .ref v3] I J P Q ↔ Wp S N d MX7_copyFrom 49 [x0, x1, x2] [.int 5, .int v0, .ref v1, .int v2, .ref v3] I J P Q := wp_iconst (by decide) dX7_copyFrom_48
theorem e_X7_copyFrom_49 {v0 : Int32} {v1 : Int32} {v2 : Nat} {v3 : Int32} {v4 : Nat} {x0 x1 x2 : Option Value} (hS : S v2 = 10) : Wp S N (d + 1) MX7_copyFrom 49 [x0, x1, x2] [.int v0, .int v1, .ref v2, .int v3, .ref v4] I J P Q ↔ (S v4 = 10 ∧ ¬ v3 < 0 ∧ ¬ v1 < 0 ∧ ¬ v0 < 0 ∧ v3.toNatClampNeg + v0.toNatClampNeg ≤ N v4 ∧ v1.toNatClampNeg + v0.toNatClampNeg ≤ N v2) ∧ Wp S N (d + 1) MX7_copyFrom 52 [x0, x1, x2] [] (uA I v2 (va_cpy (I v4) (I v2) v3.toNatClampNeg v1.toNatClampNeg v0.toNatClampNeg)) J P Q := wp_cpI rfl rfl hS (Nat.le_of_ble_eq_true rfl) dX7_copyFrom_49
theorem e_X7_copyFrom_49L {v0 : Int32} {v1 : Int32} {v2 : Nat} {v3 : Int32} {v4 : Nat} {x0 x1 x2 : Option Value} (hS : S v2 = 11) : Wp S N (d + 1) MX7_copyFrom 49 [x0, x1, x2] [.int v0, .int v1, .ref v2, .int v3, .ref v4] I J P Q ↔ (S v2 = 11 ∧ S v4 = 11 ∧ ¬ v3 < 0 ∧ ¬ v1 < 0 ∧ ¬ v0 < 0 ∧ v3.toNatClampNeg + v0.toNatClampNeg ≤ N v4 ∧ v1.toNatClampNeg + v0.toNatClampNeg ≤ N v2) ∧ Wp S N (d + 1) MX7_copyFrom 52 [x0, x1, x2] [] I (uA J v2 (va_cpy (J v4) (J v2) v3.toNatClampNeg v1.toNatClampNeg v0.toNatClampNeg)) P Q := wp_cpJ rfl rfl hS (Nat.le_of_ble_eq_true rfl) dX7_copyFrom_49
theorem e_X7_copyFrom_52 {w : Nat} {x1 x2 : Option Value} : Wp S N d MX7_copyFrom 52 [some (.ref w), x1, x2] [] I J P Q ↔ Wp S N d MX7_copyFrom 53 [some (.ref w), x1, x2] [.ref w] I J P Q := wp_lod (len := 1) rfl rfl rfl rfl dX7_copyFrom_52
theorem e_X7_copyFrom_53 {v0 : Nat} {w : Nat} {x0 x2 : Option Value} : Wp S N d MX7_copyFrom 53 [x0, some (.ref w), x2] [.ref v0] I J P Q ↔ Wp S N d MX7_copyFrom 54 [x0, some (.ref w), x2] [.ref w, .ref v0] I J P Q := wp_lod (len := 1) rfl rfl rfl rfl dX7_copyFrom_53
theorem e_X7_copyFrom_54 {v0 : Nat} {v1 : Nat} {x0 x1 x2 : Option Value} : Wp S N d MX7_copyFrom 54 [x0, x1, x2] [.ref v0, .ref v1] I J P Q ↔ S v0 = 7 ∧ Wp S N d MX7_copyFrom 57 [x0, x1, x2] [.int (I v0 4), .ref v1] I J P Q := wp_getf rfl rfl rfl rfl dX7_copyFrom_54
theorem e_X7_copyFrom_57 {v0 : Int32} {v1 : Nat} {x0 x1 x2 : Option Value} : Wp S N d MX7_copyFrom 57 [x0, x1, x2] [.int v0, .ref v1] I J P Q ↔ S v1 = 7 ∧ Wp S N d MX7_copyFrom 60 [x0, x1, x2] [] (u2 I v1 4 v0) J P Q := wp_putI rfl rfl rfl rfl dX7_copyFrom_57
theorem e_X7_copyFrom_60 {w : Nat} {x0 x2 : Option Value} : Wp S N d MX7_copyFrom 60 [x0, some (.ref w), x2] [] I J P Q ↔ Wp S N d MX7_copyFrom 61 [x0, some (.ref w), x2] [.ref w] I J P Q := wp_lod (len := 1) rfl rfl rfl rfl dX7_copyFrom_60
theorem e_X7_copyFrom_61 {v0 : Nat} {x0 x1 x2 : Option Value} : Wp S N d MX7_copyFrom 61 [x0, x1, x2] [.ref v0] I J P Q ↔ S v0 = 7 ∧ Wp S N d MX7_copyFrom 64 [x0, x1, x2] [va_rf (P v0 5)] I J P Q := wp_getf rfl rfl rfl rfl dX7_copyFrom_61
theorem e_X7_copyFrom_64 {v0 : Nat} {x0 x1 x2 : Option Value} : Wp S N d MX7_copyFrom 64 [x0, x1, x2] [.ref v0] I J P Q ↔ Wp S N d MX7_copyFrom 65 [x0, x1, x2] [.int 0, .ref v0] I J P Q := wp_iconst (by decide) dX7_copyFrom_64
theorem e_X7_copyFrom_65 {v0 : Int32} {v1 : Nat} {w : Nat} {x1 x2 : Option Value} : Wp S N d MX7_copyFrom 65 [some (.ref w), x1, x2] [.int v0, .ref v1] I J P Q ↔ Wp S N d MX7_copyFrom 66 [some (.ref w), x1, x2] [.ref w, .int v0, .ref v1] I J P Q := wp_lod (len := 1) rfl rfl rfl rfl dX7_copyFrom_65
theorem e_X7_copyFrom_66 {v0 : Nat} {v1 : Int32} {v2 : Nat} {x0 x1 x2 : Option Value} : Wp S N d MX7_copyFrom 66 [x0, x1, x2] [.ref v0, .int v1, .ref v2] I J P Q ↔ S v0 = 7 ∧ Wp S N d MX7_copyFrom 69 [x0, x1, x2] [va_rf (P v0 5), .int v1, .ref v2] I J P Q := wp_getf rfl rfl rfl rfl dX7_copyFrom_66
theorem e_X7_copyFrom_69 {v0 : Nat} {v1 : Int32} {v2 : Nat} {x0 x1 x2 : Option Value} : Wp S N d MX7_copyFrom 69 [x0, x1, x2] [.ref v0, .int v1, .ref v2] I J P Q ↔ Wp S N d MX7_copyFrom 70 [x0, x1, x2] [.int 0, .ref v0, .int v1, .ref v2] I J P Q := wp_iconst (by decide) dX7_copyFrom_69
theorem e_X7_copyFrom_70 {v0 : Int32} {v1 : Nat} {v2 : Int32} {v3 : Nat} {x0 x1 x2 : Option Value} : Wp S N d MX7_copyFrom 70 [x0, x1, x2] [.int v0, .ref v1, .int v2, .ref v3] I J P Q ↔ Wp S N d MX7_copyFrom 71 [x0, x1, x2] [.int 4, .int v0, .ref v1, .int v2, .ref v3] I J P Q := wp_iconst (by decide) dX7_copyFrom_70
theorem e_X7_copyFrom_71 {v0 : Int32} {v1 : Int32} {v2 : Nat} {v3 : Int32} {v4 : Nat} {x0 x1 x2 : Option Value} (hS : S v2 = 10) : Wp S N (d + 1) MX7_copyFrom 71 [x0, x1, x2] [.int v0, .int v1, .ref v2, .int v3, .ref v4] I J P Q ↔ (S v4 = 10 ∧ ¬ v3 < 0 ∧ ¬ v1 < 0 ∧ ¬ v0 < 0 ∧ v3.toNatClampNeg + v0.toNatClampNeg ≤ N v4 ∧ v1.toNatClampNeg + v0.toNatClampNeg ≤ N v2) ∧ Wp S N (d + 1) MX7_copyFrom 74 [x0, x1, x2] [] (uA I v2 (va_cpy (I v4) (I v2) v3.toNatClampNeg v1.toNatClampNeg v0.toNatClampNeg)) J P Q := wp_cpI rfl rfl hS (Nat.le_of_ble_eq_true rfl) dX7_copyFrom_71
theorem e_X7_copyFrom_71L {v0 : Int32} {v1 : Int32} {v2 : Nat} {v3 : Int32} {v4 : Nat} {x0 x1 x2 : Option Value} (hS : S v2 = 11) : Wp S N (d + 1) MX7_copyFrom 71 [x0, x1, x2] [.int v0, .int v1, .ref v2, .int v3, .ref v4] I J P Q ↔ (S v2 = 11 ∧ S v4 = 11 ∧ ¬ v3 < 0 ∧ ¬ v1 < 0 ∧ ¬ v0 < 0 ∧ v3.toNatClampNeg + v0.toNatClampNeg ≤ N v4 ∧ v1.toNatClampNeg + v0.toNatClampNeg ≤ N v2) ∧ Wp S N (d + 1) MX7_copyFrom 74 [x0, x1, x2] [] I (uA J v2 (va_cpy (J v4) (J v2) v3.toNatClampNeg v1.toNatClampNeg v0.toNatClampNeg)) P Q := wp_cpJ rfl rfl hS (Nat.le_of_ble_eq_true rfl) dX7_copyFrom_71
theorem e_X7_copyFrom_74 {w : Nat} {x0 x2 : Option Value} : Wp S N d MX7_copyFrom 74 [x0, some (.ref w), x2] [] I J P Q ↔ Wp S N d MX7_copyFrom 75 [x0, some (.ref w), x2] [.ref w] I J P Q := wp_lod (len := 1) rfl rfl rfl rfl dX7_copyFrom_74
theorem e_X7_copyFrom_75 {v0 : Nat} {x0 x1 x2 : Option Value} : Wp S N d MX7_copyFrom 75 [x0, x1, x2] [.ref v0] I J P Q ↔ S v0 = 7 ∧ Wp S N d MX7_copyFrom 78 [x0, x1, x2] [va_rf (P v0 6)] I J P Q := wp_getf rfl rfl rfl rfl dX7_copyFrom_75
theorem e_X7_copyFrom_78 {v0 : Nat} {x0 x1 x2 : Option Value} : Wp S N d MX7_copyFrom 78 [x0, x1, x2] [.ref v0] I J P Q ↔ Wp S N d MX7_copyFrom 79 [x0, x1, x2] [.int 0, .ref v0] I J P Q := wp_iconst (by decide) dX7_copyFrom_78
theorem e_X7_copyFrom_79 {v0 : Int32} {v1 : Nat} {w : Nat} {x1 x2 : Option Value} : Wp S N d MX7_copyFrom 79 [some (.ref w), x1, x2] [.int v0, .ref v1] I J P Q ↔ Wp S N d MX7_copyFrom 80 [some (.ref w), x1, x2] [.ref w, .int v0, .ref v1] I J P Q := wp_lod (len := 1) rfl rfl rfl rfl dX7_copyFrom_79
theorem e_X7_copyFrom_80 {v0 : Nat} {v1 : Int32} {v2 : Nat} {x0 x1 x2 : Option Value} : Wp S N d MX7_copyFrom 80 [x0, x1, x2] [.ref v0, .int v1, .ref v2] I J P Q ↔ S v0 = 7 ∧ Wp S N d MX7_copyFrom 83 [x0, x1, x2] [va_rf (P v0 6), .int v1, .ref v2] I J P Q := wp_getf rfl rfl rfl rfl dX7_copyFrom_80
theorem e_X7_copyFrom_83 {v0 : Nat} {v1 : Int32} {v2 : Nat} {x0 x1 x2 : Option Value} : Wp S N d MX7_copyFrom 83 [x0, x1, x2] [.ref v0, .int v1, .ref v2] I J P Q ↔ Wp S N d MX7_copyFrom 84 [x0, x1, x2] [.int 0, .ref v0, .int v1, .ref v2] I J P Q := wp_iconst (by decide) dX7_copyFrom_83
theorem e_X7_copyFrom_84 {v0 : Int32} {v1 : Nat} {v2 : Int32} {v3 : Nat} {x0 x1 x2 : Option Value} : Wp S N d MX7_copyFrom 84 [x0, x1, x2] [.int v0, .ref v1, .int v2, .ref v3] I J P Q ↔ Wp S N d MX7_copyFrom 85 [x0, x1, x2] [.int 4, .int v0, .ref v1, .int v2, .ref v3] I J P Q := wp_iconst (by decide) dX7_copyFrom_84
theorem e_X7_copyFrom_85 {v0 : Int32} {v1 : Int32} {v2 : Nat} {v3 : Int32} {v4 : Nat} {x0 x1 x2 : Option Value} (hS : S v2 = 10) : Wp S N (d + 1) MX7_copyFrom 85 [x0, x1, x2] [.int v0, .int v1, .ref v2, .int v3, .ref v4] I J P Q ↔ (S v4 = 10 ∧ ¬ v3 < 0 ∧ ¬ v1 < 0 ∧ ¬ v0 < 0 ∧ v3.toNatClampNeg + v0.toNatClampNeg ≤ N v4 ∧ v1.toNatClampNeg + v0.toNatClampNeg ≤ N v2) ∧ Wp S N (d + 1) MX7_copyFrom 88 [x0, x1, x2] [] (uA I v2 (va_cpy (I v4) (I v2) v3.toNatClampNeg v1.toNatClampNeg v0.toNatClampNeg)) J P Q := wp_cpI rfl rfl hS (Nat.le_of_ble_eq_true rfl) dX7_copyFrom_85
theorem e_X7_copyFrom_85L {v0 : Int32} {v1 : Int32} {v2 : Nat} {v3 : Int32} {v4 : Nat} {x0 x1 x2 : Option Value} (hS : S v2 = 11) : Wp S N (d + 1) MX7_copyFrom 85 [x0, x1, x2] [.int v0, .int v1, .ref v2, .int v3, .ref v4] I J P Q ↔ (S v2 = 11 ∧ S v4 = 11 ∧ ¬ v3 < 0 ∧ ¬ v1 < 0 ∧ ¬ v0 < 0 ∧ v3.toNatClampNeg + v0.toNatClampNeg ≤ N v4 ∧ v1.toNatClampNeg + v0.toNatClampNeg ≤ N v2) ∧ Wp S N (d + 1) MX7_copyFrom 88 [x0, x1, x2] [] I (uA J v2 (va_cpy (J v4) (J v2) v3.toNatClampNeg v1.toNatClampNeg v0.toNatClampNeg)) P Q := wp_cpJ rfl rfl hS (Nat.le_of_ble_eq_true rfl) dX7_copyFrom_85
theorem e_X7_copyFrom_88 {w : Nat} {x1 x2 : Option Value} : Wp S N d MX7_copyFrom 88 [some (.ref w), x1, x2] [] I J P Q ↔ Wp S N d MX7_copyFrom 89 [some (.ref w), x1, x2] [.ref w] I J P Q := wp_lod (len := 1) rfl rfl rfl rfl dX7_copyFrom_88
theorem e_X7_copyFrom_89 {v0 : Nat} {w : Nat} {x0 x2 : Option Value} : Wp S N d MX7_copyFrom 89 [x0, some (.ref w), x2] [.ref v0] I J P Q ↔ Wp S N d MX7_copyFrom 90 [x0, some (.ref w), x2] [.ref w, .ref v0] I J P Q := wp_lod (len := 1) rfl rfl rfl rfl dX7_copyFrom_89
theorem e_X7_copyFrom_90 {v0 : Nat} {v1 : Nat} {x0 x1 x2 : Option Value} : Wp S N d MX7_copyFrom 90 [x0, x1, x2] [.ref v0, .ref v1] I J P Q ↔ S v0 = 7 ∧ Wp S N d MX7_copyFrom 93 [x0, x1, x2] [.int (I v0 7), .ref v1] I J P Q := wp_getf rfl rfl rfl rfl dX7_copyFrom_90
theorem e_X7_copyFrom_93 {v0 : Int32} {v1 : Nat} {x0 x1 x2 : Option Value} : Wp S N d MX7_copyFrom 93 [x0, x1, x2] [.int v0, .ref v1] I J P Q ↔ S v1 = 7 ∧ Wp S N d MX7_copyFrom 96 [x0, x1, x2] [] (u2 I v1 7 v0) J P Q := wp_putI rfl rfl rfl rfl dX7_copyFrom_93
theorem e_X7_copyFrom_96  {x0 x1 x2 : Option Value} : Wp S N d MX7_copyFrom 96 [x0, x1, x2] [] I J P Q ↔ Wp S N d MX7_copyFrom 97 [x0, x1, x2] [.int 0] I J P Q := wp_iconst (by decide) dX7_copyFrom_96
theorem e_X7_copyFrom_97 {v0 : Int32} {x0 x1 x2 : Option Value} : Wp S N d MX7_copyFrom 97 [x0, x1, x2] [.int v0] I J P Q ↔ Wp S N d MX7_copyFrom 98 [x0, kl x1, some (.int v0)] [] I J P Q := wp_sto (len := 1) rfl rfl rfl rfl (Nat.le_of_ble_eq_true rfl) rfl dX7_copyFrom_97
theorem e_X7_copyFrom_98 {w : Int32} {x0 x1 : Option Value} : Wp S N d MX7_copyFrom 98 [x0, x1, some (.int w)] [] I J P Q ↔ Wp S N d MX7_copyFrom 99 [x0, x1, some (.int w)] [.int w] I J P Q := wp_lod (len := 1) rfl rfl rfl rfl dX7_copyFrom_98
theorem e_X7_copyFrom_99 {v0 : Int32} {x0 x1 x2 : Option Value} : Wp S N d MX7_copyFrom 99 [x0, x1, x2] [.int v0] I J P Q ↔ Wp S N d MX7_copyFrom 101 [x0, x1, x2] [.int 6, .int v0] I J P Q := wp_bipush (by decide) dX7_copyFrom_99
theorem e_X7_copyFrom_101 {v0 : Int32} {v1 : Int32} {x0 x1 x2 : Option Value} : Wp S N d MX7_copyFrom 101 [x0, x1, x2] [.int v0, .int v1] I J P Q ↔ (v0 ≤ v1 → Wp S N d MX7_copyFrom 125 [x0, x1, x2] [] I J P Q) ∧ (¬ v0 ≤ v1 → Wp S N d MX7_copyFrom 104 [x0, x1, x2] [] I J P Q) := wp_br rfl rfl (by decide) dX7_copyFrom_101
theorem e_X7_copyFrom_104 {w : Nat} {x1 x2 : Option Value} : Wp S N d MX7_copyFrom 104 [some (.ref w), x1, x2] [] I J P Q ↔ Wp S N d MX7_copyFrom 105 [some (.ref w), x1, x2] [.ref w] I J P Q := wp_lod (len := 1) rfl rfl rfl rfl dX7_copyFrom_104
theorem e_X7_copyFrom_105 {v0 : Nat} {x0 x1 x2 : Option Value} : Wp S N d MX7_copyFrom 105 [x0, x1, x2] [.ref v0] I J P Q ↔ S v0 = 7 ∧ Wp S N d MX7_copyFrom 108 [x0, x1, x2] [va_rf (P v0 8)] I J P Q := wp_getf rfl rfl rfl rfl dX7_copyFrom_105
theorem e_X7_copyFrom_108 {v0 : Nat} {w : Int32} {x0 x1 : Option Value} : Wp S N d MX7_copyFrom 108 [x0, x1, some (.int w)] [.ref v0] I J P Q ↔ Wp S N d MX7_copyFrom 109 [x0, x1, some (.int w)] [.int w, .ref v0] I J P Q := wp_lod (len := 1) rfl rfl rfl rfl dX7_copyFrom_108
theorem e_X7_copyFrom_109 {v0 : Int32} {v1 : Nat} {x0 x1 x2 : Option Value} : Wp S N d MX7_copyFrom 109 [x0, x1, x2] [.int v0, .ref v1] I J P Q ↔ ((S v1 = 12 ∨ S v1 = 13 ∨ S v1 = 14) ∧ vp_in v0 (N v1)) ∧ Wp S N d MX7_copyFrom 110 [x0, x1, x2] [va_rf (P v1 v0.toNatClampNeg)] I J P Q := wp_ald rfl rfl dX7_copyFrom_109
theorem e_X7_copyFrom_110 {v0 : Nat} {w : Nat} {x0 x2 : Option Value} : Wp S N d MX7_copyFrom 110 [x0, some (.ref w), x2] [.ref v0] I J P Q ↔ Wp S N d MX7_copyFrom 111 [x0, some (.ref w), x2] [.ref w, .ref v0] I J P Q := wp_lod (len := 1) rfl rfl rfl rfl dX7_copyFrom_110
theorem e_X7_copyFrom_111 {v0 : Nat} {v1 : Nat} {x0 x1 x2 : Option Value} : Wp S N d MX7_copyFrom 111 [x0, x1, x2] [.ref v0, .ref v1] I J P Q ↔ S v0 = 7 ∧ Wp S N d MX7_copyFrom 114 [x0, x1, x2] [va_rf (P v0 8), .ref v1] I J P Q := wp_getf rfl rfl rfl rfl dX7_copyFrom_111
theorem e_X7_copyFrom_114 {v0 : Nat} {v1 : Nat} {w : Int32} {x0 x1 : Option Value} : Wp S N d MX7_copyFrom 114 [x0, x1, some (.int w)] [.ref v0, .ref v1] I J P Q ↔ Wp S N d MX7_copyFrom 115 [x0, x1, some (.int w)] [.int w, .ref v0, .ref v1] I J P Q := wp_lod (len := 1) rfl rfl rfl rfl dX7_copyFrom_114
theorem e_X7_copyFrom_115 {v0 : Int32} {v1 : Nat} {v2 : Nat} {x0 x1 x2 : Option Value} : Wp S N d MX7_copyFrom 115 [x0, x1, x2] [.int v0, .ref v1, .ref v2] I J P Q ↔ ((S v1 = 12 ∨ S v1 = 13 ∨ S v1 = 14) ∧ vp_in v0 (N v1)) ∧ Wp S N d MX7_copyFrom 116 [x0, x1, x2] [va_rf (P v1 v0.toNatClampNeg), .ref v2] I J P Q := wp_ald rfl rfl dX7_copyFrom_115
theorem e_X7_copyFrom_116 {v0 : Nat} {v1 : Nat} {x0 x1 x2 : Option Value} : Wp S N (d + 1) MX7_copyFrom 116 [x0, x1, x2] [.ref v0, .ref v1] I J P Q ↔ S v1 = 2 ∧ CWp S N d MX2_copyFrom [.ref v1, .ref v0] I J P (fun r I1 J1 P1 => Wp S N (d + 1) MX7_copyFrom 119 [x0, x1, x2] (r.toList ++ []) I1 J1 P1 Q) := wp_callV (M' := MX2_copyFrom) (As := [.ref v0]) rfl rfl rfl rfl (by decide) (Nat.le_of_ble_eq_true rfl) dX7_copyFrom_116
theorem e_X7_copyFrom_119 {w : Int32} {x0 x1 : Option Value} : Wp S N d MX7_copyFrom 119 [x0, x1, some (.int w)] [] I J P Q ↔ Wp S N d MX7_copyFrom 122 [x0, kl x1, some (.int (w + 1))] [] I J P Q := wp_inc rfl rfl dX7_copyFrom_119
theorem e_X7_copyFrom_122  {x0 x1 x2 : Option Value} : Wp S N d MX7_copyFrom 122 [x0, x1, x2] [] I J P Q ↔ Wp S N d MX7_copyFrom 98 [x0, x1, x2] [] I J P Q := wp_go (len := 3) rfl (fun _ _ => rfl) rfl (by decide) dX7_copyFrom_122
theorem e_X7_copyFrom_125  {x0 x1 x2 : Option Value} : Wp S N d MX7_copyFrom 125 [x0, x1, x2] [] I J P Q ↔ Q none I J P := wp_vret rfl dX7_copyFrom_125
theorem dX7_clear_0 : decode cX7_clear 0 = .ok (.aload_n 0, 1) := by decide +kernel
theorem dX7_clear_1 : decode cX7_clear 1 = .ok (.iconst 1, 1) := by decide +kernel
theorem dX7_clear_2 : decode cX7_clear 2 = .ok (.putfield 9, 3) := by decide +kernel
theorem dX7_clear_5 : decode cX7_clear 5 = .ok (.aload_n 0, 1) := by decide +kernel
theorem dX7_clear_6 : decode cX7_clear 6 = .ok (.getfield 15, 3) := by decide +kernel
theorem dX7_clear_9 : decode cX7_clear 9 = .ok (.iconst 0, 1) := by decide +kernel
theorem dX7_clear_10 : decode cX7_clear 10 = .ok (.iconst 0, 1) := by decide +kernel
theorem dX7_clear_11 : decode cX7_clear 11 = .ok (.iastore, 1) := by decide +kernel
theorem dX7_clear_12 : decode cX7_clear 12 = .ok (.aload_n 0, 1) := by decide +kernel
theorem dX7_clear_13 : decode cX7_clear 13 = .ok (.getfield 19, 3) := by decide +kernel
theorem dX7_clear_16 : decode cX7_clear 16 = .ok (.iconst 0, 1) := by decide +kernel
theorem dX7_clear_17 : decode cX7_clear 17 = .ok (.iconst 0, 1) := by decide +kernel
theorem dX7_clear_18 : decode cX7_clear 18 = .ok (.iastore, 1) := by decide +kernel
theorem dX7_clear_19 : decode cX7_clear 19 = .ok (.iconst 0, 1) := by decide +kernel
theorem dX7_clear_20 : decode cX7_clear 20 = .ok (.istore_n 1, 1) := by decide +kernel
theorem dX7_clear_21 : decode cX7_clear 21 = .ok (.iload_n 1, 1) := by decide +kernel
theorem dX7_clear_22 : decode cX7_clear 22 = .ok (.iconst 5, 1) := by decide +kernel
theorem dX7_clear_23 : decode cX7_clear 23 = .ok (.if_icmp .ge 16, 3) := by decide +kernel
theorem dX7_clear_26 : decode cX7_clear 26 = .ok (.aload_n 0, 1) := by decide +kernel
theorem dX7_clear_27 : decode cX7_clear 27 = .ok (.getfield 22, 3) := by decide +kernel
theorem dX7_clear_30 : decode cX7_clear 30 = .ok (.iload_n 1, 1) := by decide +kernel
theorem dX7_clear_31 : decode cX7_clear 31 = .ok (.iconst 0, 1) := by decide +kernel
theorem dX7_clear_32 : decode cX7_clear 32 = .ok (.iastore, 1) := by decide +kernel
theorem dX7_clear_33 : decode cX7_clear 33 = .ok (.iinc 1 1, 3) := by decide +kernel
theorem dX7_clear_36 : decode cX7_clear 36 = .ok (.goto (-15), 3) := by decide +kernel
theorem dX7_clear_39 : decode cX7_clear 39 = .ok (.aload_n 0, 1) := by decide +kernel
theorem dX7_clear_40 : decode cX7_clear 40 = .ok (.iconst 0, 1) := by decide +kernel
theorem dX7_clear_41 : decode cX7_clear 41 = .ok (.putfield 44, 3) := by decide +kernel
theorem dX7_clear_44 : decode cX7_clear 44 = .ok (.aload_n 0, 1) := by decide +kernel
theorem dX7_clear_45 : decode cX7_clear 45 = .ok (.iconst 0, 1) := by decide +kernel
theorem dX7_clear_46 : decode cX7_clear 46 = .ok (.putfield 47, 3) := by decide +kernel
theorem dX7_clear_49 : decode cX7_clear 49 = .ok (.return_, 1) := by decide +kernel
theorem c_X7_clear {a0 : Nat} : CWp S N d MX7_clear [.ref a0] I J P Q ↔ Wp S N d MX7_clear 0 [some (.ref a0), none] [] I J P Q := by
  rw [cwp_iff]
  exact ⟨fun h => h.2, fun h => ⟨Nat.le_of_ble_eq_true rfl, h⟩⟩
theorem e_X7_clear_0 {w : Nat} {x1 : Option Value} : Wp S N d MX7_clear 0 [some (.ref w), x1] [] I J P Q ↔ Wp S N d MX7_clear 1 [some (.ref w), x1] [.ref w] I J P Q := wp_lod (len := 1) rfl rfl rfl rfl dX7_clear_0
theorem e_X7_clear_1 {v0 : Nat} {x0 x1 : Option Value} : Wp S N d MX7_clear 1 [x0, x1] [.ref v0] I J P Q ↔ Wp S N d MX7_clear 2 [x0, x1] [.int 1, .ref v0] I J P Q := wp_iconst (by decide) dX7_clear_1
theorem e_X7_clear_2 {v0 : Int32} {v1 : Nat} {x0 x1 : Option Value} : Wp S N d MX7_clear 2 [x0, x1] [.int v0, .ref v1] I J P Q ↔ S v1 = 7 ∧ Wp S N d MX7_clear 5 [x0, x1] [] (u2 I v1 0 v0) J P Q := wp_putI rfl rfl rfl rfl dX7_clear_2
theorem e_X7_clear_5 {w : Nat} {x1 : Option Value} : Wp S N d MX7_clear 5 [some (.ref w), x1] [] I J P Q ↔ Wp S N d MX7_clear 6 [some (.ref w), x1] [.ref w] I J P Q := wp_lod (len := 1) rfl rfl rfl rfl dX7_clear_5
theorem e_X7_clear_6 {v0 : Nat} {x0 x1 : Option Value} : Wp S N d MX7_clear 6 [x0, x1] [.ref v0] I J P Q ↔ S v0 = 7 ∧ Wp S N d MX7_clear 9 [x0, x1] [va_rf (P v0 1)] I J P Q := wp_getf rfl rfl rfl rfl dX7_clear_6
theorem e_X7_clear_9 {v0 : Nat} {x0 x1 : Option Value} : Wp S N d MX7_clear 9 [x0, x1] [.ref v0] I J P Q ↔ Wp S N d MX7_clear 10 [x0, x1] [.int 0, .ref v0] I J P Q := wp_iconst (by decide) dX7_clear_9
theorem e_X7_clear_10 {v0 : Int32} {v1 : Nat} {x0 x1 : Option Value} : Wp S N d MX7_clear 10 [x0, x1] [.int v0, .ref v1] I J P Q ↔ Wp S N d MX7_clear 11 [x0, x1] [.int 0, .int v0, .ref v1] I J P Q := wp_iconst (by decide) dX7_clear_10
theorem e_X7_clear_11 {v0 : Int32} {v1 : Int32} {v2 : Nat} {x0 x1 : Option Value} : Wp S N d MX7_clear 11 [x0, x1] [.int v0, .int v1, .ref v2] I J P Q ↔ (S v2 = 10 ∧ vp_in v1 (N v2)) ∧ Wp S N d MX7_clear 12 [x0, x1] [] (u2 I v2 v1.toNatClampNeg v0) J P Q := wp_ast rfl rfl dX7_clear_11
theorem e_X7_clear_12 {w : Nat} {x1 : Option Value} : Wp S N d MX7_clear 12 [some (.ref w), x1] [] I J P Q ↔ Wp S N d MX7_clear 13 [some (.ref w), x1] [.ref w] I J P Q := wp_lod (len := 1) rfl rfl rfl rfl dX7_clear_12
theorem e_X7_clear_13 {v0 : Nat} {x0 x1 : Option Value} : Wp S N d MX7_clear 13 [x0, x1] [.ref v0] I J P Q ↔ S v0 = 7 ∧ Wp S N d MX7_clear 16 [x0, x1] [va_rf (P v0 2)] I J P Q := wp_getf rfl rfl rfl rfl dX7_clear_13
theorem e_X7_clear_16 {v0 : Nat} {x0 x1 : Option Value} : Wp S N d MX7_clear 16 [x0, x1] [.ref v0] I J P Q ↔ Wp S N d MX7_clear 17 [x0, x1] [.int 0, .ref v0] I J P Q := wp_iconst (by decide) dX7_clear_16
theorem e_X7_clear_17 {v0 : Int32} {v1 : Nat} {x0 x1 : Option Value} : Wp S N d MX7_clear 17 [x0, x1] [.int v0, .ref v1] I J P Q ↔ Wp S N d MX7_clear 18 [x0, x1] [.int 0, .int v0, .ref v1] I J P Q := wp_iconst (by decide) dX7_clear_17
theorem e_X7_clear_18 {v0 : Int32} {v1 : Int32} {v2 : Nat} {x0 x1 : Option Value} : Wp S N d MX7_clear 18 [x0, x1] [.int v0, .int v1, .ref v2] I J P Q ↔ (S v2 = 10 ∧ vp_in v1 (N v2)) ∧ Wp S N d MX7_clear 19 [x0, x1] [] (u2 I v2 v1.toNatClampNeg v0) J P Q := wp_ast rfl rfl dX7_clear_18
theorem e_X7_clear_19  {x0 x1 : Option Value} : Wp S N d MX7_clear 19 [x0, x1] [] I J P Q ↔ Wp S N d MX7_clear 20 [x0, x1] [.int 0] I J P Q := wp_iconst (by decide) dX7_clear_19
theorem e_X7_clear_20 {v0 : Int32} {x0 x1 : Option Value} : Wp S N d MX7_clear 20 [x0, x1] [.int v0] I J P Q ↔ Wp S N d MX7_clear 21 [kl x0, some (.int v0)] [] I J P Q := wp_sto (len := 1) rfl rfl rfl rfl (Nat.le_of_ble_eq_true rfl) rfl dX7_clear_20
theorem e_X7_clear_21 {w : Int32} {x0 : Option Value} : Wp S N d MX7_clear 21 [x0, some (.int w)] [] I J P Q ↔ Wp S N d MX7_clear 22 [x0, some (.int w)] [.int w] I J P Q := wp_lod (len := 1) rfl rfl rfl rfl dX7_clear_21
theorem e_X7_clear_22 {v0 : Int32} {x0 x1 : Option Value} : Wp S N d MX7_clear 22 [x0, x1] [.int v0] I J P Q ↔ Wp S N d MX7_clear 23 [x0, x1] [.int 5, .int v0] I J P Q := wp_iconst (by decide) dX7_clear_22
theorem e_X7_clear_23 {v0 : Int32} {v1 : Int32} {x0 x1 : Option Value} : Wp S N d MX7_clear 23 [x0, x1] [.int v0, .int v1] I J P Q ↔ (v0 ≤ v1 → Wp S N d MX7_clear 39 [x0, x1] [] I J P Q) ∧ (¬ v0 ≤ v1 → Wp S N d MX7_clear 26 [x0, x1] [] I J P Q) := wp_br rfl rfl (by decide) dX7_clear_23
theorem e_X7_clear_26 {w : Nat} {x1 : Option Value} : Wp S N d MX7_clear 26 [some (.ref w), x1] [] I J P Q ↔ Wp S N d MX7_clear 27 [some (.ref w), x1] [.ref w] I J P Q := wp_lod (len := 1) rfl rfl rfl rfl dX7_clear_26
theorem e_X7_clear_27 {v0 : Nat} {x0 x1 : Option Value} : Wp S N d MX7_clear 27 [x0, x1] [.ref v0] I J P Q ↔ S v0 = 7 ∧ Wp S N d MX7_clear 30 [x0, x1] [va_rf (P v0 3)] I J P Q := wp_getf rfl rfl rfl rfl dX7_clear_27
theorem e_X7_clear_30 {v0 : Nat} {w : Int32} {x0 : Option Value} : Wp S N d MX7_clear 30 [x0, some (.int w)] [.ref v0] I J P Q ↔ Wp S N d MX7_clear 31 [x0, some (.int w)] [.int w, .ref v0] I J P Q := wp_lod (len := 1) rfl rfl rfl rfl dX7_clear_30
theorem e_X7_clear_31 {v0 : Int32} {v1 : Nat} {x0 x1 : Option Value} : Wp S N d MX7_clear 31 [x0, x1] [.int v0, .ref v1] I J P Q ↔ Wp S N d MX7_clear 32 [x0, x1] [.int 0, .int v0, .ref v1] I J P Q := wp_iconst (by decide) dX7_clear_31
theorem e_X7_clear_32 {v0 : Int32} {v1 : Int32} {v2 : Nat} {x0 x1 : Option Value} : Wp S N d MX7_clear 32 [x0, x1] [.int v0, .int v1, .ref v2] I J P Q ↔ (S v2 = 10 ∧ vp_in v1 (N v2)) ∧ Wp S N d MX7_clear 33 [x0, x1] [] (u2 I v2 v1.toNatClampNeg v0) J P Q := wp_ast rfl rfl dX7_clear_32
theorem e_X7_clear_33 {w : Int32} {x0 : Option Value} : Wp S N d MX7_clear 33 [x0, some (.int w)] [] I J P Q ↔ Wp S N d MX7_clear 36 [kl x0, some (.int (w + 1))] [] I J P Q := wp_inc rfl rfl dX7_clear_33
theorem e_X7_clear_36  {x0 x1 : Option Value} : Wp S N d MX7_clear 36 [x0, x1] [] I J P Q ↔ Wp S N d MX7_clear 21 [x0, x1] [] I J P Q := wp_go (len := 3) rfl (fun _ _ => rfl) rfl (by decide) dX7_clear_36
theorem e_X7_clear_39 {w : Nat} {x1 : Option Value} : Wp S N d MX7_clear 39 [some (.ref w), x1] [] I J P Q ↔ Wp S N d MX7_clear 40 [some (.ref w), x1] [.ref w] I J P Q := wp_lod (len := 1) rfl rfl rfl rfl dX7_clear_39
theorem e_X7_clear_40 {v0 : Nat} {x0 x1 : Option Value} : Wp S N d MX7_clear 40 [x0, x1] [.ref v0] I J P Q ↔ Wp S N d MX7_clear 41 [x0, x1] [.int 0, .ref v0] I J P Q := wp_iconst (by decide) dX7_clear_40
theorem e_X7_clear_41 {v0 : Int32} {v1 : Nat} {x0 x1 : Option Value} : Wp S N d MX7_clear 41 [x0, x1] [.int v0, .ref v1] I J P Q ↔ S v1 = 7 ∧ Wp S N d MX7_clear 44 [x0, x1] [] (u2 I v1 4 v0) J P Q := wp_putI rfl rfl rfl rfl dX7_clear_41
theorem e_X7_clear_44 {w : Nat} {x1 : Option Value} : Wp S N d MX7_clear 44 [some (.ref w), x1] [] I J P Q ↔ Wp S N d MX7_clear 45 [some (.ref w), x1] [.ref w] I J P Q := wp_lod (len := 1) rfl rfl rfl rfl dX7_clear_44
theorem e_X7_clear_45 {v0 : Nat} {x0 x1 : Option Value} : Wp S N d MX7_clear 45 [x0, x1] [.ref v0] I J P Q ↔ Wp S N d MX7_clear 46 [x0, x1] [.int 0, .ref v0] I J P Q := wp_iconst (by decide) dX7_clear_45
theorem e_X7_clear_46 {v0 : Int32} {v1 : Nat} {x0 x1 : Option Value} : Wp S N d MX7_clear 46 [x0, x1] [.int v0, .ref v1] I J P Q ↔ S v1 = 7 ∧ Wp S N d MX7_clear 49 [x0, x1] [] (u2 I v1 7 v0) J P Q := wp_putI rfl rfl rfl rfl dX7_clear_46
theorem e_X7_clear_49  {x0 x1 : Option Value} : Wp S N d MX7_clear 49 [x0, x1] [] I J P Q ↔ Q none I J P := wp_vret rfl dX7_clear_49
theorem dX7_setBrackets_0 : decode cX7_setBrackets 0 = .ok (.iload_n 2, 1) := by decide +kernel
theorem dX7_setBrackets_1 : decode cX7_setBrackets 1 = .ok (.bipush 6, 2) := by decide +kernel
theorem dX7_setBrackets_3 : decode cX7_setBrackets 3 = .ok (.if_icmp .gt 9, 3) := by decide +kernel
theorem dX7_setBrackets_6 : decode cX7_setBrackets 6 = .ok (.aload_n 1, 1) := by decide +kernel
theorem dX7_setBrackets_7 : decode cX7_setBrackets 7 = .ok (.iconst 0, 1) := by decide +kernel
theorem dX7_setBrackets_8 : decode cX7_setBrackets 8 = .ok (.iaload, 1) := by decide +kernel
theorem dX7_setBrackets_9 : decode cX7_setBrackets 9 = .ok (.ifCond .eq 5, 3) := by decide +kernel
theorem dX7_setBrackets_12 : decode cX7_setBrackets 12 = .ok (.iconst 0, 1) := by decide +kernel
theorem dX7_setBrackets_13 : decode cX7_setBrackets 13 = .ok (.ireturn, 1) := by decide +kernel
theorem dX7_setBrackets_14 : decode cX7_setBrackets 14 = .ok (.iconst 0, 1) := by decide +kernel
theorem dX7_setBrackets_15 : decode cX7_setBrackets 15 = .ok (.istore_n 3, 1) := by decide +kernel
theorem dX7_setBrackets_16 : decode cX7_setBrackets 16 = .ok (.iload_n 3, 1) := by decide +kernel
theorem dX7_setBrackets_17 : decode cX7_setBrackets 17 = .ok (.iload_n 2, 1) := by decide +kernel
theorem dX7_setBrackets_18 : decode cX7_setBrackets 18 = .ok (.if_icmp .ge 70, 3) := by decide +kernel
theorem dX7_setBrackets_21 : decode cX7_setBrackets 21 = .ok (.aload_n 0, 1) := by decide +kernel
theorem dX7_setBrackets_22 : decode cX7_setBrackets 22 = .ok (.getfield 15, 3) := by decide +kernel
theorem dX7_setBrackets_25 : decode cX7_setBrackets 25 = .ok (.iload_n 3, 1) := by decide +kernel
theorem dX7_setBrackets_26 : decode cX7_setBrackets 26 = .ok (.aload_n 1, 1) := by decide +kernel
theorem dX7_setBrackets_27 : decode cX7_setBrackets 27 = .ok (.iconst 2, 1) := by decide +kernel
theorem dX7_setBrackets_28 : decode cX7_setBrackets 28 = .ok (.iload_n 3, 1) := by decide +kernel
theorem dX7_setBrackets_29 : decode cX7_setBrackets 29 = .ok (.imul, 1) := by decide +kernel
theorem dX7_setBrackets_30 : decode cX7_setBrackets 30 = .ok (.iaload, 1) := by decide +kernel
theorem dX7_setBrackets_31 : decode cX7_setBrackets 31 = .ok (.iastore, 1) := by decide +kernel
theorem dX7_setBrackets_32 : decode cX7_setBrackets 32 = .ok (.aload_n 0, 1) := by decide +kernel
theorem dX7_setBrackets_33 : decode cX7_setBrackets 33 = .ok (.getfield 19, 3) := by decide +kernel
theorem dX7_setBrackets_36 : decode cX7_setBrackets 36 = .ok (.iload_n 3, 1) := by decide +kernel
theorem dX7_setBrackets_37 : decode cX7_setBrackets 37 = .ok (.aload_n 1, 1) := by decide +kernel
theorem dX7_setBrackets_38 : decode cX7_setBrackets 38 = .ok (.iconst 2, 1) := by decide +kernel
theorem dX7_setBrackets_39 : decode cX7_setBrackets 39 = .ok (.iload_n 3, 1) := by decide +kernel
theorem dX7_setBrackets_40 : decode cX7_setBrackets 40 = .ok (.imul, 1) := by decide +kernel
theorem dX7_setBrackets_41 : decode cX7_setBrackets 41 = .ok (.iconst 1, 1) := by decide +kernel
theorem dX7_setBrackets_42 : decode cX7_setBrackets 42 = .ok (.iadd, 1) := by decide +kernel
theorem dX7_setBrackets_43 : decode cX7_setBrackets 43 = .ok (.iaload, 1) := by decide +kernel
theorem dX7_setBrackets_44 : decode cX7_setBrackets 44 = .ok (.iastore, 1) := by decide +kernel
theorem dX7_setBrackets_45 : decode cX7_setBrackets 45 = .ok (.aload_n 0, 1) := by decide +kernel
theorem dX7_setBrackets_46 : decode cX7_setBrackets 46 = .ok (.getfield 19, 3) := by decide +kernel
theorem dX7_setBrackets_49 : decode cX7_setBrackets 49 = .ok (.iload_n 3, 1) := by decide +kernel
theorem dX7_setBrackets_50 : decode cX7_setBrackets 50 = .ok (.iaload, 1) := by decide +kernel
theorem dX7_setBrackets_51 : decode cX7_setBrackets 51 = .ok (.sipush 999, 3) := by decide +kernel
theorem dX7_setBrackets_54 : decode cX7_setBrackets 54 = .ok (.if_icmp .le 5, 3) := by decide +kernel
theorem dX7_setBrackets_57 : decode cX7_setBrackets 57 = .ok (.iconst 0, 1) := by decide +kernel
theorem dX7_setBrackets_58 : decode cX7_setBrackets 58 = .ok (.ireturn, 1) := by decide +kernel
theorem dX7_setBrackets_59 : decode cX7_setBrackets 59 = .ok (.iload_n 3, 1) := by decide +kernel
theorem dX7_setBrackets_60 : decode cX7_setBrackets 60 = .ok (.ifCond .le 22, 3) := by decide +kernel
theorem dX7_setBrackets_63 : decode cX7_setBrackets 63 = .ok (.aload_n 0, 1) := by decide +kernel
theorem dX7_setBrackets_64 : decode cX7_setBrackets 64 = .ok (.getfield 15, 3) := by decide +kernel
theorem dX7_setBrackets_67 : decode cX7_setBrackets 67 = .ok (.iload_n 3, 1) := by decide +kernel
theorem dX7_setBrackets_68 : decode cX7_setBrackets 68 = .ok (.iaload, 1) := by decide +kernel
theorem dX7_setBrackets_69 : decode cX7_setBrackets 69 = .ok (.aload_n 0, 1) := by decide +kernel
theorem dX7_setBrackets_70 : decode cX7_setBrackets 70 = .ok (.getfield 15, 3) := by decide +kernel
theorem dX7_setBrackets_73 : decode cX7_setBrackets 73 = .ok (.iload_n 3, 1) := by decide +kernel
theorem dX7_setBrackets_74 : decode cX7_setBrackets 74 = .ok (.iconst 1, 1) := by decide +kernel
theorem dX7_setBrackets_75 : decode cX7_setBrackets 75 = .ok (.isub, 1) := by decide +kernel
theorem dX7_setBrackets_76 : decode cX7_setBrackets 76 = .ok (.iaload, 1) := by decide +kernel
theorem dX7_setBrackets_77 : decode cX7_setBrackets 77 = .ok (.if_icmp .gt 5, 3) := by decide +kernel
theorem dX7_setBrackets_80 : decode cX7_setBrackets 80 = .ok (.iconst 0, 1) := by decide +kernel
theorem dX7_setBrackets_81 : decode cX7_setBrackets 81 = .ok (.ireturn, 1) := by decide +kernel
theorem dX7_setBrackets_82 : decode cX7_setBrackets 82 = .ok (.iinc 3 1, 3) := by decide +kernel
theorem dX7_setBrackets_85 : decode cX7_setBrackets 85 = .ok (.goto (-69), 3) := by decide +kernel
theorem dX7_setBrackets_88 : decode cX7_setBrackets 88 = .ok (.aload_n 0, 1) := by decide +kernel
theorem dX7_setBrackets_89 : decode cX7_setBrackets 89 = .ok (.iload_n 2, 1) := by decide +kernel
theorem dX7_setBrackets_90 : decode cX7_setBrackets 90 = .ok (.putfield 9, 3) := by decide +kernel
theorem dX7_setBrackets_93 : decode cX7_setBrackets 93 = .ok (.iconst 1, 1) := by decide +kernel
theorem dX7_setBrackets_94 : decode cX7_setBrackets 94 = .ok (.ireturn, 1) := by decide +kernel
theorem c_X7_setBrackets {a0 : Nat} {a1 : Nat} {a2 : Int32} : CWp S N d MX7_setBrackets [.ref a0, .ref a1, .int a2] I J P Q ↔ Wp S N d MX7_setBrackets 0 [some (.ref a0), some (.ref a1), some (.int a2), none] [] I J P Q := by
  rw [cwp_iff]
  exact ⟨fun h => h.2, fun h => ⟨Nat.le_of_ble_eq_true rfl, h⟩⟩
theorem e_X7_setBrackets_0 {w : Int32} {x0 x1 x3 : Option Value} : Wp S N d MX7_setBrackets 0 [x0, x1, some (.int w), x3] [] I J P Q ↔ Wp S N d MX7_setBrackets 1 [x0, x1, some (.int w), x3] [.int w] I J P Q := wp_lod (len := 1) rfl rfl rfl rfl dX7_setBrackets_0
theorem e_X7_setBrackets_1 {v0 : Int32} {x0 x1 x2 x3 : Option Value} : Wp S N d MX7_setBrackets 1 [x0, x1, x2, x3] [.int v0] I J P Q ↔ Wp S N d MX7_setBrackets 3 [x0, x1, x2, x3] [.int 6, .int v0] I J P Q := wp_bipush (by decide) dX7_setBrackets_1
theorem e_X7_setBrackets_3 {v0 : Int32} {v1 : Int32} {x0 x1 x2 x3 : Option Value} : Wp S N d MX7_setBrackets 3 [x0, x1, x2, x3] [.int v0, .int v1] I J P Q ↔ (v0 < v1 → Wp S N d MX7_setBrackets 12 [x0, x1, x2, x3] [] I J P Q) ∧ (¬ v0 < v1 → Wp S N d MX7_setBrackets 6 [x0, x1, x2, x3] [] I J P Q) := wp_br rfl rfl (by decide) dX7_setBrackets_3
theorem e_X7_setBrackets_6 {w : Nat} {x0 x2 x3 : Option Value} : Wp S N d MX7_setBrackets 6 [x0, some (.ref w), x2, x3] [] I J P Q ↔ Wp S N d MX7_setBrackets 7 [x0, some (.ref w), x2, x3] [.ref w] I J P Q := wp_lod (len := 1) rfl rfl rfl rfl dX7_setBrackets_6
theorem e_X7_setBrackets_7 {v0 : Nat} {x0 x1 x2 x3 : Option Value} : Wp S N d MX7_setBrackets 7 [x0, x1, x2, x3] [.ref v0] I J P Q ↔ Wp S N d MX7_setBrackets 8 [x0, x1, x2, x3] [.int 0, .ref v0] I J P Q := wp_iconst (by decide) dX7_setBrackets_7
theorem e_X7_setBrackets_8 {v0 : Int32} {v1 : Nat} {x0 x1 x2 x3 : Option Value} : Wp S N d MX7_setBrackets 8 [x0, x1, x2, x3] [.int v0, .ref v1] I J P Q ↔ (S v1 = 10 ∧ vp_in v0 (N v1)) ∧ Wp S N d MX7_setBrackets 9 [x0, x1, x2, x3] [.int (I v1 v0.toNatClampNeg)] I J P Q := wp_ald rfl rfl dX7_setBrackets_8
theorem e_X7_setBrackets_9 {v0 : Int32} {x0 x1 x2 x3 : Option Value} : Wp S N d MX7_setBrackets 9 [x0, x1, x2, x3] [.int v0] I J P Q ↔ (v0 = 0 → Wp S N d MX7_setBrackets 14 [x0, x1, x2, x3] [] I J P Q) ∧ (¬ v0 = 0 → Wp S N d MX7_setBrackets 12 [x0, x1, x2, x3] [] I J P Q) := wp_br rfl rfl (by decide) dX7_setBrackets_9
theorem e_X7_setBrackets_12  {x0 x1 x2 x3 : Option Value} : Wp S N d MX7_setBrackets 12 [x0, x1, x2, x3] [] I J P Q ↔ Wp S N d MX7_setBrackets 13 [x0, x1, x2, x3] [.int 0] I J P Q := wp_iconst (by decide) dX7_setBrackets_12
theorem e_X7_setBrackets_13 {v0 : Int32} (hb : isB v0) {x0 x1 x2 x3 : Option Value} : Wp S N d MX7_setBrackets 13 [x0, x1, x2, x3] [.int v0] I J P Q ↔ Q (some (.int v0)) I J P := wp_zret rfl dX7_setBrackets_13 hb
theorem e_X7_setBrackets_14  {x0 x1 x2 x3 : Option Value} : Wp S N d MX7_setBrackets 14 [x0, x1, x2, x3] [] I J P Q ↔ Wp S N d MX7_setBrackets 15 [x0, x1, x2, x3] [.int 0] I J P Q := wp_iconst (by decide) dX7_setBrackets_14
theorem e_X7_setBrackets_15 {v0 : Int32} {x0 x1 x2 x3 : Option Value} : Wp S N d MX7_setBrackets 15 [x0, x1, x2, x3] [.int v0] I J P Q ↔ Wp S N d MX7_setBrackets 16 [x0, x1, kl x2, some (.int v0)] [] I J P Q := wp_sto (len := 1) rfl rfl rfl rfl (Nat.le_of_ble_eq_true rfl) rfl dX7_setBrackets_15
theorem e_X7_setBrackets_16 {w : Int32} {x0 x1 x2 : Option Value} : Wp S N d MX7_setBrackets 16 [x0, x1, x2, some (.int w)] [] I J P Q ↔ Wp S N d MX7_setBrackets 17 [x0, x1, x2, some (.int w)] [.int w] I J P Q := wp_lod (len := 1) rfl rfl rfl rfl dX7_setBrackets_16
theorem e_X7_setBrackets_17 {v0 : Int32} {w : Int32} {x0 x1 x3 : Option Value} : Wp S N d MX7_setBrackets 17 [x0, x1, some (.int w), x3] [.int v0] I J P Q ↔ Wp S N d MX7_setBrackets 18 [x0, x1, some (.int w), x3] [.int w, .int v0] I J P Q := wp_lod (len := 1) rfl rfl rfl rfl dX7_setBrackets_17
theorem e_X7_setBrackets_18 {v0 : Int32} {v1 : Int32} {x0 x1 x2 x3 : Option Value} : Wp S N d MX7_setBrackets 18 [x0, x1, x2, x3] [.int v0, .int v1] I J P Q ↔ (v0 ≤ v1 → Wp S N d MX7_setBrackets 88 [x0, x1, x2, x3] [] I J P Q) ∧ (¬ v0 ≤ v1 → Wp S N d MX7_setBrackets 21 [x0, x1, x2, x3] [] I J P Q) := wp_br rfl rfl (by decide) dX7_setBrackets_18
theorem e_X7_setBrackets_21 {w : Nat} {x1 x2 x3 : Option Value} : Wp S N d MX7_setBrackets 21 [some (.ref w), x1, x2, x3] [] I J P Q ↔ Wp S N d MX7_setBrackets 22 [some (.ref w), x1, x2, x3] [.ref w] I J P Q := wp_lod (len := 1) rfl rfl rfl rfl dX7_setBrackets_21
theorem e_X7_setBrackets_22 {v0 : Nat} {x0 x1 x2 x3 : Option Value} : Wp S N d MX7_setBrackets 22 [x0, x1, x2, x3] [.ref v0] I J P Q ↔ S v0 = 7 ∧ Wp S N d MX7_setBrackets 25 [x0, x1, x2, x3] [va_rf (P v0 1)] I J P Q := wp_getf rfl rfl rfl rfl dX7_setBrackets_22
theorem e_X7_setBrackets_25 {v0 : Nat} {w : Int32} {x0 x1 x2 : Option Value} : Wp S N d MX7_setBrackets 25 [x0, x1, x2, some (.int w)] [.ref v0] I J P Q ↔ Wp S N d MX7_setBrackets 26 [x0, x1, x2, some (.int w)] [.int w, .ref v0] I J P Q := wp_lod (len := 1) rfl rfl rfl rfl dX7_setBrackets_25
theorem e_X7_setBrackets_26 {v0 : Int32} {v1 : Nat} {w : Nat} {x0 x2 x3 : Option Value} : Wp S N d MX7_setBrackets 26 [x0, some (.ref w), x2, x3] [.int v0, .ref v1] I J P Q ↔ Wp S N d MX7_setBrackets 27 [x0, some (.ref w), x2, x3] [.ref w, .int v0, .ref v1] I J P Q := wp_lod (len := 1) rfl rfl rfl rfl dX7_setBrackets_26
theorem e_X7_setBrackets_27 {v0 : Nat} {v1 : Int32} {v2 : Nat} {x0 x1 x2 x3 : Option Value} : Wp S N d MX7_setBrackets 27 [x0, x1, x2, x3] [.ref v0, .int v1, .ref v2] I J P Q ↔ Wp S N d MX7_setBrackets 28 [x0, x1, x2, x3] [.int 2, .ref v0, .int v1, .ref v2] I J P Q := wp_iconst (by decide) dX7_setBrackets_27
theorem e_X7_setBrackets_28 {v0 : Int32} {v1 : Nat} {v2 : Int32} {v3 : Nat} {w : Int32} {x0 x1 x2 : Option Value} : Wp S N d MX7_setBrackets 28 [x0, x1, x2, some (.int w)] [.int v0, .ref v1, .int v2, .ref v3] I J P Q ↔ Wp S N d MX7_setBrackets 29 [x0, x1, x2, some (.int w)] [.int w, .int v0, .ref v1, .int v2, .ref v3] I J P Q := wp_lod (len := 1) rfl rfl rfl rfl dX7_setBrackets_28
theorem e_X7_setBrackets_29 {v0 : Int32} {v1 : Int32} {v2 : Nat} {v3 : Int32} {v4 : Nat} {x0 x1 x2 x3 : Option Value} : Wp S N d MX7_setBrackets 29 [x0, x1, x2, x3] [.int v0, .int v1, .ref v2, .int v3, .ref v4] I J P Q ↔ Wp S N d MX7_setBrackets 30 [x0, x1, x2, x3] [.int (v1 * v0), .ref v2, .int v3, .ref v4] I J P Q := wp_alu (len := 1) rfl rfl rfl dX7_setBrackets_29
theorem e_X7_setBrackets_30 {v0 : Int32} {v1 : Nat} {v2 : Int32} {v3 : Nat} {x0 x1 x2 x3 : Option Value} : Wp S N d MX7_setBrackets 30 [x0, x1, x2, x3] [.int v0, .ref v1, .int v2, .ref v3] I J P Q ↔ (S v1 = 10 ∧ vp_in v0 (N v1)) ∧ Wp S N d MX7_setBrackets 31 [x0, x1, x2, x3] [.int (I v1 v0.toNatClampNeg), .int v2, .ref v3] I J P Q := wp_ald rfl rfl dX7_setBrackets_30
theorem e_X7_setBrackets_31 {v0 : Int32} {v1 : Int32} {v2 : Nat} {x0 x1 x2 x3 : Option Value} : Wp S N d MX7_setBrackets 31 [x0, x1, x2, x3] [.int v0, .int v1, .ref v2] I J P Q ↔ (S v2 = 10 ∧ vp_in v1 (N v2)) ∧ Wp S N d MX7_setBrackets 32 [x0, x1, x2, x3] [] (u2 I v2 v1.toNatClampNeg v0) J P Q := wp_ast rfl rfl dX7_setBrackets_31
theorem e_X7_setBrackets_32 {w : Nat} {x1 x2 x3 : Option Value} : Wp S N d MX7_setBrackets 32 [some (.ref w), x1, x2, x3] [] I J P Q ↔ Wp S N d MX7_setBrackets 33 [some (.ref w), x1, x2, x3] [.ref w] I J P Q := wp_lod (len := 1) rfl rfl rfl rfl dX7_setBrackets_32
theorem e_X7_setBrackets_33 {v0 : Nat} {x0 x1 x2 x3 : Option Value} : Wp S N d MX7_setBrackets 33 [x0, x1, x2, x3] [.ref v0] I J P Q ↔ S v0 = 7 ∧ Wp S N d MX7_setBrackets 36 [x0, x1, x2, x3] [va_rf (P v0 2)] I J P Q := wp_getf rfl rfl rfl rfl dX7_setBrackets_33
theorem e_X7_setBrackets_36 {v0 : Nat} {w : Int32} {x0 x1 x2 : Option Value} : Wp S N d MX7_setBrackets 36 [x0, x1, x2, some (.int w)] [.ref v0] I J P Q ↔ Wp S N d MX7_setBrackets 37 [x0, x1, x2, some (.int w)] [.int w, .ref v0] I J P Q := wp_lod (len := 1) rfl rfl rfl rfl dX7_setBrackets_36
theorem e_X7_setBrackets_37 {v0 : Int32} {v1 : Nat} {w : Nat} {x0 x2 x3 : Option Value} : Wp S N d MX7_setBrackets 37 [x0, some (.ref w), x2, x3] [.int v0, .ref v1] I J P Q ↔ Wp S N d MX7_setBrackets 38 [x0, some (.ref w), x2, x3] [.ref w, .int v0, .ref v1] I J P Q := wp_lod (len := 1) rfl rfl rfl rfl dX7_setBrackets_37
theorem e_X7_setBrackets_38 {v0 : Nat} {v1 : Int32} {v2 : Nat} {x0 x1 x2 x3 : Option Value} : Wp S N d MX7_setBrackets 38 [x0, x1, x2, x3] [.ref v0, .int v1, .ref v2] I J P Q ↔ Wp S N d MX7_setBrackets 39 [x0, x1, x2, x3] [.int 2, .ref v0, .int v1, .ref v2] I J P Q := wp_iconst (by decide) dX7_setBrackets_38
theorem e_X7_setBrackets_39 {v0 : Int32} {v1 : Nat} {v2 : Int32} {v3 : Nat} {w : Int32} {x0 x1 x2 : Option Value} : Wp S N d MX7_setBrackets 39 [x0, x1, x2, some (.int w)] [.int v0, .ref v1, .int v2, .ref v3] I J P Q ↔ Wp S N d MX7_setBrackets 40 [x0, x1, x2, some (.int w)] [.int w, .int v0, .ref v1, .int v2, .ref v3] I J P Q := wp_lod (len := 1) rfl rfl rfl rfl dX7_setBrackets_39
theorem e_X7_setBrackets_40 {v0 : Int32} {v1 : Int32} {v2 : Nat} {v3 : Int32} {v4 : Nat} {x0 x1 x2 x3 : Option Value} : Wp S N d MX7_setBrackets 40 [x0, x1, x2, x3] [.int v0, .int v1, .ref v2, .int v3, .ref v4] I J P Q ↔ Wp S N d MX7_setBrackets 41 [x0, x1, x2, x3] [.int (v1 * v0), .ref v2, .int v3, .ref v4] I J P Q := wp_alu (len := 1) rfl rfl rfl dX7_setBrackets_40
theorem e_X7_setBrackets_41 {v0 : Int32} {v1 : Nat} {v2 : Int32} {v3 : Nat} {x0 x1 x2 x3 : Option Value} : Wp S N d MX7_setBrackets 41 [x0, x1, x2, x3] [.int v0, .ref v1, .int v2, .ref v3] I J P Q ↔ Wp S N d MX7_setBrackets 42 [x0, x1, x2, x3] [.int 1, .int v0, .ref v1, .int v2, .ref v3] I J P Q := wp_iconst (by decide) dX7_setBrackets_41
theorem e_X7_setBrackets_42 {v0 : Int32} {v1 : Int32} {v2 : Nat} {v3 : Int32} {v4 : Nat} {x0 x1 x2 x3 : Option Value} : Wp S N d MX7_setBrackets 42 [x0, x1, x2, x3] [.int v0, .int v1, .ref v2, .int v3, .ref v4] I J P Q ↔ Wp S N d MX7_setBrackets 43 [x0, x1, x2, x3] [.int (v1 + v0), .ref v2, .int v3, .ref v4] I J P Q := wp_alu (len := 1) rfl rfl rfl dX7_setBrackets_42
theorem e_X7_setBrackets_43 {v0 : Int32} {v1 : Nat} {v2 : Int32} {v3 : Nat} {x0 x1 x2 x3 : Option Value} : Wp S N d MX7_setBrackets 43 [x0, x1, x2, x3] [.int v0, .ref v1, .int v2, .ref v3] I J P Q ↔ (S v1 = 10 ∧ vp_in v0 (N v1)) ∧ Wp S N d MX7_setBrackets 44 [x0, x1, x2, x3] [.int (I v1 v0.toNatClampNeg), .int v2, .ref v3] I J P Q := wp_ald rfl rfl dX7_setBrackets_43
theorem e_X7_setBrackets_44 {v0 : Int32} {v1 : Int32} {v2 : Nat} {x0 x1 x2 x3 : Option Value} : Wp S N d MX7_setBrackets 44 [x0, x1, x2, x3] [.int v0, .int v1, .ref v2] I J P Q ↔ (S v2 = 10 ∧ vp_in v1 (N v2)) ∧ Wp S N d MX7_setBrackets 45 [x0, x1, x2, x3] [] (u2 I v2 v1.toNatClampNeg v0) J P Q := wp_ast rfl rfl dX7_setBrackets_44
theorem e_X7_setBrackets_45 {w : Nat} {x1 x2 x3 : Option Value} : Wp S N d MX7_setBrackets 45 [some (.ref w), x1, x2, x3] [] I J P Q ↔ Wp S N d MX7_setBrackets 46 [some (.ref w), x1, x2, x3] [.ref w] I J P Q := wp_lod (len := 1) rfl rfl rfl rfl dX7_setBrackets_45
theorem e_X7_setBrackets_46 {v0 : Nat} {x0 x1 x2 x3 : Option Value} : Wp S N d MX7_setBrackets 46 [x0, x1, x2, x3] [.ref v0] I J P Q ↔ S v0 = 7 ∧ Wp S N d MX7_setBrackets 49 [x0, x1, x2, x3] [va_rf (P v0 2)] I J P Q := wp_getf rfl rfl rfl rfl dX7_setBrackets_46
theorem e_X7_setBrackets_49 {v0 : Nat} {w : Int32} {x0 x1 x2 : Option Value} : Wp S N d MX7_setBrackets 49 [x0, x1, x2, some (.int w)] [.ref v0] I J P Q ↔ Wp S N d MX7_setBrackets 50 [x0, x1, x2, some (.int w)] [.int w, .ref v0] I J P Q := wp_lod (len := 1) rfl rfl rfl rfl dX7_setBrackets_49
theorem e_X7_setBrackets_50 {v0 : Int32} {v1 : Nat} {x0 x1 x2 x3 : Option Value} : Wp S N d MX7_setBrackets 50 [x0, x1, x2, x3] [.int v0, .ref v1] I J P Q ↔ (S v1 = 10 ∧ vp_in v0 (N v1)) ∧ Wp S N d MX7_setBrackets 51 [x0, x1, x2, x3] [.int (I v1 v0.toNatClampNeg)] I J P Q := wp_ald rfl rfl dX7_setBrackets_50
theorem e_X7_setBrackets_51 {v0 : Int32} {x0 x1 x2 x3 : Option Value} : Wp S N d MX7_setBrackets 51 [x0, x1, x2, x3] [.int v0] I J P Q ↔ Wp S N d MX7_setBrackets 54 [x0, x1, x2, x3] [.int 999, .int v0] I J P Q := wp_sipush (by decide) dX7_setBrackets_51
theorem e_X7_setBrackets_54 {v0 : Int32} {v1 : Int32} {x0 x1 x2 x3 : Option Value} : Wp S N d MX7_setBrackets 54 [x0, x1, x2, x3] [.int v0, .int v1] I J P Q ↔ (v1 ≤ v0 → Wp S N d MX7_setBrackets 59 [x0, x1, x2, x3] [] I J P Q) ∧ (¬ v1 ≤ v0 → Wp S N d MX7_setBrackets 57 [x0, x1, x2, x3] [] I J P Q) := wp_br rfl rfl (by decide) dX7_setBrackets_54
theorem e_X7_setBrackets_57  {x0 x1 x2 x3 : Option Value} : Wp S N d MX7_setBrackets 57 [x0, x1, x2, x3] [] I J P Q ↔ Wp S N d MX7_setBrackets 58 [x0, x1, x2, x3] [.int 0] I J P Q := wp_iconst (by decide) dX7_setBrackets_57
theorem e_X7_setBrackets_58 {v0 : Int32} (hb : isB v0) {x0 x1 x2 x3 : Option Value} : Wp S N d MX7_setBrackets 58 [x0, x1, x2, x3] [.int v0] I J P Q ↔ Q (some (.int v0)) I J P := wp_zret rfl dX7_setBrackets_58 hb
theorem e_X7_setBrackets_59 {w : Int32} {x0 x1 x2 : Option Value} : Wp S N d MX7_setBrackets 59 [x0, x1, x2, some (.int w)] [] I J P Q ↔ Wp S N d MX7_setBrackets 60 [x0, x1, x2, some (.int w)] [.int w] I J P Q := wp_lod (len := 1) rfl rfl rfl rfl dX7_setBrackets_59
theorem e_X7_setBrackets_60 {v0 : Int32} {x0 x1 x2 x3 : Option Value} : Wp S N d MX7_setBrackets 60 [x0, x1, x2, x3] [.int v0] I J P Q ↔ (v0 ≤ 0 → Wp S N d MX7_setBrackets 82 [x0, x1, x2, x3] [] I J P Q) ∧ (¬ v0 ≤ 0 → Wp S N d MX7_setBrackets 63 [x0, x1, x2, x3] [] I J P Q) := wp_br rfl rfl (by decide) dX7_setBrackets_60
theorem e_X7_setBrackets_63 {w : Nat} {x1 x2 x3 : Option Value} : Wp S N d MX7_setBrackets 63 [some (.ref w), x1, x2, x3] [] I J P Q ↔ Wp S N d MX7_setBrackets 64 [some (.ref w), x1, x2, x3] [.ref w] I J P Q := wp_lod (len := 1) rfl rfl rfl rfl dX7_setBrackets_63
theorem e_X7_setBrackets_64 {v0 : Nat} {x0 x1 x2 x3 : Option Value} : Wp S N d MX7_setBrackets 64 [x0, x1, x2, x3] [.ref v0] I J P Q ↔ S v0 = 7 ∧ Wp S N d MX7_setBrackets 67 [x0, x1, x2, x3] [va_rf (P v0 1)] I J P Q := wp_getf rfl rfl rfl rfl dX7_setBrackets_64
theorem e_X7_setBrackets_67 {v0 : Nat} {w : Int32} {x0 x1 x2 : Option Value} : Wp S N d MX7_setBrackets 67 [x0, x1, x2, some (.int w)] [.ref v0] I J P Q ↔ Wp S N d MX7_setBrackets 68 [x0, x1, x2, some (.int w)] [.int w, .ref v0] I J P Q := wp_lod (len := 1) rfl rfl rfl rfl dX7_setBrackets_67
theorem e_X7_setBrackets_68 {v0 : Int32} {v1 : Nat} {x0 x1 x2 x3 : Option Value} : Wp S N d MX7_setBrackets 68 [x0, x1, x2, x3] [.int v0, .ref v1] I J P Q ↔ (S v1 = 10 ∧ vp_in v0 (N v1)) ∧ Wp S N d MX7_setBrackets 69 [x0, x1, x2, x3] [.int (I v1 v0.toNatClampNeg)] I J P Q := wp_ald rfl rfl dX7_setBrackets_68
theorem e_X7_setBrackets_69 {v0 : Int32} {w : Nat} {x1 x2 x3 : Option Value} : Wp S N d MX7_setBrackets 69 [some (.ref w), x1, x2, x3] [.int v0] I J P Q ↔ Wp S N d MX7_setBrackets 70 [some (.ref w), x1, x2, x3] [.ref w, .int v0] I J P Q := wp_lod (len := 1) rfl rfl rfl rfl dX7_setBrackets_69
theorem e_X7_setBrackets_70 {v0 : Nat} {v1 : Int32} {x0 x1 x2 x3 : Option Value} : Wp S N d MX7_setBrackets 70 [x0, x1, x2, x3] [.ref v0, .int v1] I J P Q ↔ S v0 = 7 ∧ Wp S N d MX7_setBrackets 73 [x0, x1, x2, x3] [va_rf (P v0 1), .int v1] I J P Q := wp_getf rfl rfl rfl rfl dX7_setBrackets_70
theorem e_X7_setBrackets_73 {v0 : Nat} {v1 : Int32} {w : Int32} {x0 x1 x2 : Option Value} : Wp S N d MX7_setBrackets 73 [x0, x1, x2, some (.int w)] [.ref v0, .int v1] I J P Q ↔ Wp S N d MX7_setBrackets 74 [x0, x1, x2, some (.int w)] [.int w, .ref v0, .int v1] I J P Q := wp_lod (len := 1) rfl rfl rfl rfl dX7_setBrackets_73
theorem e_X7_setBrackets_74 {v0 : Int32} {v1 : Nat} {v2 : Int32} {x0 x1 x2 x3 : Option Value} : Wp S N d MX7_setBrackets 74 [x0, x1, x2, x3] [.int v0, .ref v1, .int v2] I J P Q ↔ Wp S N d MX7_setBrackets 75 [x0, x1, x2, x3] [.int 1, .int v0, .ref v1, .int v2] I J P Q := wp_iconst (by decide) dX7_setBrackets_74
theorem e_X7_setBrackets_75 {v0 : Int32} {v1 : Int32} {v2 : Nat} {v3 : Int32} {x0 x1 x2 x3 : Option Value} : Wp S N d MX7_setBrackets 75 [x0, x1, x2, x3] [.int v0, .int v1, .ref v2, .int v3] I J P Q ↔ Wp S N d MX7_setBrackets 76 [x0, x1, x2, x3] [.int (v1 - v0), .ref v2, .int v3] I J P Q := wp_alu (len := 1) rfl rfl rfl dX7_setBrackets_75
theorem e_X7_setBrackets_76 {v0 : Int32} {v1 : Nat} {v2 : Int32} {x0 x1 x2 x3 : Option Value} : Wp S N d MX7_setBrackets 76 [x0, x1, x2, x3] [.int v0, .ref v1, .int v2] I J P Q ↔ (S v1 = 10 ∧ vp_in v0 (N v1)) ∧ Wp S N d MX7_setBrackets 77 [x0, x1, x2, x3] [.int (I v1 v0.toNatClampNeg), .int v2] I J P Q := wp_ald rfl rfl dX7_setBrackets_76
theorem e_X7_setBrackets_77 {v0 : Int32} {v1 : Int32} {x0 x1 x2 x3 : Option Value} : Wp S N d MX7_setBrackets 77 [x0, x1, x2, x3] [.int v0, .int v1] I J P Q ↔ (v0 < v1 → Wp S N d MX7_setBrackets 82 [x0, x1, x2, x3] [] I J P Q) ∧ (¬ v0 < v1 → Wp S N d MX7_setBrackets 80 [x0, x1, x2, x3] [] I J P Q) := wp_br rfl rfl (by decide) dX7_setBrackets_77
theorem e_X7_setBrackets_80  {x0 x1 x2 x3 : Option Value} : Wp S N d MX7_setBrackets 80 [x0, x1, x2, x3] [] I J P Q ↔ Wp S N d MX7_setBrackets 81 [x0, x1, x2, x3] [.int 0] I J P Q := wp_iconst (by decide) dX7_setBrackets_80
theorem e_X7_setBrackets_81 {v0 : Int32} (hb : isB v0) {x0 x1 x2 x3 : Option Value} : Wp S N d MX7_setBrackets 81 [x0, x1, x2, x3] [.int v0] I J P Q ↔ Q (some (.int v0)) I J P := wp_zret rfl dX7_setBrackets_81 hb
theorem e_X7_setBrackets_82 {w : Int32} {x0 x1 x2 : Option Value} : Wp S N d MX7_setBrackets 82 [x0, x1, x2, some (.int w)] [] I J P Q ↔ Wp S N d MX7_setBrackets 85 [x0, x1, kl x2, some (.int (w + 1))] [] I J P Q := wp_inc rfl rfl dX7_setBrackets_82
theorem e_X7_setBrackets_85  {x0 x1 x2 x3 : Option Value} : Wp S N d MX7_setBrackets 85 [x0, x1, x2, x3] [] I J P Q ↔ Wp S N d MX7_setBrackets 16 [x0, x1, x2, x3] [] I J P Q := wp_go (len := 3) rfl (fun _ _ => rfl) rfl (by decide) dX7_setBrackets_85
theorem e_X7_setBrackets_88 {w : Nat} {x1 x2 x3 : Option Value} : Wp S N d MX7_setBrackets 88 [some (.ref w), x1, x2, x3] [] I J P Q ↔ Wp S N d MX7_setBrackets 89 [some (.ref w), x1, x2, x3] [.ref w] I J P Q := wp_lod (len := 1) rfl rfl rfl rfl dX7_setBrackets_88
theorem e_X7_setBrackets_89 {v0 : Nat} {w : Int32} {x0 x1 x3 : Option Value} : Wp S N d MX7_setBrackets 89 [x0, x1, some (.int w), x3] [.ref v0] I J P Q ↔ Wp S N d MX7_setBrackets 90 [x0, x1, some (.int w), x3] [.int w, .ref v0] I J P Q := wp_lod (len := 1) rfl rfl rfl rfl dX7_setBrackets_89
theorem e_X7_setBrackets_90 {v0 : Int32} {v1 : Nat} {x0 x1 x2 x3 : Option Value} : Wp S N d MX7_setBrackets 90 [x0, x1, x2, x3] [.int v0, .ref v1] I J P Q ↔ S v1 = 7 ∧ Wp S N d MX7_setBrackets 93 [x0, x1, x2, x3] [] (u2 I v1 0 v0) J P Q := wp_putI rfl rfl rfl rfl dX7_setBrackets_90
theorem e_X7_setBrackets_93  {x0 x1 x2 x3 : Option Value} : Wp S N d MX7_setBrackets 93 [x0, x1, x2, x3] [] I J P Q ↔ Wp S N d MX7_setBrackets 94 [x0, x1, x2, x3] [.int 1] I J P Q := wp_iconst (by decide) dX7_setBrackets_93
theorem e_X7_setBrackets_94 {v0 : Int32} (hb : isB v0) {x0 x1 x2 x3 : Option Value} : Wp S N d MX7_setBrackets 94 [x0, x1, x2, x3] [.int v0] I J P Q ↔ Q (some (.int v0)) I J P := wp_zret rfl dX7_setBrackets_94 hb
theorem dX7_setAllowance_0 : decode cX7_setAllowance 0 = .ok (.aload_n 0, 1) := by decide +kernel
theorem dX7_setAllowance_1 : decode cX7_setAllowance 1 = .ok (.getfield 22, 3) := by decide +kernel
theorem dX7_setAllowance_4 : decode cX7_setAllowance 4 = .ok (.iconst 0, 1) := by decide +kernel
theorem dX7_setAllowance_5 : decode cX7_setAllowance 5 = .ok (.iload_n 1, 1) := by decide +kernel
theorem dX7_setAllowance_6 : decode cX7_setAllowance 6 = .ok (.iastore, 1) := by decide +kernel
theorem dX7_setAllowance_7 : decode cX7_setAllowance 7 = .ok (.aload_n 0, 1) := by decide +kernel
theorem dX7_setAllowance_8 : decode cX7_setAllowance 8 = .ok (.getfield 22, 3) := by decide +kernel
theorem dX7_setAllowance_11 : decode cX7_setAllowance 11 = .ok (.iconst 1, 1) := by decide +kernel
theorem dX7_setAllowance_12 : decode cX7_setAllowance 12 = .ok (.iload_n 2, 1) := by decide +kernel
theorem dX7_setAllowance_13 : decode cX7_setAllowance 13 = .ok (.iastore, 1) := by decide +kernel
theorem dX7_setAllowance_14 : decode cX7_setAllowance 14 = .ok (.aload_n 0, 1) := by decide +kernel
theorem dX7_setAllowance_15 : decode cX7_setAllowance 15 = .ok (.getfield 22, 3) := by decide +kernel
theorem dX7_setAllowance_18 : decode cX7_setAllowance 18 = .ok (.iconst 2, 1) := by decide +kernel
theorem dX7_setAllowance_19 : decode cX7_setAllowance 19 = .ok (.iload_n 3, 1) := by decide +kernel
theorem dX7_setAllowance_20 : decode cX7_setAllowance 20 = .ok (.iastore, 1) := by decide +kernel
theorem dX7_setAllowance_21 : decode cX7_setAllowance 21 = .ok (.iload_n 3, 1) := by decide +kernel
theorem dX7_setAllowance_22 : decode cX7_setAllowance 22 = .ok (.sipush 999, 3) := by decide +kernel
theorem dX7_setAllowance_25 : decode cX7_setAllowance 25 = .ok (.if_icmp .gt 7, 3) := by decide +kernel
theorem dX7_setAllowance_28 : decode cX7_setAllowance 28 = .ok (.iconst 1, 1) := by decide +kernel
theorem dX7_setAllowance_29 : decode cX7_setAllowance 29 = .ok (.goto 4, 3) := by decide +kernel
theorem dX7_setAllowance_32 : decode cX7_setAllowance 32 = .ok (.iconst 0, 1) := by decide +kernel
theorem dX7_setAllowance_33 : decode cX7_setAllowance 33 = .ok (.ireturn, 1) := by decide +kernel
theorem c_X7_setAllowance {a0 : Nat} {a1 : Int32} {a2 : Int32} {a3 : Int32} : CWp S N d MX7_setAllowance [.ref a0, .int a1, .int a2, .int a3] I J P Q ↔ Wp S N d MX7_setAllowance 0 [some (.ref a0), some (.int a1), some (.int a2), some (.int a3)] [] I J P Q := by
  rw [cwp_iff]
  exact ⟨fun h => h.2, fun h => ⟨Nat.le_of_ble_eq_true rfl, h⟩⟩
theorem e_X7_setAllowance_0 {w : Nat} {x1 x2 x3 : Option Value} : Wp S N d MX7_setAllowance 0 [some (.ref w), x1, x2, x3] [] I J P Q ↔ Wp S N d MX7_setAllowance 1 [some (.ref w), x1, x2, x3] [.ref w] I J P Q := wp_lod (len := 1) rfl rfl rfl rfl dX7_setAllowance_0
theorem e_X7_setAllowance_1 {v0 : Nat} {x0 x1 x2 x3 : Option Value} : Wp S N d MX7_setAllowance 1 [x0, x1, x2, x3] [.ref v0] I J P Q ↔ S v0 = 7 ∧ Wp S N d MX7_setAllowance 4 [x0, x1, x2, x3] [va_rf (P v0 3)] I J P Q := wp_getf rfl rfl rfl rfl dX7_setAllowance_1
theorem e_X7_setAllowance_4 {v0 : Nat} {x0 x1 x2 x3 : Option Value} : Wp S N d MX7_setAllowance 4 [x0, x1, x2, x3] [.ref v0] I J P Q ↔ Wp S N d MX7_setAllowance 5 [x0, x1, x2, x3] [.int 0, .ref v0] I J P Q := wp_iconst (by decide) dX7_setAllowance_4
theorem e_X7_setAllowance_5 {v0 : Int32} {v1 : Nat} {w : Int32} {x0 x2 x3 : Option Value} : Wp S N d MX7_setAllowance 5 [x0, some (.int w), x2, x3] [.int v0, .ref v1] I J P Q ↔ Wp S N d MX7_setAllowance 6 [x0, some (.int w), x2, x3] [.int w, .int v0, .ref v1] I J P Q := wp_lod (len := 1) rfl rfl rfl rfl dX7_setAllowance_5
theorem e_X7_setAllowance_6 {v0 : Int32} {v1 : Int32} {v2 : Nat} {x0 x1 x2 x3 : Option Value} : Wp S N d MX7_setAllowance 6 [x0, x1, x2, x3] [.int v0, .int v1, .ref v2] I J P Q ↔ (S v2 = 10 ∧ vp_in v1 (N v2)) ∧ Wp S N d MX7_setAllowance 7 [x0, x1, x2, x3] [] (u2 I v2 v1.toNatClampNeg v0) J P Q := wp_ast rfl rfl dX7_setAllowance_6
theorem e_X7_setAllowance_7 {w : Nat} {x1 x2 x3 : Option Value} : Wp S N d MX7_setAllowance 7 [some (.ref w), x1, x2, x3] [] I J P Q ↔ Wp S N d MX7_setAllowance 8 [some (.ref w), x1, x2, x3] [.ref w] I J P Q := wp_lod (len := 1) rfl rfl rfl rfl dX7_setAllowance_7
theorem e_X7_setAllowance_8 {v0 : Nat} {x0 x1 x2 x3 : Option Value} : Wp S N d MX7_setAllowance 8 [x0, x1, x2, x3] [.ref v0] I J P Q ↔ S v0 = 7 ∧ Wp S N d MX7_setAllowance 11 [x0, x1, x2, x3] [va_rf (P v0 3)] I J P Q := wp_getf rfl rfl rfl rfl dX7_setAllowance_8
theorem e_X7_setAllowance_11 {v0 : Nat} {x0 x1 x2 x3 : Option Value} : Wp S N d MX7_setAllowance 11 [x0, x1, x2, x3] [.ref v0] I J P Q ↔ Wp S N d MX7_setAllowance 12 [x0, x1, x2, x3] [.int 1, .ref v0] I J P Q := wp_iconst (by decide) dX7_setAllowance_11
theorem e_X7_setAllowance_12 {v0 : Int32} {v1 : Nat} {w : Int32} {x0 x1 x3 : Option Value} : Wp S N d MX7_setAllowance 12 [x0, x1, some (.int w), x3] [.int v0, .ref v1] I J P Q ↔ Wp S N d MX7_setAllowance 13 [x0, x1, some (.int w), x3] [.int w, .int v0, .ref v1] I J P Q := wp_lod (len := 1) rfl rfl rfl rfl dX7_setAllowance_12
theorem e_X7_setAllowance_13 {v0 : Int32} {v1 : Int32} {v2 : Nat} {x0 x1 x2 x3 : Option Value} : Wp S N d MX7_setAllowance 13 [x0, x1, x2, x3] [.int v0, .int v1, .ref v2] I J P Q ↔ (S v2 = 10 ∧ vp_in v1 (N v2)) ∧ Wp S N d MX7_setAllowance 14 [x0, x1, x2, x3] [] (u2 I v2 v1.toNatClampNeg v0) J P Q := wp_ast rfl rfl dX7_setAllowance_13
theorem e_X7_setAllowance_14 {w : Nat} {x1 x2 x3 : Option Value} : Wp S N d MX7_setAllowance 14 [some (.ref w), x1, x2, x3] [] I J P Q ↔ Wp S N d MX7_setAllowance 15 [some (.ref w), x1, x2, x3] [.ref w] I J P Q := wp_lod (len := 1) rfl rfl rfl rfl dX7_setAllowance_14
theorem e_X7_setAllowance_15 {v0 : Nat} {x0 x1 x2 x3 : Option Value} : Wp S N d MX7_setAllowance 15 [x0, x1, x2, x3] [.ref v0] I J P Q ↔ S v0 = 7 ∧ Wp S N d MX7_setAllowance 18 [x0, x1, x2, x3] [va_rf (P v0 3)] I J P Q := wp_getf rfl rfl rfl rfl dX7_setAllowance_15
theorem e_X7_setAllowance_18 {v0 : Nat} {x0 x1 x2 x3 : Option Value} : Wp S N d MX7_setAllowance 18 [x0, x1, x2, x3] [.ref v0] I J P Q ↔ Wp S N d MX7_setAllowance 19 [x0, x1, x2, x3] [.int 2, .ref v0] I J P Q := wp_iconst (by decide) dX7_setAllowance_18
theorem e_X7_setAllowance_19 {v0 : Int32} {v1 : Nat} {w : Int32} {x0 x1 x2 : Option Value} : Wp S N d MX7_setAllowance 19 [x0, x1, x2, some (.int w)] [.int v0, .ref v1] I J P Q ↔ Wp S N d MX7_setAllowance 20 [x0, x1, x2, some (.int w)] [.int w, .int v0, .ref v1] I J P Q := wp_lod (len := 1) rfl rfl rfl rfl dX7_setAllowance_19
theorem e_X7_setAllowance_20 {v0 : Int32} {v1 : Int32} {v2 : Nat} {x0 x1 x2 x3 : Option Value} : Wp S N d MX7_setAllowance 20 [x0, x1, x2, x3] [.int v0, .int v1, .ref v2] I J P Q ↔ (S v2 = 10 ∧ vp_in v1 (N v2)) ∧ Wp S N d MX7_setAllowance 21 [x0, x1, x2, x3] [] (u2 I v2 v1.toNatClampNeg v0) J P Q := wp_ast rfl rfl dX7_setAllowance_20
theorem e_X7_setAllowance_21 {w : Int32} {x0 x1 x2 : Option Value} : Wp S N d MX7_setAllowance 21 [x0, x1, x2, some (.int w)] [] I J P Q ↔ Wp S N d MX7_setAllowance 22 [x0, x1, x2, some (.int w)] [.int w] I J P Q := wp_lod (len := 1) rfl rfl rfl rfl dX7_setAllowance_21
theorem e_X7_setAllowance_22 {v0 : Int32} {x0 x1 x2 x3 : Option Value} : Wp S N d MX7_setAllowance 22 [x0, x1, x2, x3] [.int v0] I J P Q ↔ Wp S N d MX7_setAllowance 25 [x0, x1, x2, x3] [.int 999, .int v0] I J P Q := wp_sipush (by decide) dX7_setAllowance_22
theorem e_X7_setAllowance_25 {v0 : Int32} {v1 : Int32} {x0 x1 x2 x3 : Option Value} : Wp S N d MX7_setAllowance 25 [x0, x1, x2, x3] [.int v0, .int v1] I J P Q ↔ (v0 < v1 → Wp S N d MX7_setAllowance 32 [x0, x1, x2, x3] [] I J P Q) ∧ (¬ v0 < v1 → Wp S N d MX7_setAllowance 28 [x0, x1, x2, x3] [] I J P Q) := wp_br rfl rfl (by decide) dX7_setAllowance_25
theorem e_X7_setAllowance_28  {x0 x1 x2 x3 : Option Value} : Wp S N d MX7_setAllowance 28 [x0, x1, x2, x3] [] I J P Q ↔ Wp S N d MX7_setAllowance 29 [x0, x1, x2, x3] [.int 1] I J P Q := wp_iconst (by decide) dX7_setAllowance_28
theorem e_X7_setAllowance_29 {v0 : Int32} {x0 x1 x2 x3 : Option Value} : Wp S N d MX7_setAllowance 29 [x0, x1, x2, x3] [.int v0] I J P Q ↔ Wp S N d MX7_setAllowance 33 [x0, x1, x2, x3] [.int v0] I J P Q := wp_go (len := 3) rfl (fun _ _ => rfl) rfl (by decide) dX7_setAllowance_29
theorem e_X7_setAllowance_32  {x0 x1 x2 x3 : Option Value} : Wp S N d MX7_setAllowance 32 [x0, x1, x2, x3] [] I J P Q ↔ Wp S N d MX7_setAllowance 33 [x0, x1, x2, x3] [.int 0] I J P Q := wp_iconst (by decide) dX7_setAllowance_32
theorem e_X7_setAllowance_33 {v0 : Int32} (hb : isB v0) {x0 x1 x2 x3 : Option Value} : Wp S N d MX7_setAllowance 33 [x0, x1, x2, x3] [.int v0] I J P Q ↔ Q (some (.int v0)) I J P := wp_zret rfl dX7_setAllowance_33 hb
theorem dX7_setMinimum_0 : decode cX7_setMinimum 0 = .ok (.aload_n 0, 1) := by decide +kernel
theorem dX7_setMinimum_1 : decode cX7_setMinimum 1 = .ok (.getfield 22, 3) := by decide +kernel
theorem dX7_setMinimum_4 : decode cX7_setMinimum 4 = .ok (.iconst 3, 1) := by decide +kernel
theorem dX7_setMinimum_5 : decode cX7_setMinimum 5 = .ok (.iload_n 1, 1) := by decide +kernel
theorem dX7_setMinimum_6 : decode cX7_setMinimum 6 = .ok (.iastore, 1) := by decide +kernel
theorem dX7_setMinimum_7 : decode cX7_setMinimum 7 = .ok (.aload_n 0, 1) := by decide +kernel
theorem dX7_setMinimum_8 : decode cX7_setMinimum 8 = .ok (.getfield 22, 3) := by decide +kernel
theorem dX7_setMinimum_11 : decode cX7_setMinimum 11 = .ok (.iconst 4, 1) := by decide +kernel
theorem dX7_setMinimum_12 : decode cX7_setMinimum 12 = .ok (.iload_n 2, 1) := by decide +kernel
theorem dX7_setMinimum_13 : decode cX7_setMinimum 13 = .ok (.iastore, 1) := by decide +kernel
theorem dX7_setMinimum_14 : decode cX7_setMinimum 14 = .ok (.iload_n 2, 1) := by decide +kernel
theorem dX7_setMinimum_15 : decode cX7_setMinimum 15 = .ok (.sipush 999, 3) := by decide +kernel
theorem dX7_setMinimum_18 : decode cX7_setMinimum 18 = .ok (.if_icmp .gt 7, 3) := by decide +kernel
theorem dX7_setMinimum_21 : decode cX7_setMinimum 21 = .ok (.iconst 1, 1) := by decide +kernel
theorem dX7_setMinimum_22 : decode cX7_setMinimum 22 = .ok (.goto 4, 3) := by decide +kernel
theorem dX7_setMinimum_25 : decode cX7_setMinimum 25 = .ok (.iconst 0, 1) := by decide +kernel
theorem dX7_setMinimum_26 : decode cX7_setMinimum 26 = .ok (.ireturn, 1) := by decide +kernel
theorem c_X7_setMinimum {a0 : Nat} {a1 : Int32} {a2 : Int32} : CWp S N d MX7_setMinimum [.ref a0, .int a1, .int a2] I J P Q ↔ Wp S N d MX7_setMinimum 0 [some (.ref a0), some (.int a1), some (.int a2)] [] I J P Q := by
  rw [cwp_iff]
  exact ⟨fun h => h.2, fun h => ⟨Nat.le_of_ble_eq_true rfl, h⟩⟩
theorem e_X7_setMinimum_0 {w : Nat} {x1 x2 : Option Value} : Wp S N d MX7_setMinimum 0 [some (.ref w), x1, x2] [] I J P Q ↔ Wp S N d MX7_setMinimum 1 [some (.ref w), x1, x2] [.ref w] I J P Q := wp_lod (len := 1) rfl rfl rfl rfl dX7_setMinimum_0
theorem e_X7_setMinimum_1 {v0 : Nat} {x0 x1 x2 : Option Value} : Wp S N d MX7_setMinimum 1 [x0, x1, x2] [.ref v0] I J P Q ↔ S v0 = 7 ∧ Wp S N d MX7_setMinimum 4 [x0, x1, x2] [va_rf (P v0 3)] I J P Q := wp_getf rfl rfl rfl rfl dX7_setMinimum_1
theorem e_X7_setMinimum_4 {v0 : Nat} {x0 x1 x2 : Option Value} : Wp S N d MX7_setMinimum 4 [x0, x1, x2] [.ref v0] I J P Q ↔ Wp S N d MX7_setMinimum 5 [x0, x1, x2] [.int 3, .ref v0] I J P Q := wp_iconst (by decide) dX7_setMinimum_4
theorem e_X7_setMinimum_5 {v0 : Int32} {v1 : Nat} {w : Int32} {x0 x2 : Option Value} : Wp S N d MX7_setMinimum 5 [x0, some (.int w), x2] [.int v0, .ref v1] I J P Q ↔ Wp S N d MX7_setMinimum 6 [x0, some (.int w), x2] [.int w, .int v0, .ref v1] I J P Q := wp_lod (len := 1) rfl rfl rfl rfl dX7_setMinimum_5
theorem e_X7_setMinimum_6 {v0 : Int32} {v1 : Int32} {v2 : Nat} {x0 x1 x2 : Option Value} : Wp S N d MX7_setMinimum 6 [x0, x1, x2] [.int v0, .int v1, .ref v2] I J P Q ↔ (S v2 = 10 ∧ vp_in v1 (N v2)) ∧ Wp S N d MX7_setMinimum 7 [x0, x1, x2] [] (u2 I v2 v1.toNatClampNeg v0) J P Q := wp_ast rfl rfl dX7_setMinimum_6
theorem e_X7_setMinimum_7 {w : Nat} {x1 x2 : Option Value} : Wp S N d MX7_setMinimum 7 [some (.ref w), x1, x2] [] I J P Q ↔ Wp S N d MX7_setMinimum 8 [some (.ref w), x1, x2] [.ref w] I J P Q := wp_lod (len := 1) rfl rfl rfl rfl dX7_setMinimum_7
theorem e_X7_setMinimum_8 {v0 : Nat} {x0 x1 x2 : Option Value} : Wp S N d MX7_setMinimum 8 [x0, x1, x2] [.ref v0] I J P Q ↔ S v0 = 7 ∧ Wp S N d MX7_setMinimum 11 [x0, x1, x2] [va_rf (P v0 3)] I J P Q := wp_getf rfl rfl rfl rfl dX7_setMinimum_8
theorem e_X7_setMinimum_11 {v0 : Nat} {x0 x1 x2 : Option Value} : Wp S N d MX7_setMinimum 11 [x0, x1, x2] [.ref v0] I J P Q ↔ Wp S N d MX7_setMinimum 12 [x0, x1, x2] [.int 4, .ref v0] I J P Q := wp_iconst (by decide) dX7_setMinimum_11
theorem e_X7_setMinimum_12 {v0 : Int32} {v1 : Nat} {w : Int32} {x0 x1 : Option Value} : Wp S N d MX7_setMinimum 12 [x0, x1, some (.int w)] [.int v0, .ref v1] I J P Q ↔ Wp S N d MX7_setMinimum 13 [x0, x1, some (.int w)] [.int w, .int v0, .ref v1] I J P Q := wp_lod (len := 1) rfl rfl rfl rfl dX7_setMinimum_12
theorem e_X7_setMinimum_13 {v0 : Int32} {v1 : Int32} {v2 : Nat} {x0 x1 x2 : Option Value} : Wp S N d MX7_setMinimum 13 [x0, x1, x2] [.int v0, .int v1, .ref v2] I J P Q ↔ (S v2 = 10 ∧ vp_in v1 (N v2)) ∧ Wp S N d MX7_setMinimum 14 [x0, x1, x2] [] (u2 I v2 v1.toNatClampNeg v0) J P Q := wp_ast rfl rfl dX7_setMinimum_13
theorem e_X7_setMinimum_14 {w : Int32} {x0 x1 : Option Value} : Wp S N d MX7_setMinimum 14 [x0, x1, some (.int w)] [] I J P Q ↔ Wp S N d MX7_setMinimum 15 [x0, x1, some (.int w)] [.int w] I J P Q := wp_lod (len := 1) rfl rfl rfl rfl dX7_setMinimum_14
theorem e_X7_setMinimum_15 {v0 : Int32} {x0 x1 x2 : Option Value} : Wp S N d MX7_setMinimum 15 [x0, x1, x2] [.int v0] I J P Q ↔ Wp S N d MX7_setMinimum 18 [x0, x1, x2] [.int 999, .int v0] I J P Q := wp_sipush (by decide) dX7_setMinimum_15
theorem e_X7_setMinimum_18 {v0 : Int32} {v1 : Int32} {x0 x1 x2 : Option Value} : Wp S N d MX7_setMinimum 18 [x0, x1, x2] [.int v0, .int v1] I J P Q ↔ (v0 < v1 → Wp S N d MX7_setMinimum 25 [x0, x1, x2] [] I J P Q) ∧ (¬ v0 < v1 → Wp S N d MX7_setMinimum 21 [x0, x1, x2] [] I J P Q) := wp_br rfl rfl (by decide) dX7_setMinimum_18
theorem e_X7_setMinimum_21  {x0 x1 x2 : Option Value} : Wp S N d MX7_setMinimum 21 [x0, x1, x2] [] I J P Q ↔ Wp S N d MX7_setMinimum 22 [x0, x1, x2] [.int 1] I J P Q := wp_iconst (by decide) dX7_setMinimum_21
theorem e_X7_setMinimum_22 {v0 : Int32} {x0 x1 x2 : Option Value} : Wp S N d MX7_setMinimum 22 [x0, x1, x2] [.int v0] I J P Q ↔ Wp S N d MX7_setMinimum 26 [x0, x1, x2] [.int v0] I J P Q := wp_go (len := 3) rfl (fun _ _ => rfl) rfl (by decide) dX7_setMinimum_22
theorem e_X7_setMinimum_25  {x0 x1 x2 : Option Value} : Wp S N d MX7_setMinimum 25 [x0, x1, x2] [] I J P Q ↔ Wp S N d MX7_setMinimum 26 [x0, x1, x2] [.int 0] I J P Q := wp_iconst (by decide) dX7_setMinimum_25
theorem e_X7_setMinimum_26 {v0 : Int32} (hb : isB v0) {x0 x1 x2 : Option Value} : Wp S N d MX7_setMinimum 26 [x0, x1, x2] [.int v0] I J P Q ↔ Q (some (.int v0)) I J P := wp_zret rfl dX7_setMinimum_26 hb
theorem dX7_addCharge_0 : decode cX7_addCharge 0 = .ok (.aload_n 0, 1) := by decide +kernel
theorem dX7_addCharge_1 : decode cX7_addCharge 1 = .ok (.getfield 44, 3) := by decide +kernel
theorem dX7_addCharge_4 : decode cX7_addCharge 4 = .ok (.iconst 4, 1) := by decide +kernel
theorem dX7_addCharge_5 : decode cX7_addCharge 5 = .ok (.if_icmp .lt 5, 3) := by decide +kernel
theorem dX7_addCharge_8 : decode cX7_addCharge 8 = .ok (.iconst 0, 1) := by decide +kernel
theorem dX7_addCharge_9 : decode cX7_addCharge 9 = .ok (.ireturn, 1) := by decide +kernel
theorem dX7_addCharge_10 : decode cX7_addCharge 10 = .ok (.aload_n 0, 1) := by decide +kernel
theorem dX7_addCharge_11 : decode cX7_addCharge 11 = .ok (.getfield 25, 3) := by decide +kernel
theorem dX7_addCharge_14 : decode cX7_addCharge 14 = .ok (.aload_n 0, 1) := by decide +kernel
theorem dX7_addCharge_15 : decode cX7_addCharge 15 = .ok (.getfield 44, 3) := by decide +kernel
theorem dX7_addCharge_18 : decode cX7_addCharge 18 = .ok (.iload_n 1, 1) := by decide +kernel
theorem dX7_addCharge_19 : decode cX7_addCharge 19 = .ok (.iastore, 1) := by decide +kernel
theorem dX7_addCharge_20 : decode cX7_addCharge 20 = .ok (.aload_n 0, 1) := by decide +kernel
theorem dX7_addCharge_21 : decode cX7_addCharge 21 = .ok (.getfield 28, 3) := by decide +kernel
theorem dX7_addCharge_24 : decode cX7_addCharge 24 = .ok (.aload_n 0, 1) := by decide +kernel
theorem dX7_addCharge_25 : decode cX7_addCharge 25 = .ok (.getfield 44, 3) := by decide +kernel
theorem dX7_addCharge_28 : decode cX7_addCharge 28 = .ok (.iload_n 2, 1) := by decide +kernel
theorem dX7_addCharge_29 : decode cX7_addCharge 29 = .ok (.iastore, 1) := by decide +kernel
theorem dX7_addCharge_30 : decode cX7_addCharge 30 = .ok (.aload_n 0, 1) := by decide +kernel
theorem dX7_addCharge_31 : decode cX7_addCharge 31 = .ok (.dup, 1) := by decide +kernel
theorem dX7_addCharge_32 : decode cX7_addCharge 32 = .ok (.getfield 44, 3) := by decide +kernel
theorem dX7_addCharge_35 : decode cX7_addCharge 35 = .ok (.iconst 1, 1) := by decide +kernel
theorem dX7_addCharge_36 : decode cX7_addCharge 36 = .ok (.iadd, 1) := by decide +kernel
theorem dX7_addCharge_37 : decode cX7_addCharge 37 = .ok (.putfield 44, 3) := by decide +kernel
theorem dX7_addCharge_40 : decode cX7_addCharge 40 = .ok (.iconst 1, 1) := by decide +kernel
theorem dX7_addCharge_41 : decode cX7_addCharge 41 = .ok (.ireturn, 1) := by decide +kernel
theorem c_X7_addCharge {a0 : Nat} {a1 : Int32} {a2 : Int32} : CWp S N d MX7_addCharge [.ref a0, .int a1, .int a2] I J P Q ↔ Wp S N d MX7_addCharge 0 [some (.ref a0), some (.int a1), some (.int a2)] [] I J P Q := by
  rw [cwp_iff]
  exact ⟨fun h => h.2, fun h => ⟨Nat.le_of_ble_eq_true rfl, h⟩⟩
theorem e_X7_addCharge_0 {w : Nat} {x1 x2 : Option Value} : Wp S N d MX7_addCharge 0 [some (.ref w), x1, x2] [] I J P Q ↔ Wp S N d MX7_addCharge 1 [some (.ref w), x1, x2] [.ref w] I J P Q := wp_lod (len := 1) rfl rfl rfl rfl dX7_addCharge_0
theorem e_X7_addCharge_1 {v0 : Nat} {x0 x1 x2 : Option Value} : Wp S N d MX7_addCharge 1 [x0, x1, x2] [.ref v0] I J P Q ↔ S v0 = 7 ∧ Wp S N d MX7_addCharge 4 [x0, x1, x2] [.int (I v0 4)] I J P Q := wp_getf rfl rfl rfl rfl dX7_addCharge_1
theorem e_X7_addCharge_4 {v0 : Int32} {x0 x1 x2 : Option Value} : Wp S N d MX7_addCharge 4 [x0, x1, x2] [.int v0] I J P Q ↔ Wp S N d MX7_addCharge 5 [x0, x1, x2] [.int 4, .int v0] I J P Q := wp_iconst (by decide) dX7_addCharge_4
theorem e_X7_addCharge_5 {v0 : Int32} {v1 : Int32} {x0 x1 x2 : Option Value} : Wp S N d MX7_addCharge 5 [x0, x1, x2] [.int v0, .int v1] I J P Q ↔ (v1 < v0 → Wp S N d MX7_addCharge 10 [x0, x1, x2] [] I J P Q) ∧ (¬ v1 < v0 → Wp S N d MX7_addCharge 8 [x0, x1, x2] [] I J P Q) := wp_br rfl rfl (by decide) dX7_addCharge_5
theorem e_X7_addCharge_8  {x0 x1 x2 : Option Value} : Wp S N d MX7_addCharge 8 [x0, x1, x2] [] I J P Q ↔ Wp S N d MX7_addCharge 9 [x0, x1, x2] [.int 0] I J P Q := wp_iconst (by decide) dX7_addCharge_8
theorem e_X7_addCharge_9 {v0 : Int32} (hb : isB v0) {x0 x1 x2 : Option Value} : Wp S N d MX7_addCharge 9 [x0, x1, x2] [.int v0] I J P Q ↔ Q (some (.int v0)) I J P := wp_zret rfl dX7_addCharge_9 hb
theorem e_X7_addCharge_10 {w : Nat} {x1 x2 : Option Value} : Wp S N d MX7_addCharge 10 [some (.ref w), x1, x2] [] I J P Q ↔ Wp S N d MX7_addCharge 11 [some (.ref w), x1, x2] [.ref w] I J P Q := wp_lod (len := 1) rfl rfl rfl rfl dX7_addCharge_10
theorem e_X7_addCharge_11 {v0 : Nat} {x0 x1 x2 : Option Value} : Wp S N d MX7_addCharge 11 [x0, x1, x2] [.ref v0] I J P Q ↔ S v0 = 7 ∧ Wp S N d MX7_addCharge 14 [x0, x1, x2] [va_rf (P v0 5)] I J P Q := wp_getf rfl rfl rfl rfl dX7_addCharge_11
theorem e_X7_addCharge_14 {v0 : Nat} {w : Nat} {x1 x2 : Option Value} : Wp S N d MX7_addCharge 14 [some (.ref w), x1, x2] [.ref v0] I J P Q ↔ Wp S N d MX7_addCharge 15 [some (.ref w), x1, x2] [.ref w, .ref v0] I J P Q := wp_lod (len := 1) rfl rfl rfl rfl dX7_addCharge_14
theorem e_X7_addCharge_15 {v0 : Nat} {v1 : Nat} {x0 x1 x2 : Option Value} : Wp S N d MX7_addCharge 15 [x0, x1, x2] [.ref v0, .ref v1] I J P Q ↔ S v0 = 7 ∧ Wp S N d MX7_addCharge 18 [x0, x1, x2] [.int (I v0 4), .ref v1] I J P Q := wp_getf rfl rfl rfl rfl dX7_addCharge_15
theorem e_X7_addCharge_18 {v0 : Int32} {v1 : Nat} {w : Int32} {x0 x2 : Option Value} : Wp S N d MX7_addCharge 18 [x0, some (.int w), x2] [.int v0, .ref v1] I J P Q ↔ Wp S N d MX7_addCharge 19 [x0, some (.int w), x2] [.int w, .int v0, .ref v1] I J P Q := wp_lod (len := 1) rfl rfl rfl rfl dX7_addCharge_18
theorem e_X7_addCharge_19 {v0 : Int32} {v1 : Int32} {v2 : Nat} {x0 x1 x2 : Option Value} : Wp S N d MX7_addCharge 19 [x0, x1, x2] [.int v0, .int v1, .ref v2] I J P Q ↔ (S v2 = 10 ∧ vp_in v1 (N v2)) ∧ Wp S N d MX7_addCharge 20 [x0, x1, x2] [] (u2 I v2 v1.toNatClampNeg v0) J P Q := wp_ast rfl rfl dX7_addCharge_19
theorem e_X7_addCharge_20 {w : Nat} {x1 x2 : Option Value} : Wp S N d MX7_addCharge 20 [some (.ref w), x1, x2] [] I J P Q ↔ Wp S N d MX7_addCharge 21 [some (.ref w), x1, x2] [.ref w] I J P Q := wp_lod (len := 1) rfl rfl rfl rfl dX7_addCharge_20
theorem e_X7_addCharge_21 {v0 : Nat} {x0 x1 x2 : Option Value} : Wp S N d MX7_addCharge 21 [x0, x1, x2] [.ref v0] I J P Q ↔ S v0 = 7 ∧ Wp S N d MX7_addCharge 24 [x0, x1, x2] [va_rf (P v0 6)] I J P Q := wp_getf rfl rfl rfl rfl dX7_addCharge_21
theorem e_X7_addCharge_24 {v0 : Nat} {w : Nat} {x1 x2 : Option Value} : Wp S N d MX7_addCharge 24 [some (.ref w), x1, x2] [.ref v0] I J P Q ↔ Wp S N d MX7_addCharge 25 [some (.ref w), x1, x2] [.ref w, .ref v0] I J P Q := wp_lod (len := 1) rfl rfl rfl rfl dX7_addCharge_24
theorem e_X7_addCharge_25 {v0 : Nat} {v1 : Nat} {x0 x1 x2 : Option Value} : Wp S N d MX7_addCharge 25 [x0, x1, x2] [.ref v0, .ref v1] I J P Q ↔ S v0 = 7 ∧ Wp S N d MX7_addCharge 28 [x0, x1, x2] [.int (I v0 4), .ref v1] I J P Q := wp_getf rfl rfl rfl rfl dX7_addCharge_25
theorem e_X7_addCharge_28 {v0 : Int32} {v1 : Nat} {w : Int32} {x0 x1 : Option Value} : Wp S N d MX7_addCharge 28 [x0, x1, some (.int w)] [.int v0, .ref v1] I J P Q ↔ Wp S N d MX7_addCharge 29 [x0, x1, some (.int w)] [.int w, .int v0, .ref v1] I J P Q := wp_lod (len := 1) rfl rfl rfl rfl dX7_addCharge_28
theorem e_X7_addCharge_29 {v0 : Int32} {v1 : Int32} {v2 : Nat} {x0 x1 x2 : Option Value} : Wp S N d MX7_addCharge 29 [x0, x1, x2] [.int v0, .int v1, .ref v2] I J P Q ↔ (S v2 = 10 ∧ vp_in v1 (N v2)) ∧ Wp S N d MX7_addCharge 30 [x0, x1, x2] [] (u2 I v2 v1.toNatClampNeg v0) J P Q := wp_ast rfl rfl dX7_addCharge_29
theorem e_X7_addCharge_30 {w : Nat} {x1 x2 : Option Value} : Wp S N d MX7_addCharge 30 [some (.ref w), x1, x2] [] I J P Q ↔ Wp S N d MX7_addCharge 31 [some (.ref w), x1, x2] [.ref w] I J P Q := wp_lod (len := 1) rfl rfl rfl rfl dX7_addCharge_30
theorem e_X7_addCharge_31 {v0 : Nat} {x0 x1 x2 : Option Value} : Wp S N d MX7_addCharge 31 [x0, x1, x2] [.ref v0] I J P Q ↔ Wp S N d MX7_addCharge 32 [x0, x1, x2] [.ref v0, .ref v0] I J P Q := wp_alu (len := 1) rfl rfl rfl dX7_addCharge_31
theorem e_X7_addCharge_32 {v0 : Nat} {v1 : Nat} {x0 x1 x2 : Option Value} : Wp S N d MX7_addCharge 32 [x0, x1, x2] [.ref v0, .ref v1] I J P Q ↔ S v0 = 7 ∧ Wp S N d MX7_addCharge 35 [x0, x1, x2] [.int (I v0 4), .ref v1] I J P Q := wp_getf rfl rfl rfl rfl dX7_addCharge_32
theorem e_X7_addCharge_35 {v0 : Int32} {v1 : Nat} {x0 x1 x2 : Option Value} : Wp S N d MX7_addCharge 35 [x0, x1, x2] [.int v0, .ref v1] I J P Q ↔ Wp S N d MX7_addCharge 36 [x0, x1, x2] [.int 1, .int v0, .ref v1] I J P Q := wp_iconst (by decide) dX7_addCharge_35
theorem e_X7_addCharge_36 {v0 : Int32} {v1 : Int32} {v2 : Nat} {x0 x1 x2 : Option Value} : Wp S N d MX7_addCharge 36 [x0, x1, x2] [.int v0, .int v1, .ref v2] I J P Q ↔ Wp S N d MX7_addCharge 37 [x0, x1, x2] [.int (v1 + v0), .ref v2] I J P Q := wp_alu (len := 1) rfl rfl rfl dX7_addCharge_36
theorem e_X7_addCharge_37 {v0 : Int32} {v1 : Nat} {x0 x1 x2 : Option Value} : Wp S N d MX7_addCharge 37 [x0, x1, x2] [.int v0, .ref v1] I J P Q ↔ S v1 = 7 ∧ Wp S N d MX7_addCharge 40 [x0, x1, x2] [] (u2 I v1 4 v0) J P Q := wp_putI rfl rfl rfl rfl dX7_addCharge_37
theorem e_X7_addCharge_40  {x0 x1 x2 : Option Value} : Wp S N d MX7_addCharge 40 [x0, x1, x2] [] I J P Q ↔ Wp S N d MX7_addCharge 41 [x0, x1, x2] [.int 1] I J P Q := wp_iconst (by decide) dX7_addCharge_40
theorem e_X7_addCharge_41 {v0 : Int32} (hb : isB v0) {x0 x1 x2 : Option Value} : Wp S N d MX7_addCharge 41 [x0, x1, x2] [.int v0] I J P Q ↔ Q (some (.int v0)) I J P := wp_zret rfl dX7_addCharge_41 hb
theorem dX7_addCredit_0 : decode cX7_addCredit 0 = .ok (.aload_n 0, 1) := by decide +kernel
theorem dX7_addCredit_1 : decode cX7_addCredit 1 = .ok (.getfield 47, 3) := by decide +kernel
theorem dX7_addCredit_4 : decode cX7_addCredit 4 = .ok (.bipush 6, 2) := by decide +kernel
theorem dX7_addCredit_6 : decode cX7_addCredit 6 = .ok (.if_icmp .lt 5, 3) := by decide +kernel
theorem dX7_addCredit_9 : decode cX7_addCredit 9 = .ok (.iconst 0, 1) := by decide +kernel
theorem dX7_addCredit_10 : decode cX7_addCredit 10 = .ok (.ireturn, 1) := by decide +kernel
theorem dX7_addCredit_11 : decode cX7_addCredit 11 = .ok (.aload_n 0, 1) := by decide +kernel
theorem dX7_addCredit_12 : decode cX7_addCredit 12 = .ok (.getfield 33, 3) := by decide +kernel
theorem dX7_addCredit_15 : decode cX7_addCredit 15 = .ok (.aload_n 0, 1) := by decide +kernel
theorem dX7_addCredit_16 : decode cX7_addCredit 16 = .ok (.getfield 47, 3) := by decide +kernel
theorem dX7_addCredit_19 : decode cX7_addCredit 19 = .ok (.aaload, 1) := by decide +kernel
theorem dX7_addCredit_20 : decode cX7_addCredit 20 = .ok (.astore 4, 2) := by decide +kernel
theorem dX7_addCredit_22 : decode cX7_addCredit 22 = .ok (.aload 4, 2) := by decide +kernel
theorem dX7_addCredit_24 : decode cX7_addCredit 24 = .ok (.getfield 54, 3) := by decide +kernel
theorem dX7_addCredit_27 : decode cX7_addCredit 27 = .ok (.iconst 0, 1) := by decide +kernel
theorem dX7_addCredit_28 : decode cX7_addCredit 28 = .ok (.iload_n 1, 1) := by decide +kernel
theorem dX7_addCredit_29 : decode cX7_addCredit 29 = .ok (.iastore, 1) := by decide +kernel
theorem dX7_addCredit_30 : decode cX7_addCredit 30 = .ok (.aload 4, 2) := by decide +kernel
theorem dX7_addCredit_32 : decode cX7_addCredit 32 = .ok (.getfield 54, 3) := by decide +kernel
theorem dX7_addCredit_35 : decode cX7_addCredit 35 = .ok (.iconst 1, 1) := by decide +kernel
theorem dX7_addCredit_36 : decode cX7_addCredit 36 = .ok (.aload_n 2, 1) := by decide +kernel
theorem dX7_addCredit_37 : decode cX7_addCredit 37 = .ok (.iconst 0, 1) := by decide +kernel
theorem dX7_addCredit_38 : decode cX7_addCredit 38 = .ok (.iaload, 1) := by decide +kernel
theorem dX7_addCredit_39 : decode cX7_addCredit 39 = .ok (.iastore, 1) := by decide +kernel
theorem dX7_addCredit_40 : decode cX7_addCredit 40 = .ok (.aload 4, 2) := by decide +kernel
theorem dX7_addCredit_42 : decode cX7_addCredit 42 = .ok (.getfield 54, 3) := by decide +kernel
theorem dX7_addCredit_45 : decode cX7_addCredit 45 = .ok (.iconst 2, 1) := by decide +kernel
theorem dX7_addCredit_46 : decode cX7_addCredit 46 = .ok (.aload_n 2, 1) := by decide +kernel
theorem dX7_addCredit_47 : decode cX7_addCredit 47 = .ok (.iconst 1, 1) := by decide +kernel
theorem dX7_addCredit_48 : decode cX7_addCredit 48 = .ok (.iaload, 1) := by decide +kernel
theorem dX7_addCredit_49 : decode cX7_addCredit 49 = .ok (.iastore, 1) := by decide +kernel
theorem dX7_addCredit_50 : decode cX7_addCredit 50 = .ok (.aload 4, 2) := by decide +kernel
theorem dX7_addCredit_52 : decode cX7_addCredit 52 = .ok (.getfield 54, 3) := by decide +kernel
theorem dX7_addCredit_55 : decode cX7_addCredit 55 = .ok (.iconst 3, 1) := by decide +kernel
theorem dX7_addCredit_56 : decode cX7_addCredit 56 = .ok (.aload_n 2, 1) := by decide +kernel
theorem dX7_addCredit_57 : decode cX7_addCredit 57 = .ok (.iconst 2, 1) := by decide +kernel
theorem dX7_addCredit_58 : decode cX7_addCredit 58 = .ok (.iaload, 1) := by decide +kernel
theorem dX7_addCredit_59 : decode cX7_addCredit 59 = .ok (.iastore, 1) := by decide +kernel
theorem dX7_addCredit_60 : decode cX7_addCredit 60 = .ok (.aload 4, 2) := by decide +kernel
theorem dX7_addCredit_62 : decode cX7_addCredit 62 = .ok (.getfield 54, 3) := by decide +kernel
theorem dX7_addCredit_65 : decode cX7_addCredit 65 = .ok (.iconst 4, 1) := by decide +kernel
theorem dX7_addCredit_66 : decode cX7_addCredit 66 = .ok (.aload_n 2, 1) := by decide +kernel
theorem dX7_addCredit_67 : decode cX7_addCredit 67 = .ok (.iconst 3, 1) := by decide +kernel
theorem dX7_addCredit_68 : decode cX7_addCredit 68 = .ok (.iaload, 1) := by decide +kernel
theorem dX7_addCredit_69 : decode cX7_addCredit 69 = .ok (.iastore, 1) := by decide +kernel
theorem dX7_addCredit_70 : decode cX7_addCredit 70 = .ok (.aload 4, 2) := by decide +kernel
theorem dX7_addCredit_72 : decode cX7_addCredit 72 = .ok (.getfield 54, 3) := by decide +kernel
theorem dX7_addCredit_75 : decode cX7_addCredit 75 = .ok (.iconst 5, 1) := by decide +kernel
theorem dX7_addCredit_76 : decode cX7_addCredit 76 = .ok (.iload_n 3, 1) := by decide +kernel
theorem dX7_addCredit_77 : decode cX7_addCredit 77 = .ok (.ifCond .eq 7, 3) := by decide +kernel
theorem dX7_addCredit_80 : decode cX7_addCredit 80 = .ok (.iconst 1, 1) := by decide +kernel
theorem dX7_addCredit_81 : decode cX7_addCredit 81 = .ok (.goto 4, 3) := by decide +kernel
theorem dX7_addCredit_84 : decode cX7_addCredit 84 = .ok (.iconst 0, 1) := by decide +kernel
theorem dX7_addCredit_85 : decode cX7_addCredit 85 = .ok (.iastore, 1) := by decide +kernel
theorem dX7_addCredit_86 : decode cX7_addCredit 86 = .ok (.iconst 0, 1) := by decide +kernel
theorem dX7_addCredit_87 : decode cX7_addCredit 87 = .ok (.istore 5, 2) := by decide +kernel
theorem dX7_addCredit_89 : decode cX7_addCredit 89 = .ok (.iload 5, 2) := by decide +kernel
theorem dX7_addCredit_91 : decode cX7_addCredit 91 = .ok (.bipush 6, 2) := by decide +kernel
theorem dX7_addCredit_93 : decode cX7_addCredit 93 = .ok (.if_icmp .ge 18, 3) := by decide +kernel
theorem dX7_addCredit_96 : decode cX7_addCredit 96 = .ok (.aload 4, 2) := by decide +kernel
theorem dX7_addCredit_98 : decode cX7_addCredit 98 = .ok (.getfield 57, 3) := by decide +kernel
theorem dX7_addCredit_101 : decode cX7_addCredit 101 = .ok (.iload 5, 2) := by decide +kernel
theorem dX7_addCredit_103 : decode cX7_addCredit 103 = .ok (.lconst 0, 1) := by decide +kernel
theorem dX7_addCredit_104 : decode cX7_addCredit 104 = .ok (.lastore, 1) := by decide +kernel
theorem dX7_addCredit_105 : decode cX7_addCredit 105 = .ok (.iinc 5 1, 3) := by decide +kernel
theorem dX7_addCredit_108 : decode cX7_addCredit 108 = .ok (.goto (-19), 3) := by decide +kernel
theorem dX7_addCredit_111 : decode cX7_addCredit 111 = .ok (.aload_n 0, 1) := by decide +kernel
theorem dX7_addCredit_112 : decode cX7_addCredit 112 = .ok (.dup, 1) := by decide +kernel
theorem dX7_addCredit_113 : decode cX7_addCredit 113 = .ok (.getfield 47, 3) := by decide +kernel
theorem dX7_addCredit_116 : decode cX7_addCredit 116 = .ok (.iconst 1, 1) := by decide +kernel
theorem dX7_addCredit_117 : decode cX7_addCredit 117 = .ok (.iadd, 1) := by decide +kernel
theorem dX7_addCredit_118 : decode cX7_addCredit 118 = .ok (.putfield 47, 3) := by decide +kernel
theorem dX7_addCredit_121 : decode cX7_addCredit 121 = .ok (.aload 4, 2) := by decide +kernel
theorem dX7_addCredit_123 : decode cX7_addCredit 123 = .ok (.getfield 54, 3) := by decide +kernel
theorem dX7_addCredit_126 : decode cX7_addCredit 126 = .ok (.iconst 2, 1) := by decide +kernel
theorem dX7_addCredit_127 : decode cX7_addCredit 127 = .ok (.iaload, 1) := by decide +kernel
theorem dX7_addCredit_128 : decode cX7_addCredit 128 = .ok (.sipush 999, 3) := by decide +kernel
theorem dX7_addCredit_131 : decode cX7_addCredit 131 = .ok (.if_icmp .gt 20, 3) := by decide +kernel
theorem dX7_addCredit_134 : decode cX7_addCredit 134 = .ok (.aload 4, 2) := by decide +kernel
theorem dX7_addCredit_136 : decode cX7_addCredit 136 = .ok (.getfield 54, 3) := by decide +kernel
theorem dX7_addCredit_139 : decode cX7_addCredit 139 = .ok (.iconst 4, 1) := by decide +kernel
theorem dX7_addCredit_140 : decode cX7_addCredit 140 = .ok (.iaload, 1) := by decide +kernel
theorem dX7_addCredit_141 : decode cX7_addCredit 141 = .ok (.sipush 999, 3) := by decide +kernel
theorem dX7_addCredit_144 : decode cX7_addCredit 144 = .ok (.if_icmp .gt 7, 3) := by decide +kernel
theorem dX7_addCredit_147 : decode cX7_addCredit 147 = .ok (.iconst 1, 1) := by decide +kernel
theorem dX7_addCredit_148 : decode cX7_addCredit 148 = .ok (.goto 4, 3) := by decide +kernel
theorem dX7_addCredit_151 : decode cX7_addCredit 151 = .ok (.iconst 0, 1) := by decide +kernel
theorem dX7_addCredit_152 : decode cX7_addCredit 152 = .ok (.ireturn, 1) := by decide +kernel
theorem c_X7_addCredit {a0 : Nat} {a1 : Int32} {a2 : Nat} {a3 : Int32} : CWp S N d MX7_addCredit [.ref a0, .int a1, .ref a2, .int a3] I J P Q ↔ Wp S N d MX7_addCredit 0 [some (.ref a0), some (.int a1), some (.ref a2), some (.int a3), none, none] [] I J P Q := by
  rw [cwp_iff]
  exact ⟨fun h => h.2, fun h => ⟨Nat.le_of_ble_eq_true rfl, h⟩⟩
theorem e_X7_addCredit_0 {w : Nat} {x1 x2 x3 x4 x5 : Option Value} : Wp S N d MX7_addCredit 0 [some (.ref w), x1, x2, x3, x4, x5] [] I J P Q ↔ Wp S N d MX7_addCredit 1 [some (.ref w), x1, x2, x3, x4, x5] [.ref w] I J P Q := wp_lod (len := 1) rfl rfl rfl rfl dX7_addCredit_0
theorem e_X7_addCredit_1 {v0 : Nat} {x0 x1 x2 x3 x4 x5 : Option Value} : Wp S N d MX7_addCredit 1 [x0, x1, x2, x3, x4, x5] [.ref v0] I J P Q ↔ S v0 = 7 ∧ Wp S N d MX7_addCredit 4 [x0, x1, x2, x3, x4, x5] [.int (I v0 7)] I J P Q := wp_getf rfl rfl rfl rfl dX7_addCredit_1
theorem e_X7_addCredit_4 {v0 : Int32} {x0 x1 x2 x3 x4 x5 : Option Value} : Wp S N d MX7_addCredit 4 [x0, x1, x2, x3, x4, x5] [.int v0] I J P Q ↔ Wp S N d MX7_addCredit 6 [x0, x1, x2, x3, x4, x5] [.int 6, .int v0] I J P Q := wp_bipush (by decide) dX7_addCredit_4
theorem e_X7_addCredit_6 {v0 : Int32} {v1 : Int32} {x0 x1 x2 x3 x4 x5 : Option Value} : Wp S N d MX7_addCredit 6 [x0, x1, x2, x3, x4, x5] [.int v0, .int v1] I J P Q ↔ (v1 < v0 → Wp S N d MX7_addCredit 11 [x0, x1, x2, x3, x4, x5] [] I J P Q) ∧ (¬ v1 < v0 → Wp S N d MX7_addCredit 9 [x0, x1, x2, x3, x4, x5] [] I J P Q) := wp_br rfl rfl (by decide) dX7_addCredit_6
theorem e_X7_addCredit_9  {x0 x1 x2 x3 x4 x5 : Option Value} : Wp S N d MX7_addCredit 9 [x0, x1, x2, x3, x4, x5] [] I J P Q ↔ Wp S N d MX7_addCredit 10 [x0, x1, x2, x3, x4, x5] [.int 0] I J P Q := wp_iconst (by decide) dX7_addCredit_9
theorem e_X7_addCredit_10 {v0 : Int32} (hb : isB v0) {x0 x1 x2 x3 x4 x5 : Option Value} : Wp S N d MX7_addCredit 10 [x0, x1, x2, x3, x4, x5] [.int v0] I J P Q ↔ Q (some (.int v0)) I J P := wp_zret rfl dX7_addCredit_10 hb
theorem e_X7_addCredit_11 {w : Nat} {x1 x2 x3 x4 x5 : Option Value} : Wp S N d MX7_addCredit 11 [some (.ref w), x1, x2, x3, x4, x5] [] I J P Q ↔ Wp S N d MX7_addCredit 12 [some (.ref w), x1, x2, x3, x4, x5] [.ref w] I J P Q := wp_lod (len := 1) rfl rfl rfl rfl dX7_addCredit_11
theorem e_X7_addCredit_12 {v0 : Nat} {x0 x1 x2 x3 x4 x5 : Option Value} : Wp S N d MX7_addCredit 12 [x0, x1, x2, x3, x4, x5] [.ref v0] I J P Q ↔ S v0 = 7 ∧ Wp S N d MX7_addCredit 15 [x0, x1, x2, x3, x4, x5] [va_rf (P v0 8)] I J P Q := wp_getf rfl rfl rfl rfl dX7_addCredit_12
theorem e_X7_addCredit_15 {v0 : Nat} {w : Nat} {x1 x2 x3 x4 x5 : Option Value} : Wp S N d MX7_addCredit 15 [some (.ref w), x1, x2, x3, x4, x5] [.ref v0] I J P Q ↔ Wp S N d MX7_addCredit 16 [some (.ref w), x1, x2, x3, x4, x5] [.ref w, .ref v0] I J P Q := wp_lod (len := 1) rfl rfl rfl rfl dX7_addCredit_15
theorem e_X7_addCredit_16 {v0 : Nat} {v1 : Nat} {x0 x1 x2 x3 x4 x5 : Option Value} : Wp S N d MX7_addCredit 16 [x0, x1, x2, x3, x4, x5] [.ref v0, .ref v1] I J P Q ↔ S v0 = 7 ∧ Wp S N d MX7_addCredit 19 [x0, x1, x2, x3, x4, x5] [.int (I v0 7), .ref v1] I J P Q := wp_getf rfl rfl rfl rfl dX7_addCredit_16
theorem e_X7_addCredit_19 {v0 : Int32} {v1 : Nat} {x0 x1 x2 x3 x4 x5 : Option Value} : Wp S N d MX7_addCredit 19 [x0, x1, x2, x3, x4, x5] [.int v0, .ref v1] I J P Q ↔ ((S v1 = 12 ∨ S v1 = 13 ∨ S v1 = 14) ∧ vp_in v0 (N v1)) ∧ Wp S N d MX7_addCredit 20 [x0, x1, x2, x3, x4, x5] [va_rf (P v1 v0.toNatClampNeg)] I J P Q := wp_ald rfl rfl dX7_addCredit_19
theorem e_X7_addCredit_20 {v0 : Nat} {x0 x1 x2 x3 x4 x5 : Option Value} : Wp S N d MX7_addCredit 20 [x0, x1, x2, x3, x4, x5] [.ref v0] I J P Q ↔ Wp S N d MX7_addCredit 22 [x0, x1, x2, kl x3, some (.ref v0), x5] [] I J P Q := wp_sto (len := 2) rfl rfl rfl rfl (Nat.le_of_ble_eq_true rfl) rfl dX7_addCredit_20
theorem e_X7_addCredit_22 {w : Nat} {x0 x1 x2 x3 x5 : Option Value} : Wp S N d MX7_addCredit 22 [x0, x1, x2, x3, some (.ref w), x5] [] I J P Q ↔ Wp S N d MX7_addCredit 24 [x0, x1, x2, x3, some (.ref w), x5] [.ref w] I J P Q := wp_lod (len := 2) rfl rfl rfl rfl dX7_addCredit_22
theorem e_X7_addCredit_24 {v0 : Nat} {x0 x1 x2 x3 x4 x5 : Option Value} : Wp S N d MX7_addCredit 24 [x0, x1, x2, x3, x4, x5] [.ref v0] I J P Q ↔ S v0 = 2 ∧ Wp S N d MX7_addCredit 27 [x0, x1, x2, x3, x4, x5] [va_rf (P v0 0)] I J P Q := wp_getf rfl rfl rfl rfl dX7_addCredit_24
theorem e_X7_addCredit_27 {v0 : Nat} {x0 x1 x2 x3 x4 x5 : Option Value} : Wp S N d MX7_addCredit 27 [x0, x1, x2, x3, x4, x5] [.ref v0] I J P Q ↔ Wp S N d MX7_addCredit 28 [x0, x1, x2, x3, x4, x5] [.int 0, .ref v0] I J P Q := wp_iconst (by decide) dX7_addCredit_27
theorem e_X7_addCredit_28 {v0 : Int32} {v1 : Nat} {w : Int32} {x0 x2 x3 x4 x5 : Option Value} : Wp S N d MX7_addCredit 28 [x0, some (.int w), x2, x3, x4, x5] [.int v0, .ref v1] I J P Q ↔ Wp S N d MX7_addCredit 29 [x0, some (.int w), x2, x3, x4, x5] [.int w, .int v0, .ref v1] I J P Q := wp_lod (len := 1) rfl rfl rfl rfl dX7_addCredit_28
theorem e_X7_addCredit_29 {v0 : Int32} {v1 : Int32} {v2 : Nat} {x0 x1 x2 x3 x4 x5 : Option Value} : Wp S N d MX7_addCredit 29 [x0, x1, x2, x3, x4, x5] [.int v0, .int v1, .ref v2] I J P Q ↔ (S v2 = 10 ∧ vp_in v1 (N v2)) ∧ Wp S N d MX7_addCredit 30 [x0, x1, x2, x3, x4, x5] [] (u2 I v2 v1.toNatClampNeg v0) J P Q := wp_ast rfl rfl dX7_addCredit_29
theorem e_X7_addCredit_30 {w : Nat} {x0 x1 x2 x3 x5 : Option Value} : Wp S N d MX7_addCredit 30 [x0, x1, x2, x3, some (.ref w), x5] [] I J P Q ↔ Wp S N d MX7_addCredit 32 [x0, x1, x2, x3, some (.ref w), x5] [.ref w] I J P Q := wp_lod (len := 2) rfl rfl rfl rfl dX7_addCredit_30
theorem e_X7_addCredit_32 {v0 : Nat} {x0 x1 x2 x3 x4 x5 : Option Value} : Wp S N d MX7_addCredit 32 [x0, x1, x2, x3, x4, x5] [.ref v0] I J P Q ↔ S v0 = 2 ∧ Wp S N d MX7_addCredit 35 [x0, x1, x2, x3, x4, x5] [va_rf (P v0 0)] I J P Q := wp_getf rfl rfl rfl rfl dX7_addCredit_32
theorem e_X7_addCredit_35 {v0 : Nat} {x0 x1 x2 x3 x4 x5 : Option Value} : Wp S N d MX7_addCredit 35 [x0, x1, x2, x3, x4, x5] [.ref v0] I J P Q ↔ Wp S N d MX7_addCredit 36 [x0, x1, x2, x3, x4, x5] [.int 1, .ref v0] I J P Q := wp_iconst (by decide) dX7_addCredit_35
theorem e_X7_addCredit_36 {v0 : Int32} {v1 : Nat} {w : Nat} {x0 x1 x3 x4 x5 : Option Value} : Wp S N d MX7_addCredit 36 [x0, x1, some (.ref w), x3, x4, x5] [.int v0, .ref v1] I J P Q ↔ Wp S N d MX7_addCredit 37 [x0, x1, some (.ref w), x3, x4, x5] [.ref w, .int v0, .ref v1] I J P Q := wp_lod (len := 1) rfl rfl rfl rfl dX7_addCredit_36
theorem e_X7_addCredit_37 {v0 : Nat} {v1 : Int32} {v2 : Nat} {x0 x1 x2 x3 x4 x5 : Option Value} : Wp S N d MX7_addCredit 37 [x0, x1, x2, x3, x4, x5] [.ref v0, .int v1, .ref v2] I J P Q ↔ Wp S N d MX7_addCredit 38 [x0, x1, x2, x3, x4, x5] [.int 0, .ref v0, .int v1, .ref v2] I J P Q := wp_iconst (by decide) dX7_addCredit_37
theorem e_X7_addCredit_38 {v0 : Int32} {v1 : Nat} {v2 : Int32} {v3 : Nat} {x0 x1 x2 x3 x4 x5 : Option Value} : Wp S N d MX7_addCredit 38 [x0, x1, x2, x3, x4, x5] [.int v0, .ref v1, .int v2, .ref v3] I J P Q ↔ (S v1 = 10 ∧ vp_in v0 (N v1)) ∧ Wp S N d MX7_addCredit 39 [x0, x1, x2, x3, x4, x5] [.int (I v1 v0.toNatClampNeg), .int v2, .ref v3] I J P Q := wp_ald rfl rfl dX7_addCredit_38
theorem e_X7_addCredit_39 {v0 : Int32} {v1 : Int32} {v2 : Nat} {x0 x1 x2 x3 x4 x5 : Option Value} : Wp S N d MX7_addCredit 39 [x0, x1, x2, x3, x4, x5] [.int v0, .int v1, .ref v2] I J P Q ↔ (S v2 = 10 ∧ vp_in v1 (N v2)) ∧ Wp S N d MX7_addCredit 40 [x0, x1, x2, x3, x4, x5] [] (u2 I v2 v1.toNatClampNeg v0) J P Q := wp_ast rfl rfl dX7_addCredit_39
theorem e_X7_addCredit_40 {w : Nat} {x0 x1 x2 x3 x5 : Option Value} : Wp S N d MX7_addCredit 40 [x0, x1, x2, x3, some (.ref w), x5] [] I J P Q ↔ Wp S N d MX7_addCredit 42 [x0, x1, x2, x3, some (.ref w), x5] [.ref w] I J P Q := wp_lod (len := 2) rfl rfl rfl rfl dX7_addCredit_40
theorem e_X7_addCredit_42 {v0 : Nat} {x0 x1 x2 x3 x4 x5 : Option Value} : Wp S N d MX7_addCredit 42 [x0, x1, x2, x3, x4, x5] [.ref v0] I J P Q ↔ S v0 = 2 ∧ Wp S N d MX7_addCredit 45 [x0, x1, x2, x3, x4, x5] [va_rf (P v0 0)] I J P Q := wp_getf rfl rfl rfl rfl dX7_addCredit_42
theorem e_X7_addCredit_45 {v0 : Nat} {x0 x1 x2 x3 x4 x5 : Option Value} : Wp S N d MX7_addCredit 45 [x0, x1, x2, x3, x4, x5] [.ref v0] I J P Q ↔ Wp S N d MX7_addCredit 46 [x0, x1, x2, x3, x4, x5] [.int 2, .ref v0] I J P Q := wp_iconst (by decide) dX7_addCredit_45
theorem e_X7_addCredit_46 {v0 : Int32} {v1 : Nat} {w : Nat} {x0 x1 x3 x4 x5 : Option Value} : Wp S N d MX7_addCredit 46 [x0, x1, some (.ref w), x3, x4, x5] [.int v0, .ref v1] I J P Q ↔ Wp S N d MX7_addCredit 47 [x0, x1, some (.ref w), x3, x4, x5] [.ref w, .int v0, .ref v1] I J P Q := wp_lod (len := 1) rfl rfl rfl rfl dX7_addCredit_46
theorem e_X7_addCredit_47 {v0 : Nat} {v1 : Int32} {v2 : Nat} {x0 x1 x2 x3 x4 x5 : Option Value} : Wp S N d MX7_addCredit 47 [x0, x1, x2, x3, x4, x5] [.ref v0, .int v1, .ref v2] I J P Q ↔ Wp S N d MX7_addCredit 48 [x0, x1, x2, x3, x4, x5] [.int 1, .ref v0, .int v1, .ref v2] I J P Q := wp_iconst (by decide) dX7_addCredit_47
theorem e_X7_addCredit_48 {v0 : Int32} {v1 : Nat} {v2 : Int32} {v3 : Nat} {x0 x1 x2 x3 x4 x5 : Option Value} : Wp S N d MX7_addCredit 48 [x0, x1, x2, x3, x4, x5] [.int v0, .ref v1, .int v2, .ref v3] I J P Q ↔ (S v1 = 10 ∧ vp_in v0 (N v1)) ∧ Wp S N d MX7_addCredit 49 [x0, x1, x2, x3, x4, x5] [.int (I v1 v0.toNatClampNeg), .int v2, .ref v3] I J P Q := wp_ald rfl rfl dX7_addCredit_48
theorem e_X7_addCredit_49 {v0 : Int32} {v1 : Int32} {v2 : Nat} {x0 x1 x2 x3 x4 x5 : Option Value} : Wp S N d MX7_addCredit 49 [x0, x1, x2, x3, x4, x5] [.int v0, .int v1, .ref v2] I J P Q ↔ (S v2 = 10 ∧ vp_in v1 (N v2)) ∧ Wp S N d MX7_addCredit 50 [x0, x1, x2, x3, x4, x5] [] (u2 I v2 v1.toNatClampNeg v0) J P Q := wp_ast rfl rfl dX7_addCredit_49
theorem e_X7_addCredit_50 {w : Nat} {x0 x1 x2 x3 x5 : Option Value} : Wp S N d MX7_addCredit 50 [x0, x1, x2, x3, some (.ref w), x5] [] I J P Q ↔ Wp S N d MX7_addCredit 52 [x0, x1, x2, x3, some (.ref w), x5] [.ref w] I J P Q := wp_lod (len := 2) rfl rfl rfl rfl dX7_addCredit_50
theorem e_X7_addCredit_52 {v0 : Nat} {x0 x1 x2 x3 x4 x5 : Option Value} : Wp S N d MX7_addCredit 52 [x0, x1, x2, x3, x4, x5] [.ref v0] I J P Q ↔ S v0 = 2 ∧ Wp S N d MX7_addCredit 55 [x0, x1, x2, x3, x4, x5] [va_rf (P v0 0)] I J P Q := wp_getf rfl rfl rfl rfl dX7_addCredit_52
theorem e_X7_addCredit_55 {v0 : Nat} {x0 x1 x2 x3 x4 x5 : Option Value} : Wp S N d MX7_addCredit 55 [x0, x1, x2, x3, x4, x5] [.ref v0] I J P Q ↔ Wp S N d MX7_addCredit 56 [x0, x1, x2, x3, x4, x5] [.int 3, .ref v0] I J P Q := wp_iconst (by decide) dX7_addCredit_55
theorem e_X7_addCredit_56 {v0 : Int32} {v1 : Nat} {w : Nat} {x0 x1 x3 x4 x5 : Option Value} : Wp S N d MX7_addCredit 56 [x0, x1, some (.ref w), x3, x4, x5] [.int v0, .ref v1] I J P Q ↔ Wp S N d MX7_addCredit 57 [x0, x1, some (.ref w), x3, x4, x5] [.ref w, .int v0, .ref v1] I J P Q := wp_lod (len := 1) rfl rfl rfl rfl dX7_addCredit_56
theorem e_X7_addCredit_57 {v0 : Nat} {v1 : Int32} {v2 : Nat} {x0 x1 x2 x3 x4 x5 : Option Value} : Wp S N d MX7_addCredit 57 [x0, x1, x2, x3, x4, x5] [.ref v0, .int v1, .ref v2] I J P Q ↔ Wp S N d MX7_addCredit 58 [x0, x1, x2, x3, x4, x5] [.int 2, .ref v0, .int v1, .ref v2] I J P Q := wp_iconst (by decide) dX7_addCredit_57
theorem e_X7_addCredit_58 {v0 : Int32} {v1 : Nat} {v2 : Int32} {v3 : Nat} {x0 x1 x2 x3 x4 x5 : Option Value} : Wp S N d MX7_addCredit 58 [x0, x1, x2, x3, x4, x5] [.int v0, .ref v1, .int v2, .ref v3] I J P Q ↔ (S v1 = 10 ∧ vp_in v0 (N v1)) ∧ Wp S N d MX7_addCredit 59 [x0, x1, x2, x3, x4, x5] [.int (I v1 v0.toNatClampNeg), .int v2, .ref v3] I J P Q := wp_ald rfl rfl dX7_addCredit_58
theorem e_X7_addCredit_59 {v0 : Int32} {v1 : Int32} {v2 : Nat} {x0 x1 x2 x3 x4 x5 : Option Value} : Wp S N d MX7_addCredit 59 [x0, x1, x2, x3, x4, x5] [.int v0, .int v1, .ref v2] I J P Q ↔ (S v2 = 10 ∧ vp_in v1 (N v2)) ∧ Wp S N d MX7_addCredit 60 [x0, x1, x2, x3, x4, x5] [] (u2 I v2 v1.toNatClampNeg v0) J P Q := wp_ast rfl rfl dX7_addCredit_59
theorem e_X7_addCredit_60 {w : Nat} {x0 x1 x2 x3 x5 : Option Value} : Wp S N d MX7_addCredit 60 [x0, x1, x2, x3, some (.ref w), x5] [] I J P Q ↔ Wp S N d MX7_addCredit 62 [x0, x1, x2, x3, some (.ref w), x5] [.ref w] I J P Q := wp_lod (len := 2) rfl rfl rfl rfl dX7_addCredit_60
theorem e_X7_addCredit_62 {v0 : Nat} {x0 x1 x2 x3 x4 x5 : Option Value} : Wp S N d MX7_addCredit 62 [x0, x1, x2, x3, x4, x5] [.ref v0] I J P Q ↔ S v0 = 2 ∧ Wp S N d MX7_addCredit 65 [x0, x1, x2, x3, x4, x5] [va_rf (P v0 0)] I J P Q := wp_getf rfl rfl rfl rfl dX7_addCredit_62
theorem e_X7_addCredit_65 {v0 : Nat} {x0 x1 x2 x3 x4 x5 : Option Value} : Wp S N d MX7_addCredit 65 [x0, x1, x2, x3, x4, x5] [.ref v0] I J P Q ↔ Wp S N d MX7_addCredit 66 [x0, x1, x2, x3, x4, x5] [.int 4, .ref v0] I J P Q := wp_iconst (by decide) dX7_addCredit_65
theorem e_X7_addCredit_66 {v0 : Int32} {v1 : Nat} {w : Nat} {x0 x1 x3 x4 x5 : Option Value} : Wp S N d MX7_addCredit 66 [x0, x1, some (.ref w), x3, x4, x5] [.int v0, .ref v1] I J P Q ↔ Wp S N d MX7_addCredit 67 [x0, x1, some (.ref w), x3, x4, x5] [.ref w, .int v0, .ref v1] I J P Q := wp_lod (len := 1) rfl rfl rfl rfl dX7_addCredit_66
theorem e_X7_addCredit_67 {v0 : Nat} {v1 : Int32} {v2 : Nat} {x0 x1 x2 x3 x4 x5 : Option Value} : Wp S N d MX7_addCredit 67 [x0, x1, x2, x3, x4, x5] [.ref v0, .int v1, .ref v2] I J P Q ↔ Wp S N d MX7_addCredit 68 [x0, x1, x2, x3, x4, x5] [.int 3, .ref v0, .int v1, .ref v2] I J P Q := wp_iconst (by decide) dX7_addCredit_67
theorem e_X7_addCredit_68 {v0 : Int32} {v1 : Nat} {v2 : Int32} {v3 : Nat} {x0 x1 x2 x3 x4 x5 : Option Value} : Wp S N d MX7_addCredit 68 [x0, x1, x2, x3, x4, x5] [.int v0, .ref v1, .int v2, .ref v3] I J P Q ↔ (S v1 = 10 ∧ vp_in v0 (N v1)) ∧ Wp S N d MX7_addCredit 69 [x0, x1, x2, x3, x4, x5] [.int (I v1 v0.toNatClampNeg), .int v2, .ref v3] I J P Q := wp_ald rfl rfl dX7_addCredit_68
theorem e_X7_addCredit_69 {v0 : Int32} {v1 : Int32} {v2 : Nat} {x0 x1 x2 x3 x4 x5 : Option Value} : Wp S N d MX7_addCredit 69 [x0, x1, x2, x3, x4, x5] [.int v0, .int v1, .ref v2] I J P Q ↔ (S v2 = 10 ∧ vp_in v1 (N v2)) ∧ Wp S N d MX7_addCredit 70 [x0, x1, x2, x3, x4, x5] [] (u2 I v2 v1.toNatClampNeg v0) J P Q := wp_ast rfl rfl dX7_addCredit_69
theorem e_X7_addCredit_70 {w : Nat} {x0 x1 x2 x3 x5 : Option Value} : Wp S N d MX7_addCredit 70 [x0, x1, x2, x3, some (.ref w), x5] [] I J P Q ↔ Wp S N d MX7_addCredit 72 [x0, x1, x2, x3, some (.ref w), x5] [.ref w] I J P Q := wp_lod (len := 2) rfl rfl rfl rfl dX7_addCredit_70
theorem e_X7_addCredit_72 {v0 : Nat} {x0 x1 x2 x3 x4 x5 : Option Value} : Wp S N d MX7_addCredit 72 [x0, x1, x2, x3, x4, x5] [.ref v0] I J P Q ↔ S v0 = 2 ∧ Wp S N d MX7_addCredit 75 [x0, x1, x2, x3, x4, x5] [va_rf (P v0 0)] I J P Q := wp_getf rfl rfl rfl rfl dX7_addCredit_72
theorem e_X7_addCredit_75 {v0 : Nat} {x0 x1 x2 x3 x4 x5 : Option Value} : Wp S N d MX7_addCredit 75 [x0, x1, x2, x3, x4, x5] [.ref v0] I J P Q ↔ Wp S N d MX7_addCredit 76 [x0, x1, x2, x3, x4, x5] [.int 5, .ref v0] I J P Q := wp_iconst (by decide) dX7_addCredit_75
theorem e_X7_addCredit_76 {v0 : Int32} {v1 : Nat} {w : Int32} {x0 x1 x2 x4 x5 : Option Value} : Wp S N d MX7_addCredit 76 [x0, x1, x2, some (.int w), x4, x5] [.int v0, .ref v1] I J P Q ↔ Wp S N d MX7_addCredit 77 [x0, x1, x2, some (.int w), x4, x5] [.int w, .int v0, .ref v1] I J P Q := wp_lod (len := 1) rfl rfl rfl rfl dX7_addCredit_76
theorem e_X7_addCredit_77 {v0 : Int32} {v1 : Int32} {v2 : Nat} {x0 x1 x2 x3 x4 x5 : Option Value} : Wp S N d MX7_addCredit 77 [x0, x1, x2, x3, x4, x5] [.int v0, .int v1, .ref v2] I J P Q ↔ (v0 = 0 → Wp S N d MX7_addCredit 84 [x0, x1, x2, x3, x4, x5] [.int v1, .ref v2] I J P Q) ∧ (¬ v0 = 0 → Wp S N d MX7_addCredit 80 [x0, x1, x2, x3, x4, x5] [.int v1, .ref v2] I J P Q) := wp_br rfl rfl (by decide) dX7_addCredit_77
theorem e_X7_addCredit_80 {v0 : Int32} {v1 : Nat} {x0 x1 x2 x3 x4 x5 : Option Value} : Wp S N d MX7_addCredit 80 [x0, x1, x2, x3, x4, x5] [.int v0, .ref v1] I J P Q ↔ Wp S N d MX7_addCredit 81 [x0, x1, x2, x3, x4, x5] [.int 1, .int v0, .ref v1] I J P Q := wp_iconst (by decide) dX7_addCredit_80
theorem e_X7_addCredit_81 {v0 : Int32} {v1 : Int32} {v2 : Nat} {x0 x1 x2 x3 x4 x5 : Option Value} : Wp S N d MX7_addCredit 81 [x0, x1, x2, x3, x4, x5] [.int v0, .int v1, .ref v2] I J P Q ↔ Wp S N d MX7_addCredit 85 [x0, x1, x2, x3, x4, x5] [.int v0, .int v1, .ref v2] I J P Q := wp_go (len := 3) rfl (fun _ _ => rfl) rfl (by decide) dX7_addCredit_81
theorem e_X7_addCredit_84 {v0 : Int32} {v1 : Nat} {x0 x1 x2 x3 x4 x5 : Option Value} : Wp S N d MX7_addCredit 84 [x0, x1, x2, x3, x4, x5] [.int v0, .ref v1] I J P Q ↔ Wp S N d MX7_addCredit 85 [x0, x1, x2, x3, x4, x5] [.int 0, .int v0, .ref v1] I J P Q := wp_iconst (by decide) dX7_addCredit_84
theorem e_X7_addCredit_85 {v0 : Int32} {v1 : Int32} {v2 : Nat} {x0 x1 x2 x3 x4 x5 : Option Value} : Wp S N d MX7_addCredit 85 [x0, x1, x2, x3, x4, x5] [.int v0, .int v1, .ref v2] I J P Q ↔ (S v2 = 10 ∧ vp_in v1 (N v2)) ∧ Wp S N d MX7_addCredit 86 [x0, x1, x2, x3, x4, x5] [] (u2 I v2 v1.toNatClampNeg v0) J P Q := wp_ast rfl rfl dX7_addCredit_85
theorem e_X7_addCredit_86  {x0 x1 x2 x3 x4 x5 : Option Value} : Wp S N d MX7_addCredit 86 [x0, x1, x2, x3, x4, x5] [] I J P Q ↔ Wp S N d MX7_addCredit 87 [x0, x1, x2, x3, x4, x5] [.int 0] I J P Q := wp_iconst (by decide) dX7_addCredit_86
theorem e_X7_addCredit_87 {v0 : Int32} {x0 x1 x2 x3 x4 x5 : Option Value} : Wp S N d MX7_addCredit 87 [x0, x1, x2, x3, x4, x5] [.int v0] I J P Q ↔ Wp S N d MX7_addCredit 89 [x0, x1, x2, x3, kl x4, some (.int v0)] [] I J P Q := wp_sto (len := 2) rfl rfl rfl rfl (Nat.le_of_ble_eq_true rfl) rfl dX7_addCredit_87
theorem e_X7_addCredit_89 {w : Int32} {x0 x1 x2 x3 x4 : Option Value} : Wp S N d MX7_addCredit 89 [x0, x1, x2, x3, x4, some (.int w)] [] I J P Q ↔ Wp S N d MX7_addCredit 91 [x0, x1, x2, x3, x4, some (.int w)] [.int w] I J P Q := wp_lod (len := 2) rfl rfl rfl rfl dX7_addCredit_89
theorem e_X7_addCredit_91 {v0 : Int32} {x0 x1 x2 x3 x4 x5 : Option Value} : Wp S N d MX7_addCredit 91 [x0, x1, x2, x3, x4, x5] [.int v0] I J P Q ↔ Wp S N d MX7_addCredit 93 [x0, x1, x2, x3, x4, x5] [.int 6, .int v0] I J P Q := wp_bipush (by decide) dX7_addCredit_91
theorem e_X7_addCredit_93 {v0 : Int32} {v1 : Int32} {x0 x1 x2 x3 x4 x5 : Option Value} : Wp S N d MX7_addCredit 93 [x0, x1, x2, x3, x4, x5] [.int v0, .int v1] I J P Q ↔ (v0 ≤ v1 → Wp S N d MX7_addCredit 111 [x0, x1, x2, x3, x4, x5] [] I J P Q) ∧ (¬ v0 ≤ v1 → Wp S N d MX7_addCredit 96 [x0, x1, x2, x3, x4, x5] [] I J P Q) := wp_br rfl rfl (by decide) dX7_addCredit_93
theorem e_X7_addCredit_96 {w : Nat} {x0 x1 x2 x3 x5 : Option Value} : Wp S N d MX7_addCredit 96 [x0, x1, x2, x3, some (.ref w), x5] [] I J P Q ↔ Wp S N d MX7_addCredit 98 [x0, x1, x2, x3, some (.ref w), x5] [.ref w] I J P Q := wp_lod (len := 2) rfl rfl rfl rfl dX7_addCredit_96
theorem e_X7_addCredit_98 {v0 : Nat} {x0 x1 x2 x3 x4 x5 : Option Value} : Wp S N d MX7_addCredit 98 [x0, x1, x2, x3, x4, x5] [.ref v0] I J P Q ↔ S v0 = 2 ∧ Wp S N d MX7_addCredit 101 [x0, x1, x2, x3, x4, x5] [va_rf (P v0 1)] I J P Q := wp_getf rfl rfl rfl rfl dX7_addCredit_98
theorem e_X7_addCredit_101 {v0 : Nat} {w : Int32} {x0 x1 x2 x3 x4 : Option Value} : Wp S N d MX7_addCredit 101 [x0, x1, x2, x3, x4, some (.int w)] [.ref v0] I J P Q ↔ Wp S N d MX7_addCredit 103 [x0, x1, x2, x3, x4, some (.int w)] [.int w, .ref v0] I J P Q := wp_lod (len := 2) rfl rfl rfl rfl dX7_addCredit_101
theorem e_X7_addCredit_103 {v0 : Int32} {v1 : Nat} {x0 x1 x2 x3 x4 x5 : Option Value} : Wp S N d MX7_addCredit 103 [x0, x1, x2, x3, x4, x5] [.int v0, .ref v1] I J P Q ↔ Wp S N d MX7_addCredit 104 [x0, x1, x2, x3, x4, x5] [.long 0, .int v0, .ref v1] I J P Q := wp_lconst (by decide) dX7_addCredit_103
theorem e_X7_addCredit_104 {v0 : Int64} {v1 : Int32} {v2 : Nat} {x0 x1 x2 x3 x4 x5 : Option Value} : Wp S N d MX7_addCredit 104 [x0, x1, x2, x3, x4, x5] [.long v0, .int v1, .ref v2] I J P Q ↔ (S v2 = 11 ∧ vp_in v1 (N v2)) ∧ Wp S N d MX7_addCredit 105 [x0, x1, x2, x3, x4, x5] [] I (u2 J v2 v1.toNatClampNeg v0) P Q := wp_ast rfl rfl dX7_addCredit_104
theorem e_X7_addCredit_105 {w : Int32} {x0 x1 x2 x3 x4 : Option Value} : Wp S N d MX7_addCredit 105 [x0, x1, x2, x3, x4, some (.int w)] [] I J P Q ↔ Wp S N d MX7_addCredit 108 [x0, x1, x2, x3, kl x4, some (.int (w + 1))] [] I J P Q := wp_inc rfl rfl dX7_addCredit_105
theorem e_X7_addCredit_108  {x0 x1 x2 x3 x4 x5 : Option Value} : Wp S N d MX7_addCredit 108 [x0, x1, x2, x3, x4, x5] [] I J P Q ↔ Wp S N d MX7_addCredit 89 [x0, x1, x2, x3, x4, x5] [] I J P Q := wp_go (len := 3) rfl (fun _ _ => rfl) rfl (by decide) dX7_addCredit_108
theorem e_X7_addCredit_111 {w : Nat} {x1 x2 x3 x4 x5 : Option Value} : Wp S N d MX7_addCredit 111 [some (.ref w), x1, x2, x3, x4, x5] [] I J P Q ↔ Wp S N d MX7_addCredit 112 [some (.ref w), x1, x2, x3, x4, x5] [.ref w] I J P Q := wp_lod (len := 1) rfl rfl rfl rfl dX7_addCredit_111
theorem e_X7_addCredit_112 {v0 : Nat} {x0 x1 x2 x3 x4 x5 : Option Value} : Wp S N d MX7_addCredit 112 [x0, x1, x2, x3, x4, x5] [.ref v0] I J P Q ↔ Wp S N d MX7_addCredit 113 [x0, x1, x2, x3, x4, x5] [.ref v0, .ref v0] I J P Q := wp_alu (len := 1) rfl rfl rfl dX7_addCredit_112
theorem e_X7_addCredit_113 {v0 : Nat} {v1 : Nat} {x0 x1 x2 x3 x4 x5 : Option Value} : Wp S N d MX7_addCredit 113 [x0, x1, x2, x3, x4, x5] [.ref v0, .ref v1] I J P Q ↔ S v0 = 7 ∧ Wp S N d MX7_addCredit 116 [x0, x1, x2, x3, x4, x5] [.int (I v0 7), .ref v1] I J P Q := wp_getf rfl rfl rfl rfl dX7_addCredit_113
theorem e_X7_addCredit_116 {v0 : Int32} {v1 : Nat} {x0 x1 x2 x3 x4 x5 : Option Value} : Wp S N d MX7_addCredit 116 [x0, x1, x2, x3, x4, x5] [.int v0, .ref v1] I J P Q ↔ Wp S N d MX7_addCredit 117 [x0, x1, x2, x3, x4, x5] [.int 1, .int v0, .ref v1] I J P Q := wp_iconst (by decide) dX7_addCredit_116
theorem e_X7_addCredit_117 {v0 : Int32} {v1 : Int32} {v2 : Nat} {x0 x1 x2 x3 x4 x5 : Option Value} : Wp S N d MX7_addCredit 117 [x0, x1, x2, x3, x4, x5] [.int v0, .int v1, .ref v2] I J P Q ↔ Wp S N d MX7_addCredit 118 [x0, x1, x2, x3, x4, x5] [.int (v1 + v0), .ref v2] I J P Q := wp_alu (len := 1) rfl rfl rfl dX7_addCredit_117
theorem e_X7_addCredit_118 {v0 : Int32} {v1 : Nat} {x0 x1 x2 x3 x4 x5 : Option Value} : Wp S N d MX7_addCredit 118 [x0, x1, x2, x3, x4, x5] [.int v0, .ref v1] I J P Q ↔ S v1 = 7 ∧ Wp S N d MX7_addCredit 121 [x0, x1, x2, x3, x4, x5] [] (u2 I v1 7 v0) J P Q := wp_putI rfl rfl rfl rfl dX7_addCredit_118
theorem e_X7_addCredit_121 {w : Nat} {x0 x1 x2 x3 x5 : Option Value} : Wp S N d MX7_addCredit 121 [x0, x1, x2, x3, some (.ref w), x5] [] I J P Q ↔ Wp S N d MX7_addCredit 123 [x0, x1, x2, x3, some (.ref w), x5] [.ref w] I J P Q := wp_lod (len := 2) rfl rfl rfl rfl dX7_addCredit_121
theorem e_X7_addCredit_123 {v0 : Nat} {x0 x1 x2 x3 x4 x5 : Option Value} : Wp S N d MX7_addCredit 123 [x0, x1, x2, x3, x4, x5] [.ref v0] I J P Q ↔ S v0 = 2 ∧ Wp S N d MX7_addCredit 126 [x0, x1, x2, x3, x4, x5] [va_rf (P v0 0)] I J P Q := wp_getf rfl rfl rfl rfl dX7_addCredit_123
theorem e_X7_addCredit_126 {v0 : Nat} {x0 x1 x2 x3 x4 x5 : Option Value} : Wp S N d MX7_addCredit 126 [x0, x1, x2, x3, x4, x5] [.ref v0] I J P Q ↔ Wp S N d MX7_addCredit 127 [x0, x1, x2, x3, x4, x5] [.int 2, .ref v0] I J P Q := wp_iconst (by decide) dX7_addCredit_126
theorem e_X7_addCredit_127 {v0 : Int32} {v1 : Nat} {x0 x1 x2 x3 x4 x5 : Option Value} : Wp S N d MX7_addCredit 127 [x0, x1, x2, x3, x4, x5] [.int v0, .ref v1] I J P Q ↔ (S v1 = 10 ∧ vp_in v0 (N v1)) ∧ Wp S N d MX7_addCredit 128 [x0, x1, x2, x3, x4, x5] [.int (I v1 v0.toNatClampNeg)] I J P Q := wp_ald rfl rfl dX7_addCredit_127
theorem e_X7_addCredit_128 {v0 : Int32} {x0 x1 x2 x3 x4 x5 : Option Value} : Wp S N d MX7_addCredit 128 [x0, x1, x2, x3, x4, x5] [.int v0] I J P Q ↔ Wp S N d MX7_addCredit 131 [x0, x1, x2, x3, x4, x5] [.int 999, .int v0] I J P Q := wp_sipush (by decide) dX7_addCredit_128
theorem e_X7_addCredit_131 {v0 : Int32} {v1 : Int32} {x0 x1 x2 x3 x4 x5 : Option Value} : Wp S N d MX7_addCredit 131 [x0, x1, x2, x3, x4, x5] [.int v0, .int v1] I J P Q ↔ (v0 < v1 → Wp S N d MX7_addCredit 151 [x0, x1, x2, x3, x4, x5] [] I J P Q) ∧ (¬ v0 < v1 → Wp S N d MX7_addCredit 134 [x0, x1, x2, x3, x4, x5] [] I J P Q) := wp_br rfl rfl (by decide) dX7_addCredit_131
theorem e_X7_addCredit_134 {w : Nat} {x0 x1 x2 x3 x5 : Option Value} : Wp S N d MX7_addCredit 134 [x0, x1, x2, x3, some (.ref w), x5] [] I J P Q ↔ Wp S N d MX7_addCredit 136 [x0, x1, x2, x3, some (.ref w), x5] [.ref w] I J P Q := wp_lod (len := 2) rfl rfl rfl rfl dX7_addCredit_134
theorem e_X7_addCredit_136 {v0 : Nat} {x0 x1 x2 x3 x4 x5 : Option Value} : Wp S N d MX7_addCredit 136 [x0, x1, x2, x3, x4, x5] [.ref v0] I J P Q ↔ S v0 = 2 ∧ Wp S N d MX7_addCredit 139 [x0, x1, x2, x3, x4, x5] [va_rf (P v0 0)] I J P Q := wp_getf rfl rfl rfl rfl dX7_addCredit_136
theorem e_X7_addCredit_139 {v0 : Nat} {x0 x1 x2 x3 x4 x5 : Option Value} : Wp S N d MX7_addCredit 139 [x0, x1, x2, x3, x4, x5] [.ref v0] I J P Q ↔ Wp S N d MX7_addCredit 140 [x0, x1, x2, x3, x4, x5] [.int 4, .ref v0] I J P Q := wp_iconst (by decide) dX7_addCredit_139
theorem e_X7_addCredit_140 {v0 : Int32} {v1 : Nat} {x0 x1 x2 x3 x4 x5 : Option Value} : Wp S N d MX7_addCredit 140 [x0, x1, x2, x3, x4, x5] [.int v0, .ref v1] I J P Q ↔ (S v1 = 10 ∧ vp_in v0 (N v1)) ∧ Wp S N d MX7_addCredit 141 [x0, x1, x2, x3, x4, x5] [.int (I v1 v0.toNatClampNeg)] I J P Q := wp_ald rfl rfl dX7_addCredit_140
theorem e_X7_addCredit_141 {v0 : Int32} {x0 x1 x2 x3 x4 x5 : Option Value} : Wp S N d MX7_addCredit 141 [x0, x1, x2, x3, x4, x5] [.int v0] I J P Q ↔ Wp S N d MX7_addCredit 144 [x0, x1, x2, x3, x4, x5] [.int 999, .int v0] I J P Q := wp_sipush (by decide) dX7_addCredit_141
theorem e_X7_addCredit_144 {v0 : Int32} {v1 : Int32} {x0 x1 x2 x3 x4 x5 : Option Value} : Wp S N d MX7_addCredit 144 [x0, x1, x2, x3, x4, x5] [.int v0, .int v1] I J P Q ↔ (v0 < v1 → Wp S N d MX7_addCredit 151 [x0, x1, x2, x3, x4, x5] [] I J P Q) ∧ (¬ v0 < v1 → Wp S N d MX7_addCredit 147 [x0, x1, x2, x3, x4, x5] [] I J P Q) := wp_br rfl rfl (by decide) dX7_addCredit_144
theorem e_X7_addCredit_147  {x0 x1 x2 x3 x4 x5 : Option Value} : Wp S N d MX7_addCredit 147 [x0, x1, x2, x3, x4, x5] [] I J P Q ↔ Wp S N d MX7_addCredit 148 [x0, x1, x2, x3, x4, x5] [.int 1] I J P Q := wp_iconst (by decide) dX7_addCredit_147
theorem e_X7_addCredit_148 {v0 : Int32} {x0 x1 x2 x3 x4 x5 : Option Value} : Wp S N d MX7_addCredit 148 [x0, x1, x2, x3, x4, x5] [.int v0] I J P Q ↔ Wp S N d MX7_addCredit 152 [x0, x1, x2, x3, x4, x5] [.int v0] I J P Q := wp_go (len := 3) rfl (fun _ _ => rfl) rfl (by decide) dX7_addCredit_148
theorem e_X7_addCredit_151  {x0 x1 x2 x3 x4 x5 : Option Value} : Wp S N d MX7_addCredit 151 [x0, x1, x2, x3, x4, x5] [] I J P Q ↔ Wp S N d MX7_addCredit 152 [x0, x1, x2, x3, x4, x5] [.int 0] I J P Q := wp_iconst (by decide) dX7_addCredit_151
theorem e_X7_addCredit_152 {v0 : Int32} (hb : isB v0) {x0 x1 x2 x3 x4 x5 : Option Value} : Wp S N d MX7_addCredit 152 [x0, x1, x2, x3, x4, x5] [.int v0] I J P Q ↔ Q (some (.int v0)) I J P := wp_zret rfl dX7_addCredit_152 hb
theorem dX7_shiftCredit_0 : decode cX7_shiftCredit 0 = .ok (.aload_n 0, 1) := by decide +kernel
theorem dX7_shiftCredit_1 : decode cX7_shiftCredit 1 = .ok (.getfield 33, 3) := by decide +kernel
theorem dX7_shiftCredit_4 : decode cX7_shiftCredit 4 = .ok (.iload_n 1, 1) := by decide +kernel
theorem dX7_shiftCredit_5 : decode cX7_shiftCredit 5 = .ok (.aaload, 1) := by decide +kernel
theorem dX7_shiftCredit_6 : decode cX7_shiftCredit 6 = .ok (.astore_n 3, 1) := by decide +kernel
theorem dX7_shiftCredit_7 : decode cX7_shiftCredit 7 = .ok (.iload_n 1, 1) := by decide +kernel
theorem dX7_shiftCredit_8 : decode cX7_shiftCredit 8 = .ok (.istore 4, 2) := by decide +kernel
theorem dX7_shiftCredit_10 : decode cX7_shiftCredit 10 = .ok (.iload 4, 2) := by decide +kernel
theorem dX7_shiftCredit_12 : decode cX7_shiftCredit 12 = .ok (.iload_n 2, 1) := by decide +kernel
theorem dX7_shiftCredit_13 : decode cX7_shiftCredit 13 = .ok (.if_icmp .ge 25, 3) := by decide +kernel
theorem dX7_shiftCredit_16 : decode cX7_shiftCredit 16 = .ok (.aload_n 0, 1) := by decide +kernel
theorem dX7_shiftCredit_17 : decode cX7_shiftCredit 17 = .ok (.getfield 33, 3) := by decide +kernel
theorem dX7_shiftCredit_20 : decode cX7_shiftCredit 20 = .ok (.iload 4, 2) := by decide +kernel
theorem dX7_shiftCredit_22 : decode cX7_shiftCredit 22 = .ok (.aload_n 0, 1) := by decide +kernel
theorem dX7_shiftCredit_23 : decode cX7_shiftCredit 23 = .ok (.getfield 33, 3) := by decide +kernel
theorem dX7_shiftCredit_26 : decode cX7_shiftCredit 26 = .ok (.iload 4, 2) := by decide +kernel
theorem dX7_shiftCredit_28 : decode cX7_shiftCredit 28 = .ok (.iconst 1, 1) := by decide +kernel
theorem dX7_shiftCredit_29 : decode cX7_shiftCredit 29 = .ok (.iadd, 1) := by decide +kernel
theorem dX7_shiftCredit_30 : decode cX7_shiftCredit 30 = .ok (.aaload, 1) := by decide +kernel
theorem dX7_shiftCredit_31 : decode cX7_shiftCredit 31 = .ok (.aastore, 1) := by decide +kernel
theorem dX7_shiftCredit_32 : decode cX7_shiftCredit 32 = .ok (.iinc 4 1, 3) := by decide +kernel
theorem dX7_shiftCredit_35 : decode cX7_shiftCredit 35 = .ok (.goto (-25), 3) := by decide +kernel
theorem dX7_shiftCredit_38 : decode cX7_shiftCredit 38 = .ok (.iload_n 1, 1) := by decide +kernel
theorem dX7_shiftCredit_39 : decode cX7_shiftCredit 39 = .ok (.istore 4, 2) := by decide +kernel
theorem dX7_shiftCredit_41 : decode cX7_shiftCredit 41 = .ok (.iload 4, 2) := by decide +kernel
theorem dX7_shiftCredit_43 : decode cX7_shiftCredit 43 = .ok (.iload_n 2, 1) := by decide +kernel
theorem dX7_shiftCredit_44 : decode cX7_shiftCredit 44 = .ok (.if_icmp .le 25, 3) := by decide +kernel
theorem dX7_shiftCredit_47 : decode cX7_shiftCredit 47 = .ok (.aload_n 0, 1) := by decide +kernel
theorem dX7_shiftCredit_48 : decode cX7_shiftCredit 48 = .ok (.getfield 33, 3) := by decide +kernel
theorem dX7_shiftCredit_51 : decode cX7_shiftCredit 51 = .ok (.iload 4, 2) := by decide +kernel
theorem dX7_shiftCredit_53 : decode cX7_shiftCredit 53 = .ok (.aload_n 0, 1) := by decide +kernel
theorem dX7_shiftCredit_54 : decode cX7_shiftCredit 54 = .ok (.getfield 33, 3) := by decide +kernel
theorem dX7_shiftCredit_57 : decode cX7_shiftCredit 57 = .ok (.iload 4, 2) := by decide +kernel
theorem dX7_shiftCredit_59 : decode cX7_shiftCredit 59 = .ok (.iconst 1, 1) := by decide +kernel
theorem dX7_shiftCredit_60 : decode cX7_shiftCredit 60 = .ok (.isub, 1) := by decide +kernel
theorem dX7_shiftCredit_61 : decode cX7_shiftCredit 61 = .ok (.aaload, 1) := by decide +kernel
theorem dX7_shiftCredit_62 : decode cX7_shiftCredit 62 = .ok (.aastore, 1) := by decide +kernel
theorem dX7_shiftCredit_63 : decode cX7_shiftCredit 63 = .ok (.iinc 4 (-1), 3) := by decide +kernel
theorem dX7_shiftCredit_66 : decode cX7_shiftCredit 66 = .ok (.goto (-25), 3) := by decide +kernel
theorem dX7_shiftCredit_69 : decode cX7_shiftCredit 69 = .ok (.aload_n 0, 1) := by decide +kernel
theorem dX7_shiftCredit_70 : decode cX7_shiftCredit 70 = .ok (.getfield 33, 3) := by decide +kernel
theorem dX7_shiftCredit_73 : decode cX7_shiftCredit 73 = .ok (.iload_n 2, 1) := by decide +kernel
theorem dX7_shiftCredit_74 : decode cX7_shiftCredit 74 = .ok (.aload_n 3, 1) := by decide +kernel
theorem dX7_shiftCredit_75 : decode cX7_shiftCredit 75 = .ok (.aastore, 1) := by decide +kernel
theorem dX7_shiftCredit_76 : decode cX7_shiftCredit 76 = .ok (.return_, 1) := by decide +kernel
theorem c_X7_shiftCredit {a0 : Nat} {a1 : Int32} {a2 : Int32} : CWp S N d MX7_shiftCredit [.ref a0, .int a1, .int a2] I J P Q ↔ Wp S N d MX7_shiftCredit 0 [some (.ref a0), some (.int a1), some (.int a2), none, none] [] I J P Q := by
  rw [cwp_iff]
  exact ⟨fun h => h.2, fun h => ⟨Nat.le_of_ble_eq_true rfl, h⟩⟩
theorem e_X7_shiftCredit_0 {w : Nat} {x1 x2 x3 x4 : Option Value} : Wp S N d MX7_shiftCredit 0 [some (.ref w), x1, x2, x3, x4] [] I J P Q ↔ Wp S N d MX7_shiftCredit 1 [some (.ref w), x1, x2, x3, x4] [.ref w] I J P Q := wp_lod (len := 1) rfl rfl rfl rfl dX7_shiftCredit_0
theorem e_X7_shiftCredit_1 {v0 : Nat} {x0 x1 x2 x3 x4 : Option Value} : Wp S N d MX7_shiftCredit 1 [x0, x1, x2, x3, x4] [.ref v0] I J P Q ↔ S v0 = 7 ∧ Wp S N d MX7_shiftCredit 4 [x0, x1, x2, x3, x4] [va_rf (P v0 8)] I J P Q := wp_getf rfl rfl rfl rfl dX7_shiftCredit_1
theorem e_X7_shiftCredit_4 {v0 : Nat} {w : Int32} {x0 x2 x3 x4 : Option Value} : Wp S N d MX7_shiftCredit 4 [x0, some (.int w), x2, x3, x4] [.ref v0] I J P Q ↔ Wp S N d MX7_shiftCredit 5 [x0, some (.int w), x2, x3, x4] [.int w, .ref v0] I J P Q := wp_lod (len := 1) rfl rfl rfl rfl dX7_shiftCredit_4
theorem e_X7_shiftCredit_5 {v0 : Int32} {v1 : Nat} {x0 x1 x2 x3 x4 : Option Value} : Wp S N d MX7_shiftCredit 5 [x0, x1, x2, x3, x4] [.int v0, .ref v1] I J P Q ↔ ((S v1 = 12 ∨ S v1 = 13 ∨ S v1 = 14) ∧ vp_in v0 (N v1)) ∧ Wp S N d MX7_shiftCredit 6 [x0, x1, x2, x3, x4] [va_rf (P v1 v0.toNatClampNeg)] I J P Q := wp_ald rfl rfl dX7_shiftCredit_5
theorem e_X7_shiftCredit_6 {v0 : Nat} {x0 x1 x2 x3 x4 : Option Value} : Wp S N d MX7_shiftCredit 6 [x0, x1, x2, x3, x4] [.ref v0] I J P Q ↔ Wp S N d MX7_shiftCredit 7 [x0, x1, kl x2, some (.ref v0), x4] [] I J P Q := wp_sto (len := 1) rfl rfl rfl rfl (Nat.le_of_ble_eq_true rfl) rfl dX7_shiftCredit_6
theorem e_X7_shiftCredit_7 {w : Int32} {x0 x2 x3 x4 : Option Value} : Wp S N d MX7_shiftCredit 7 [x0, some (.int w), x2, x3, x4] [] I J P Q ↔ Wp S N d MX7_shiftCredit 8 [x0, some (.int w), x2, x3, x4] [.int w] I J P Q := wp_lod (len := 1) rfl rfl rfl rfl dX7_shiftCredit_7
theorem e_X7_shiftCredit_8 {v0 : Int32} {x0 x1 x2 x3 x4 : Option Value} : Wp S N d MX7_shiftCredit 8 [x0, x1, x2, x3, x4] [.int v0] I J P Q ↔ Wp S N d MX7_shiftCredit 10 [x0, x1, x2, kl x3, some (.int v0)] [] I J P Q := wp_sto (len := 2) rfl rfl rfl rfl (Nat.le_of_ble_eq_true rfl) rfl dX7_shiftCredit_8
theorem e_X7_shiftCredit_10 {w : Int32} {x0 x1 x2 x3 : Option Value} : Wp S N d MX7_shiftCredit 10 [x0, x1, x2, x3, some (.int w)] [] I J P Q ↔ Wp S N d MX7_shiftCredit 12 [x0, x1, x2, x3, some (.int w)] [.int w] I J P Q := wp_lod (len := 2) rfl rfl rfl rfl dX7_shiftCredit_10
theorem e_X7_shiftCredit_12 {v0 : Int32} {w : Int32} {x0 x1 x3 x4 : Option Value} : Wp S N d MX7_shiftCredit 12 [x0, x1, some (.int w), x3, x4] [.int v0] I J P Q ↔ Wp S N d MX7_shiftCredit 13 [x0, x1, some (.int w), x3, x4] [.int w, .int v0] I J P Q := wp_lod (len := 1) rfl rfl rfl rfl dX7_shiftCredit_12
theorem e_X7_shiftCredit_13 {v0 : Int32} {v1 : Int32} {x0 x1 x2 x3 x4 : Option Value} : Wp S N d MX7_shiftCredit 13 [x0, x1, x2, x3, x4] [.int v0, .int v1] I J P Q ↔ (v0 ≤ v1 → Wp S N d MX7_shiftCredit 38 [x0, x1, x2, x3, x4] [] I J P Q) ∧ (¬ v0 ≤ v1 → Wp S N d MX7_shiftCredit 16 [x0, x1, x2, x3, x4] [] I J P Q) := wp_br rfl rfl (by decide) dX7_shiftCredit_13
theorem e_X7_shiftCredit_16 {w : Nat} {x1 x2 x3 x4 : Option Value} : Wp S N d MX7_shiftCredit 16 [some (.ref w), x1, x2, x3, x4] [] I J P Q ↔ Wp S N d MX7_shiftCredit 17 [some (.ref w), x1, x2, x3, x4] [.ref w] I J P Q := wp_lod (len := 1) rfl rfl rfl rfl dX7_shiftCredit_16
theorem e_X7_shiftCredit_17 {v0 : Nat} {x0 x1 x2 x3 x4 : Option Value} : Wp S N d MX7_shiftCredit 17 [x0, x1, x2, x3, x4] [.ref v0] I J P Q ↔ S v0 = 7 ∧ Wp S N d MX7_shiftCredit 20 [x0, x1, x2, x3, x4] [va_rf (P v0 8)] I J P Q := wp_getf rfl rfl rfl rfl dX7_shiftCredit_17
theorem e_X7_shiftCredit_20 {v0 : Nat} {w : Int32} {x0 x1 x2 x3 : Option Value} : Wp S N d MX7_shiftCredit 20 [x0, x1, x2, x3, some (.int w)] [.ref v0] I J P Q ↔ Wp S N d MX7_shiftCredit 22 [x0, x1, x2, x3, some (.int w)] [.int w, .ref v0] I J P Q := wp_lod (len := 2) rfl rfl rfl rfl dX7_shiftCredit_20
theorem e_X7_shiftCredit_22 {v0 : Int32} {v1 : Nat} {w : Nat} {x1 x2 x3 x4 : Option Value} : Wp S N d MX7_shiftCredit 22 [some (.ref w), x1, x2, x3, x4] [.int v0, .ref v1] I J P Q ↔ Wp S N d MX7_shiftCredit 23 [some (.ref w), x1, x2, x3, x4] [.ref w, .int v0, .ref v1] I J P Q := wp_lod (len := 1) rfl rfl rfl rfl dX7_shiftCredit_22
theorem e_X7_shiftCredit_23 {v0 : Nat} {v1 : Int32} {v2 : Nat} {x0 x1 x2 x3 x4 : Option Value} : Wp S N d MX7_shiftCredit 23 [x0, x1, x2, x3, x4] [.ref v0, .int v1, .ref v2] I J P Q ↔ S v0 = 7 ∧ Wp S N d MX7_shiftCredit 26 [x0, x1, x2, x3, x4] [va_rf (P v0 8), .int v1, .ref v2] I J P Q := wp_getf rfl rfl rfl rfl dX7_shiftCredit_23
theorem e_X7_shiftCredit_26 {v0 : Nat} {v1 : Int32} {v2 : Nat} {w : Int32} {x0 x1 x2 x3 : Option Value} : Wp S N d MX7_shiftCredit 26 [x0, x1, x2, x3, some (.int w)] [.ref v0, .int v1, .ref v2] I J P Q ↔ Wp S N d MX7_shiftCredit 28 [x0, x1, x2, x3, some (.int w)] [.int w, .ref v0, .int v1, .ref v2] I J P Q := wp_lod (len := 2) rfl rfl rfl rfl dX7_shiftCredit_26
theorem e_X7_shiftCredit_28 {v0 : Int32} {v1 : Nat} {v2 : Int32} {v3 : Nat} {x0 x1 x2 x3 x4 : Option Value} : Wp S N d MX7_shiftCredit 28 [x0, x1, x2, x3, x4] [.int v0, .ref v1, .int v2, .ref v3] I J P Q ↔ Wp S N d MX7_shiftCredit 29 [x0, x1, x2, x3, x4] [.int 1, .int v0, .ref v1, .int v2, .ref v3] I J P Q := wp_iconst (by decide) dX7_shiftCredit_28
theorem e_X7_shiftCredit_29 {v0 : Int32} {v1 : Int32} {v2 : Nat} {v3 : Int32} {v4 : Nat} {x0 x1 x2 x3 x4 : Option Value} : Wp S N d MX7_shiftCredit 29 [x0, x1, x2, x3, x4] [.int v0, .int v1, .ref v2, .int v3, .ref v4] I J P Q ↔ Wp S N d MX7_shiftCredit 30 [x0, x1, x2, x3, x4] [.int (v1 + v0), .ref v2, .int v3, .ref v4] I J P Q := wp_alu (len := 1) rfl rfl rfl dX7_shiftCredit_29
theorem e_X7_shiftCredit_30 {v0 : Int32} {v1 : Nat} {v2 : Int32} {v3 : Nat} {x0 x1 x2 x3 x4 : Option Value} : Wp S N d MX7_shiftCredit 30 [x0, x1, x2, x3, x4] [.int v0, .ref v1, .int v2, .ref v3] I J P Q ↔ ((S v1 = 12 ∨ S v1 = 13 ∨ S v1 = 14) ∧ vp_in v0 (N v1)) ∧ Wp S N d MX7_shiftCredit 31 [x0, x1, x2, x3, x4] [va_rf (P v1 v0.toNatClampNeg), .int v2, .ref v3] I J P Q := wp_ald rfl rfl dX7_shiftCredit_30
theorem e_X7_shiftCredit_31 {v0 : Nat} {v1 : Int32} {v2 : Nat} {x0 x1 x2 x3 x4 : Option Value} : Wp S N d MX7_shiftCredit 31 [x0, x1, x2, x3, x4] [.ref v0, .int v1, .ref v2] I J P Q ↔ (((S v2 = 12 ∧ S v0 = 2) ∨ (S v2 = 13 ∧ S v0 = 5)) ∧ vp_in v1 (N v2)) ∧ Wp S N d MX7_shiftCredit 32 [x0, x1, x2, x3, x4] [] I J (u2 P v2 v1.toNatClampNeg (some v0)) Q := wp_ast rfl rfl dX7_shiftCredit_31
theorem e_X7_shiftCredit_32 {w : Int32} {x0 x1 x2 x3 : Option Value} : Wp S N d MX7_shiftCredit 32 [x0, x1, x2, x3, some (.int w)] [] I J P Q ↔ Wp S N d MX7_shiftCredit 35 [x0, x1, x2, kl x3, some (.int (w + 1))] [] I J P Q := wp_inc rfl rfl dX7_shiftCredit_32
theorem e_X7_shiftCredit_35  {x0 x1 x2 x3 x4 : Option Value} : Wp S N d MX7_shiftCredit 35 [x0, x1, x2, x3, x4] [] I J P Q ↔ Wp S N d MX7_shiftCredit 10 [x0, x1, x2, x3, x4] [] I J P Q := wp_go (len := 3) rfl (fun _ _ => rfl) rfl (by decide) dX7_shiftCredit_35
theorem e_X7_shiftCredit_38 {w : Int32} {x0 x2 x3 x4 : Option Value} : Wp S N d MX7_shiftCredit 38 [x0, some (.int w), x2, x3, x4] [] I J P Q ↔ Wp S N d MX7_shiftCredit 39 [x0, some (.int w), x2, x3, x4] [.int w] I J P Q := wp_lod (len := 1) rfl rfl rfl rfl dX7_shiftCredit_38
theorem e_X7_shiftCredit_39 {v0 : Int32} {x0 x1 x2 x3 x4 : Option Value} : Wp S N d MX7_shiftCredit 39 [x0, x1, x2, x3, x4] [.int v0] I J P Q ↔ Wp S N d MX7_shiftCredit 41 [x0, x1, x2, kl x3, some (.int v0)] [] I J P Q := wp_sto (len := 2) rfl rfl rfl rfl (Nat.le_of_ble_eq_true rfl) rfl dX7_shiftCredit_39
theorem e_X7_shiftCredit_41 {w : Int32} {x0 x1 x2 x3 : Option Value} : Wp S N d MX7_shiftCredit 41 [x0, x1, x2, x3, some (.int w)] [] I J P Q ↔ Wp S N d MX7_shiftCredit 43 [x0, x1, x2, x3, some (.int w)] [.int w] I J P Q := wp_lod (len := 2) rfl rfl rfl rfl dX7_shiftCredit_41
theorem e_X7_shiftCredit_43 {v0 : Int32} {w : Int32} {x0 x1 x3 x4 : Option Value} : Wp S N d MX7_shiftCredit 43 [x0, x1, some (.int w), x3, x4] [.int v0] I J P Q ↔ Wp S N d MX7_shiftCredit 44 [x0, x1, some (.int w), x3, x4] [.int w, .int v0] I J P Q := wp_lod (len := 1) rfl rfl rfl rfl dX7_shiftCredit_43
theorem e_X7_shiftCredit_44 {v0 : Int32} {v1 : Int32} {x0 x1 x2 x3 x4 : Option Value} : Wp S N d MX7_shiftCredit 44 [x0, x1, x2, x3, x4] [.int v0, .int v1] I J P Q ↔ (v1 ≤ v0 → Wp S N d MX7_shiftCredit 69 [x0, x1, x2, x3, x4] [] I J P Q) ∧ (¬ v1 ≤ v0 → Wp S N d MX7_shiftCredit 47 [x0, x1, x2, x3, x4] [] I J P Q) := wp_br rfl rfl (by decide) dX7_shiftCredit_44
theorem e_X7_shiftCredit_47 {w : Nat} {x1 x2 x3 x4 : Option Value} : Wp S N d MX7_shiftCredit 47 [some (.ref w), x1, x2, x3, x4] [] I J P Q ↔ Wp S N d MX7_shiftCredit 48 [some (.ref w), x1, x2, x3, x4] [.ref w] I J P Q := wp_lod (len := 1) rfl rfl rfl rfl dX7_shiftCredit_47
theorem e_X7_shiftCredit_48 {v0 : Nat} {x0 x1 x2 x3 x4 : Option Value} : Wp S N d MX7_shiftCredit 48 [x0, x1, x2, x3, x4] [.ref v0] I J P Q ↔ S v0 = 7 ∧ Wp S N d MX7_shiftCredit 51 [x0, x1, x2, x3, x4] [va_rf (P v0 8)] I J P Q := wp_getf rfl rfl rfl rfl dX7_shiftCredit_48
theorem e_X7_shiftCredit_51 {v0 : Nat} {w : Int32} {x0 x1 x2 x3 : Option Value} : Wp S N d MX7_shiftCredit 51 [x0, x1, x2, x3, some (.int w)] [.ref v0] I J P Q ↔ Wp S N d MX7_shiftCredit 53 [x0, x1, x2, x3, some (.int w)] [.int w, .ref v0] I J P Q := wp_lod (len := 2) rfl rfl rfl rfl dX7_shiftCredit_51
theorem e_X7_shiftCredit_53 {v0 : Int32} {v1 : Nat} {w : Nat} {x1 x2 x3 x4 : Option Value} : Wp S N d MX7_shiftCredit 53 [some (.ref w), x1, x2, x3, x4] [.int v0, .ref v1] I J P Q ↔ Wp S N d MX7_shiftCredit 54 [some (.ref w), x1, x2, x3, x4] [.ref w, .int v0, .ref v1] I J P Q := wp_lod (len := 1) rfl rfl rfl rfl dX7_shiftCredit_53
theorem e_X7_shiftCredit_54 {v0 : Nat} {v1 : Int32} {v2 : Nat} {x0 x1 x2 x3 x4 : Option Value} : Wp S N d MX7_shiftCredit 54 [x0, x1, x2, x3, x4] [.ref v0, .int v1, .ref v2] I J P Q ↔ S v0 = 7 ∧ Wp S N d MX7_shiftCredit 57 [x0, x1, x2, x3, x4] [va_rf (P v0 8), .int v1, .ref v2] I J P Q := wp_getf rfl rfl rfl rfl dX7_shiftCredit_54
theorem e_X7_shiftCredit_57 {v0 : Nat} {v1 : Int32} {v2 : Nat} {w : Int32} {x0 x1 x2 x3 : Option Value} : Wp S N d MX7_shiftCredit 57 [x0, x1, x2, x3, some (.int w)] [.ref v0, .int v1, .ref v2] I J P Q ↔ Wp S N d MX7_shiftCredit 59 [x0, x1, x2, x3, some (.int w)] [.int w, .ref v0, .int v1, .ref v2] I J P Q := wp_lod (len := 2) rfl rfl rfl rfl dX7_shiftCredit_57
theorem e_X7_shiftCredit_59 {v0 : Int32} {v1 : Nat} {v2 : Int32} {v3 : Nat} {x0 x1 x2 x3 x4 : Option Value} : Wp S N d MX7_shiftCredit 59 [x0, x1, x2, x3, x4] [.int v0, .ref v1, .int v2, .ref v3] I J P Q ↔ Wp S N d MX7_shiftCredit 60 [x0, x1, x2, x3, x4] [.int 1, .int v0, .ref v1, .int v2, .ref v3] I J P Q := wp_iconst (by decide) dX7_shiftCredit_59
theorem e_X7_shiftCredit_60 {v0 : Int32} {v1 : Int32} {v2 : Nat} {v3 : Int32} {v4 : Nat} {x0 x1 x2 x3 x4 : Option Value} : Wp S N d MX7_shiftCredit 60 [x0, x1, x2, x3, x4] [.int v0, .int v1, .ref v2, .int v3, .ref v4] I J P Q ↔ Wp S N d MX7_shiftCredit 61 [x0, x1, x2, x3, x4] [.int (v1 - v0), .ref v2, .int v3, .ref v4] I J P Q := wp_alu (len := 1) rfl rfl rfl dX7_shiftCredit_60
theorem e_X7_shiftCredit_61 {v0 : Int32} {v1 : Nat} {v2 : Int32} {v3 : Nat} {x0 x1 x2 x3 x4 : Option Value} : Wp S N d MX7_shiftCredit 61 [x0, x1, x2, x3, x4] [.int v0, .ref v1, .int v2, .ref v3] I J P Q ↔ ((S v1 = 12 ∨ S v1 = 13 ∨ S v1 = 14) ∧ vp_in v0 (N v1)) ∧ Wp S N d MX7_shiftCredit 62 [x0, x1, x2, x3, x4] [va_rf (P v1 v0.toNatClampNeg), .int v2, .ref v3] I J P Q := wp_ald rfl rfl dX7_shiftCredit_61
theorem e_X7_shiftCredit_62 {v0 : Nat} {v1 : Int32} {v2 : Nat} {x0 x1 x2 x3 x4 : Option Value} : Wp S N d MX7_shiftCredit 62 [x0, x1, x2, x3, x4] [.ref v0, .int v1, .ref v2] I J P Q ↔ (((S v2 = 12 ∧ S v0 = 2) ∨ (S v2 = 13 ∧ S v0 = 5)) ∧ vp_in v1 (N v2)) ∧ Wp S N d MX7_shiftCredit 63 [x0, x1, x2, x3, x4] [] I J (u2 P v2 v1.toNatClampNeg (some v0)) Q := wp_ast rfl rfl dX7_shiftCredit_62
theorem e_X7_shiftCredit_63 {w : Int32} {x0 x1 x2 x3 : Option Value} : Wp S N d MX7_shiftCredit 63 [x0, x1, x2, x3, some (.int w)] [] I J P Q ↔ Wp S N d MX7_shiftCredit 66 [x0, x1, x2, kl x3, some (.int (w + (-1)))] [] I J P Q := wp_inc rfl rfl dX7_shiftCredit_63
theorem e_X7_shiftCredit_66  {x0 x1 x2 x3 x4 : Option Value} : Wp S N d MX7_shiftCredit 66 [x0, x1, x2, x3, x4] [] I J P Q ↔ Wp S N d MX7_shiftCredit 41 [x0, x1, x2, x3, x4] [] I J P Q := wp_go (len := 3) rfl (fun _ _ => rfl) rfl (by decide) dX7_shiftCredit_66
theorem e_X7_shiftCredit_69 {w : Nat} {x1 x2 x3 x4 : Option Value} : Wp S N d MX7_shiftCredit 69 [some (.ref w), x1, x2, x3, x4] [] I J P Q ↔ Wp S N d MX7_shiftCredit 70 [some (.ref w), x1, x2, x3, x4] [.ref w] I J P Q := wp_lod (len := 1) rfl rfl rfl rfl dX7_shiftCredit_69
theorem e_X7_shiftCredit_70 {v0 : Nat} {x0 x1 x2 x3 x4 : Option Value} : Wp S N d MX7_shiftCredit 70 [x0, x1, x2, x3, x4] [.ref v0] I J P Q ↔ S v0 = 7 ∧ Wp S N d MX7_shiftCredit 73 [x0, x1, x2, x3, x4] [va_rf (P v0 8)] I J P Q := wp_getf rfl rfl rfl rfl dX7_shiftCredit_70
theorem e_X7_shiftCredit_73 {v0 : Nat} {w : Int32} {x0 x1 x3 x4 : Option Value} : Wp S N d MX7_shiftCredit 73 [x0, x1, some (.int w), x3, x4] [.ref v0] I J P Q ↔ Wp S N d MX7_shiftCredit 74 [x0, x1, some (.int w), x3, x4] [.int w, .ref v0] I J P Q := wp_lod (len := 1) rfl rfl rfl rfl dX7_shiftCredit_73
theorem e_X7_shiftCredit_74 {v0 : Int32} {v1 : Nat} {w : Nat} {x0 x1 x2 x4 : Option Value} : Wp S N d MX7_shiftCredit 74 [x0, x1, x2, some (.ref w), x4] [.int v0, .ref v1] I J P Q ↔ Wp S N d MX7_shiftCredit 75 [x0, x1, x2, some (.ref w), x4] [.ref w, .int v0, .ref v1] I J P Q := wp_lod (len := 1) rfl rfl rfl rfl dX7_shiftCredit_74
theorem e_X7_shiftCredit_75 {v0 : Nat} {v1 : Int32} {v2 : Nat} {x0 x1 x2 x3 x4 : Option Value} : Wp S N d MX7_shiftCredit 75 [x0, x1, x2, x3, x4] [.ref v0, .int v1, .ref v2] I J P Q ↔ (((S v2 = 12 ∧ S v0 = 2) ∨ (S v2 = 13 ∧ S v0 = 5)) ∧ vp_in v1 (N v2)) ∧ Wp S N d MX7_shiftCredit 76 [x0, x1, x2, x3, x4] [] I J (u2 P v2 v1.toNatClampNeg (some v0)) Q := wp_ast rfl rfl dX7_shiftCredit_75
theorem e_X7_shiftCredit_76  {x0 x1 x2 x3 x4 : Option Value} : Wp S N d MX7_shiftCredit 76 [x0, x1, x2, x3, x4] [] I J P Q ↔ Q none I J P := wp_vret rfl dX7_shiftCredit_76
theorem dX7_dropCredit_0 : decode cX7_dropCredit 0 = .ok (.aload_n 0, 1) := by decide +kernel
theorem dX7_dropCredit_1 : decode cX7_dropCredit 1 = .ok (.iload_n 1, 1) := by decide +kernel
theorem dX7_dropCredit_2 : decode cX7_dropCredit 2 = .ok (.aload_n 0, 1) := by decide +kernel
theorem dX7_dropCredit_3 : decode cX7_dropCredit 3 = .ok (.getfield 47, 3) := by decide +kernel
theorem dX7_dropCredit_6 : decode cX7_dropCredit 6 = .ok (.iconst 1, 1) := by decide +kernel
theorem dX7_dropCredit_7 : decode cX7_dropCredit 7 = .ok (.isub, 1) := by decide +kernel
theorem dX7_dropCredit_8 : decode cX7_dropCredit 8 = .ok (.invokevirtual 61, 3) := by decide +kernel
theorem dX7_dropCredit_11 : decode cX7_dropCredit 11 = .ok (.aload_n 0, 1) := by decide +kernel
theorem dX7_dropCredit_12 : decode cX7_dropCredit 12 = .ok (.dup, 1) := by decide +kernel
theorem dX7_dropCredit_13 : decode cX7_dropCredit 13 = .ok (.getfield 47, 3) := by decide +kernel
theorem dX7_dropCredit_16 : decode cX7_dropCredit 16 = .ok (.iconst 1, 1) := by decide +kernel
theorem dX7_dropCredit_17 : decode cX7_dropCredit 17 = .ok (.isub, 1) := by decide +kernel
theorem dX7_dropCredit_18 : decode cX7_dropCredit 18 = .ok (.putfield 47, 3) := by decide +kernel
theorem dX7_dropCredit_21 : decode cX7_dropCredit 21 = .ok (.return_, 1) := by decide +kernel
theorem c_X7_dropCredit {a0 : Nat} {a1 : Int32} : CWp S N d MX7_dropCredit [.ref a0, .int a1] I J P Q ↔ Wp S N d MX7_dropCredit 0 [some (.ref a0), some (.int a1)] [] I J P Q := by
  rw [cwp_iff]
  exact ⟨fun h => h.2, fun h => ⟨Nat.le_of_ble_eq_true rfl, h⟩⟩
theorem e_X7_dropCredit_0 {w : Nat} {x1 : Option Value} : Wp S N d MX7_dropCredit 0 [some (.ref w), x1] [] I J P Q ↔ Wp S N d MX7_dropCredit 1 [some (.ref w), x1] [.ref w] I J P Q := wp_lod (len := 1) rfl rfl rfl rfl dX7_dropCredit_0
theorem e_X7_dropCredit_1 {v0 : Nat} {w : Int32} {x0 : Option Value} : Wp S N d MX7_dropCredit 1 [x0, some (.int w)] [.ref v0] I J P Q ↔ Wp S N d MX7_dropCredit 2 [x0, some (.int w)] [.int w, .ref v0] I J P Q := wp_lod (len := 1) rfl rfl rfl rfl dX7_dropCredit_1
theorem e_X7_dropCredit_2 {v0 : Int32} {v1 : Nat} {w : Nat} {x1 : Option Value} : Wp S N d MX7_dropCredit 2 [some (.ref w), x1] [.int v0, .ref v1] I J P Q ↔ Wp S N d MX7_dropCredit 3 [some (.ref w), x1] [.ref w, .int v0, .ref v1] I J P Q := wp_lod (len := 1) rfl rfl rfl rfl dX7_dropCredit_2
theorem e_X7_dropCredit_3 {v0 : Nat} {v1 : Int32} {v2 : Nat} {x0 x1 : Option Value} : Wp S N d MX7_dropCredit 3 [x0, x1] [.ref v0, .int v1, .ref v2] I J P Q ↔ S v0 = 7 ∧ Wp S N d MX7_dropCredit 6 [x0, x1] [.int (I v0 7), .int v1, .ref v2] I J P Q := wp_getf rfl rfl rfl rfl dX7_dropCredit_3
theorem e_X7_dropCredit_6 {v0 : Int32} {v1 : Int32} {v2 : Nat} {x0 x1 : Option Value} : Wp S N d MX7_dropCredit 6 [x0, x1] [.int v0, .int v1, .ref v2] I J P Q ↔ Wp S N d MX7_dropCredit 7 [x0, x1] [.int 1, .int v0, .int v1, .ref v2] I J P Q := wp_iconst (by decide) dX7_dropCredit_6
theorem e_X7_dropCredit_7 {v0 : Int32} {v1 : Int32} {v2 : Int32} {v3 : Nat} {x0 x1 : Option Value} : Wp S N d MX7_dropCredit 7 [x0, x1] [.int v0, .int v1, .int v2, .ref v3] I J P Q ↔ Wp S N d MX7_dropCredit 8 [x0, x1] [.int (v1 - v0), .int v2, .ref v3] I J P Q := wp_alu (len := 1) rfl rfl rfl dX7_dropCredit_7
theorem e_X7_dropCredit_8 {v0 : Int32} {v1 : Int32} {v2 : Nat} {x0 x1 : Option Value} : Wp S N (d + 1) MX7_dropCredit 8 [x0, x1] [.int v0, .int v1, .ref v2] I J P Q ↔ S v2 = 7 ∧ CWp S N d MX7_shiftCredit [.ref v2, .int v1, .int v0] I J P (fun r I1 J1 P1 => Wp S N (d + 1) MX7_dropCredit 11 [x0, x1] (r.toList ++ []) I1 J1 P1 Q) := wp_callV (M' := MX7_shiftCredit) (As := [.int v1, .int v0]) rfl rfl rfl rfl (by decide) (Nat.le_of_ble_eq_true rfl) dX7_dropCredit_8
theorem e_X7_dropCredit_11 {w : Nat} {x1 : Option Value} : Wp S N d MX7_dropCredit 11 [some (.ref w), x1] [] I J P Q ↔ Wp S N d MX7_dropCredit 12 [some (.ref w), x1] [.ref w] I J P Q := wp_lod (len := 1) rfl rfl rfl rfl dX7_dropCredit_11
theorem e_X7_dropCredit_12 {v0 : Nat} {x0 x1 : Option Value} : Wp S N d MX7_dropCredit 12 [x0, x1] [.ref v0] I J P Q ↔ Wp S N d MX7_dropCredit 13 [x0, x1] [.ref v0, .ref v0] I J P Q := wp_alu (len := 1) rfl rfl rfl dX7_dropCredit_12
theorem e_X7_dropCredit_13 {v0 : Nat} {v1 : Nat} {x0 x1 : Option Value} : Wp S N d MX7_dropCredit 13 [x0, x1] [.ref v0, .ref v1] I J P Q ↔ S v0 = 7 ∧ Wp S N d MX7_dropCredit 16 [x0, x1] [.int (I v0 7), .ref v1] I J P Q := wp_getf rfl rfl rfl rfl dX7_dropCredit_13
theorem e_X7_dropCredit_16 {v0 : Int32} {v1 : Nat} {x0 x1 : Option Value} : Wp S N d MX7_dropCredit 16 [x0, x1] [.int v0, .ref v1] I J P Q ↔ Wp S N d MX7_dropCredit 17 [x0, x1] [.int 1, .int v0, .ref v1] I J P Q := wp_iconst (by decide) dX7_dropCredit_16
theorem e_X7_dropCredit_17 {v0 : Int32} {v1 : Int32} {v2 : Nat} {x0 x1 : Option Value} : Wp S N d MX7_dropCredit 17 [x0, x1] [.int v0, .int v1, .ref v2] I J P Q ↔ Wp S N d MX7_dropCredit 18 [x0, x1] [.int (v1 - v0), .ref v2] I J P Q := wp_alu (len := 1) rfl rfl rfl dX7_dropCredit_17
theorem e_X7_dropCredit_18 {v0 : Int32} {v1 : Nat} {x0 x1 : Option Value} : Wp S N d MX7_dropCredit 18 [x0, x1] [.int v0, .ref v1] I J P Q ↔ S v1 = 7 ∧ Wp S N d MX7_dropCredit 21 [x0, x1] [] (u2 I v1 7 v0) J P Q := wp_putI rfl rfl rfl rfl dX7_dropCredit_18
theorem e_X7_dropCredit_21  {x0 x1 : Option Value} : Wp S N d MX7_dropCredit 21 [x0, x1] [] I J P Q ↔ Q none I J P := wp_vret rfl dX7_dropCredit_21
theorem dX7_carryOn_0 : decode cX7_carryOn 0 = .ok (.iconst 0, 1) := by decide +kernel
theorem dX7_carryOn_1 : decode cX7_carryOn 1 = .ok (.istore_n 3, 1) := by decide +kernel
theorem dX7_carryOn_2 : decode cX7_carryOn 2 = .ok (.iload_n 3, 1) := by decide +kernel
theorem dX7_carryOn_3 : decode cX7_carryOn 3 = .ok (.aload_n 0, 1) := by decide +kernel
theorem dX7_carryOn_4 : decode cX7_carryOn 4 = .ok (.getfield 47, 3) := by decide +kernel
theorem dX7_carryOn_7 : decode cX7_carryOn 7 = .ok (.if_icmp .ge 28, 3) := by decide +kernel
theorem dX7_carryOn_10 : decode cX7_carryOn 10 = .ok (.aload_n 0, 1) := by decide +kernel
theorem dX7_carryOn_11 : decode cX7_carryOn 11 = .ok (.getfield 33, 3) := by decide +kernel
theorem dX7_carryOn_14 : decode cX7_carryOn 14 = .ok (.iload_n 3, 1) := by decide +kernel
theorem dX7_carryOn_15 : decode cX7_carryOn 15 = .ok (.aaload, 1) := by decide +kernel
theorem dX7_carryOn_16 : decode cX7_carryOn 16 = .ok (.getfield 57, 3) := by decide +kernel
theorem dX7_carryOn_19 : decode cX7_carryOn 19 = .ok (.iload_n 1, 1) := by decide +kernel
theorem dX7_carryOn_20 : decode cX7_carryOn 20 = .ok (.aload_n 2, 1) := by decide +kernel
theorem dX7_carryOn_21 : decode cX7_carryOn 21 = .ok (.getfield 65, 3) := by decide +kernel
theorem dX7_carryOn_24 : decode cX7_carryOn 24 = .ok (.iload_n 3, 1) := by decide +kernel
theorem dX7_carryOn_25 : decode cX7_carryOn 25 = .ok (.aaload, 1) := by decide +kernel
theorem dX7_carryOn_26 : decode cX7_carryOn 26 = .ok (.iconst 3, 1) := by decide +kernel
theorem dX7_carryOn_27 : decode cX7_carryOn 27 = .ok (.laload, 1) := by decide +kernel
theorem dX7_carryOn_28 : decode cX7_carryOn 28 = .ok (.lastore, 1) := by decide +kernel
theorem dX7_carryOn_29 : decode cX7_carryOn 29 = .ok (.iinc 3 1, 3) := by decide +kernel
theorem dX7_carryOn_32 : decode cX7_carryOn 32 = .ok (.goto (-30), 3) := by decide +kernel
theorem dX7_carryOn_35 : decode cX7_carryOn 35 = .ok (.return_, 1) := by decide +kernel
theorem c_X7_carryOn {a0 : Nat} {a1 : Int32} {a2 : Nat} : CWp S N d MX7_carryOn [.ref a0, .int a1, .ref a2] I J P Q ↔ Wp S N d MX7_carryOn 0 [some (.ref a0), some (.int a1), some (.ref a2), none] [] I J P Q := by
  rw [cwp_iff]
  exact ⟨fun h => h.2, fun h => ⟨Nat.le_of_ble_eq_true rfl, h⟩⟩
theorem e_X7_carryOn_0  {x0 x1 x2 x3 : Option Value} : Wp S N d MX7_carryOn 0 [x0, x1, x2, x3] [] I J P Q ↔ Wp S N d MX7_carryOn 1 [x0, x1, x2, x3] [.int 0] I J P Q := wp_iconst (by decide) dX7_carryOn_0
theorem e_X7_carryOn_1 {v0 : Int32} {x0 x1 x2 x3 : Option Value} : Wp S N d MX7_carryOn 1 [x0, x1, x2, x3] [.int v0] I J P Q ↔ Wp S N d MX7_carryOn 2 [x0, x1, kl x2, some (.int v0)] [] I J P Q := wp_sto (len := 1) rfl rfl rfl rfl (Nat.le_of_ble_eq_true rfl) rfl dX7_carryOn_1
theorem e_X7_carryOn_2 {w : Int32} {x0 x1 x2 : Option Value} : Wp S N d MX7_carryOn 2 [x0, x1, x2, some (.int w)] [] I J P Q ↔ Wp S N d MX7_carryOn 3 [x0, x1, x2, some (.int w)] [.int w] I J P Q := wp_lod (len := 1) rfl rfl rfl rfl dX7_carryOn_2
theorem e_X7_carryOn_3 {v0 : Int32} {w : Nat} {x1 x2 x3 : Option Value} : Wp S N d MX7_carryOn 3 [some (.ref w), x1, x2, x3] [.int v0] I J P Q ↔ Wp S N d MX7_carryOn 4 [some (.ref w), x1, x2, x3] [.ref w, .int v0] I J P Q := wp_lod (len := 1) rfl rfl rfl rfl dX7_carryOn_3
theorem e_X7_carryOn_4 {v0 : Nat} {v1 : Int32} {x0 x1 x2 x3 : Option Value} : Wp S N d MX7_carryOn 4 [x0, x1, x2, x3] [.ref v0, .int v1] I J P Q ↔ S v0 = 7 ∧ Wp S N d MX7_carryOn 7 [x0, x1, x2, x3] [.int (I v0 7), .int v1] I J P Q := wp_getf rfl rfl rfl rfl dX7_carryOn_4
theorem e_X7_carryOn_7 {v0 : Int32} {v1 : Int32} {x0 x1 x2 x3 : Option Value} : Wp S N d MX7_carryOn 7 [x0, x1, x2, x3] [.int v0, .int v1] I J P Q ↔ (v0 ≤ v1 → Wp S N d MX7_carryOn 35 [x0, x1, x2, x3] [] I J P Q) ∧ (¬ v0 ≤ v1 → Wp S N d MX7_carryOn 10 [x0, x1, x2, x3] [] I J P Q) := wp_br rfl rfl (by decide) dX7_carryOn_7
theorem e_X7_carryOn_10 {w : Nat} {x1 x2 x3 : Option Value} : Wp S N d MX7_carryOn 10 [some (.ref w), x1, x2, x3] [] I J P Q ↔ Wp S N d MX7_carryOn 11 [some (.ref w), x1, x2, x3] [.ref w] I J P Q := wp_lod (len := 1) rfl rfl rfl rfl dX7_carryOn_10
theorem e_X7_carryOn_11 {v0 : Nat} {x0 x1 x2 x3 : Option Value} : Wp S N d MX7_carryOn 11 [x0, x1, x2, x3] [.ref v0] I J P Q ↔ S v0 = 7 ∧ Wp S N d MX7_carryOn 14 [x0, x1, x2, x3] [va_rf (P v0 8)] I J P Q := wp_getf rfl rfl rfl rfl dX7_carryOn_11
theorem e_X7_carryOn_14 {v0 : Nat} {w : Int32} {x0 x1 x2 : Option Value} : Wp S N d MX7_carryOn 14 [x0, x1, x2, some (.int w)] [.ref v0] I J P Q ↔ Wp S N d MX7_carryOn 15 [x0, x1, x2, some (.int w)] [.int w, .ref v0] I J P Q := wp_lod (len := 1) rfl rfl rfl rfl dX7_carryOn_14
theorem e_X7_carryOn_15 {v0 : Int32} {v1 : Nat} {x0 x1 x2 x3 : Option Value} : Wp S N d MX7_carryOn 15 [x0, x1, x2, x3] [.int v0, .ref v1] I J P Q ↔ ((S v1 = 12 ∨ S v1 = 13 ∨ S v1 = 14) ∧ vp_in v0 (N v1)) ∧ Wp S N d MX7_carryOn 16 [x0, x1, x2, x3] [va_rf (P v1 v0.toNatClampNeg)] I J P Q := wp_ald rfl rfl dX7_carryOn_15
theorem e_X7_carryOn_16 {v0 : Nat} {x0 x1 x2 x3 : Option Value} : Wp S N d MX7_carryOn 16 [x0, x1, x2, x3] [.ref v0] I J P Q ↔ S v0 = 2 ∧ Wp S N d MX7_carryOn 19 [x0, x1, x2, x3] [va_rf (P v0 1)] I J P Q := wp_getf rfl rfl rfl rfl dX7_carryOn_16
theorem e_X7_carryOn_19 {v0 : Nat} {w : Int32} {x0 x2 x3 : Option Value} : Wp S N d MX7_carryOn 19 [x0, some (.int w), x2, x3] [.ref v0] I J P Q ↔ Wp S N d MX7_carryOn 20 [x0, some (.int w), x2, x3] [.int w, .ref v0] I J P Q := wp_lod (len := 1) rfl rfl rfl rfl dX7_carryOn_19
theorem e_X7_carryOn_20 {v0 : Int32} {v1 : Nat} {w : Nat} {x0 x1 x3 : Option Value} : Wp S N d MX7_carryOn 20 [x0, x1, some (.ref w), x3] [.int v0, .ref v1] I J P Q ↔ Wp S N d MX7_carryOn 21 [x0, x1, some (.ref w), x3] [.ref w, .int v0, .ref v1] I J P Q := wp_lod (len := 1) rfl rfl rfl rfl dX7_carryOn_20
theorem e_X7_carryOn_21 {v0 : Nat} {v1 : Int32} {v2 : Nat} {x0 x1 x2 x3 : Option Value} : Wp S N d MX7_carryOn 21 [x0, x1, x2, x3] [.ref v0, .int v1, .ref v2] I J P Q ↔ S v0 = 0 ∧ Wp S N d MX7_carryOn 24 [x0, x1, x2, x3] [va_rf (P v0 6), .int v1, .ref v2] I J P Q := wp_getf rfl rfl rfl rfl dX7_carryOn_21
theorem e_X7_carryOn_24 {v0 : Nat} {v1 : Int32} {v2 : Nat} {w : Int32} {x0 x1 x2 : Option Value} : Wp S N d MX7_carryOn 24 [x0, x1, x2, some (.int w)] [.ref v0, .int v1, .ref v2] I J P Q ↔ Wp S N d MX7_carryOn 25 [x0, x1, x2, some (.int w)] [.int w, .ref v0, .int v1, .ref v2] I J P Q := wp_lod (len := 1) rfl rfl rfl rfl dX7_carryOn_24
theorem e_X7_carryOn_25 {v0 : Int32} {v1 : Nat} {v2 : Int32} {v3 : Nat} {x0 x1 x2 x3 : Option Value} : Wp S N d MX7_carryOn 25 [x0, x1, x2, x3] [.int v0, .ref v1, .int v2, .ref v3] I J P Q ↔ ((S v1 = 12 ∨ S v1 = 13 ∨ S v1 = 14) ∧ vp_in v0 (N v1)) ∧ Wp S N d MX7_carryOn 26 [x0, x1, x2, x3] [va_rf (P v1 v0.toNatClampNeg), .int v2, .ref v3] I J P Q := wp_ald rfl rfl dX7_carryOn_25
theorem e_X7_carryOn_26 {v0 : Nat} {v1 : Int32} {v2 : Nat} {x0 x1 x2 x3 : Option Value} : Wp S N d MX7_carryOn 26 [x0, x1, x2, x3] [.ref v0, .int v1, .ref v2] I J P Q ↔ Wp S N d MX7_carryOn 27 [x0, x1, x2, x3] [.int 3, .ref v0, .int v1, .ref v2] I J P Q := wp_iconst (by decide) dX7_carryOn_26
theorem e_X7_carryOn_27 {v0 : Int32} {v1 : Nat} {v2 : Int32} {v3 : Nat} {x0 x1 x2 x3 : Option Value} : Wp S N d MX7_carryOn 27 [x0, x1, x2, x3] [.int v0, .ref v1, .int v2, .ref v3] I J P Q ↔ (S v1 = 11 ∧ vp_in v0 (N v1)) ∧ Wp S N d MX7_carryOn 28 [x0, x1, x2, x3] [.long (J v1 v0.toNatClampNeg), .int v2, .ref v3] I J P Q := wp_ald rfl rfl dX7_carryOn_27
theorem e_X7_carryOn_28 {v0 : Int64} {v1 : Int32} {v2 : Nat} {x0 x1 x2 x3 : Option Value} : Wp S N d MX7_carryOn 28 [x0, x1, x2, x3] [.long v0, .int v1, .ref v2] I J P Q ↔ (S v2 = 11 ∧ vp_in v1 (N v2)) ∧ Wp S N d MX7_carryOn 29 [x0, x1, x2, x3] [] I (u2 J v2 v1.toNatClampNeg v0) P Q := wp_ast rfl rfl dX7_carryOn_28
theorem e_X7_carryOn_29 {w : Int32} {x0 x1 x2 : Option Value} : Wp S N d MX7_carryOn 29 [x0, x1, x2, some (.int w)] [] I J P Q ↔ Wp S N d MX7_carryOn 32 [x0, x1, kl x2, some (.int (w + 1))] [] I J P Q := wp_inc rfl rfl dX7_carryOn_29
theorem e_X7_carryOn_32  {x0 x1 x2 x3 : Option Value} : Wp S N d MX7_carryOn 32 [x0, x1, x2, x3] [] I J P Q ↔ Wp S N d MX7_carryOn 2 [x0, x1, x2, x3] [] I J P Q := wp_go (len := 3) rfl (fun _ _ => rfl) rfl (by decide) dX7_carryOn_32
theorem e_X7_carryOn_35  {x0 x1 x2 x3 : Option Value} : Wp S N d MX7_carryOn 35 [x0, x1, x2, x3] [] I J P Q ↔ Q none I J P := wp_vret rfl dX7_carryOn_35
theorem dX7_carryNothing_0 : decode cX7_carryNothing 0 = .ok (.iconst 0, 1) := by decide +kernel
theorem dX7_carryNothing_1 : decode cX7_carryNothing 1 = .ok (.istore_n 2, 1) := by decide +kernel
theorem dX7_carryNothing_2 : decode cX7_carryNothing 2 = .ok (.iload_n 2, 1) := by decide +kernel
theorem dX7_carryNothing_3 : decode cX7_carryNothing 3 = .ok (.aload_n 0, 1) := by decide +kernel
theorem dX7_carryNothing_4 : decode cX7_carryNothing 4 = .ok (.getfield 47, 3) := by decide +kernel
theorem dX7_carryNothing_7 : decode cX7_carryNothing 7 = .ok (.if_icmp .ge 21, 3) := by decide +kernel
theorem dX7_carryNothing_10 : decode cX7_carryNothing 10 = .ok (.aload_n 0, 1) := by decide +kernel
theorem dX7_carryNothing_11 : decode cX7_carryNothing 11 = .ok (.getfield 33, 3) := by decide +kernel
theorem dX7_carryNothing_14 : decode cX7_carryNothing 14 = .ok (.iload_n 2, 1) := by decide +kernel
theorem dX7_carryNothing_15 : decode cX7_carryNothing 15 = .ok (.aaload, 1) := by decide +kernel
theorem dX7_carryNothing_16 : decode cX7_carryNothing 16 = .ok (.getfield 57, 3) := by decide +kernel
theorem dX7_carryNothing_19 : decode cX7_carryNothing 19 = .ok (.iload_n 1, 1) := by decide +kernel
theorem dX7_carryNothing_20 : decode cX7_carryNothing 20 = .ok (.lconst 0, 1) := by decide +kernel
theorem dX7_carryNothing_21 : decode cX7_carryNothing 21 = .ok (.lastore, 1) := by decide +kernel
theorem dX7_carryNothing_22 : decode cX7_carryNothing 22 = .ok (.iinc 2 1, 3) := by decide +kernel
theorem dX7_carryNothing_25 : decode cX7_carryNothing 25 = .ok (.goto (-23), 3) := by decide +kernel
theorem dX7_carryNothing_28 : decode cX7_carryNothing 28 = .ok (.return_, 1) := by decide +kernel
theorem c_X7_carryNothing {a0 : Nat} {a1 : Int32} : CWp S N d MX7_carryNothing [.ref a0, .int a1] I J P Q ↔ Wp S N d MX7_carryNothing 0 [some (.ref a0), some (.int a1), none] [] I J P Q := by
  rw [cwp_iff]
  exact ⟨fun h => h.2, fun h => ⟨Nat.le_of_ble_eq_true rfl, h⟩⟩
theorem e_X7_carryNothing_0  {x0 x1 x2 : Option Value} : Wp S N d MX7_carryNothing 0 [x0, x1, x2] [] I J P Q ↔ Wp S N d MX7_carryNothing 1 [x0, x1, x2] [.int 0] I J P Q := wp_iconst (by decide) dX7_carryNothing_0
theorem e_X7_carryNothing_1 {v0 : Int32} {x0 x1 x2 : Option Value} : Wp S N d MX7_carryNothing 1 [x0, x1, x2] [.int v0] I J P Q ↔ Wp S N d MX7_carryNothing 2 [x0, kl x1, some (.int v0)] [] I J P Q := wp_sto (len := 1) rfl rfl rfl rfl (Nat.le_of_ble_eq_true rfl) rfl dX7_carryNothing_1
theorem e_X7_carryNothing_2 {w : Int32} {x0 x1 : Option Value} : Wp S N d MX7_carryNothing 2 [x0, x1, some (.int w)] [] I J P Q ↔ Wp S N d MX7_carryNothing 3 [x0, x1, some (.int w)] [.int w] I J P Q := wp_lod (len := 1) rfl rfl rfl rfl dX7_carryNothing_2
theorem e_X7_carryNothing_3 {v0 : Int32} {w : Nat} {x1 x2 : Option Value} : Wp S N d MX7_carryNothing 3 [some (.ref w), x1, x2] [.int v0] I J P Q ↔ Wp S N d MX7_carryNothing 4 [some (.ref w), x1, x2] [.ref w, .int v0] I J P Q := wp_lod (len := 1) rfl rfl rfl rfl dX7_carryNothing_3
theorem e_X7_carryNothing_4 {v0 : Nat} {v1 : Int32} {x0 x1 x2 : Option Value} : Wp S N d MX7_carryNothing 4 [x0, x1, x2] [.ref v0, .int v1] I J P Q ↔ S v0 = 7 ∧ Wp S N d MX7_carryNothing 7 [x0, x1, x2] [.int (I v0 7), .int v1] I J P Q := wp_getf rfl rfl rfl rfl dX7_carryNothing_4
theorem e_X7_carryNothing_7 {v0 : Int32} {v1 : Int32} {x0 x1 x2 : Option Value} : Wp S N d MX7_carryNothing 7 [x0, x1, x2] [.int v0, .int v1] I J P Q ↔ (v0 ≤ v1 → Wp S N d MX7_carryNothing 28 [x0, x1, x2] [] I J P Q) ∧ (¬ v0 ≤ v1 → Wp S N d MX7_carryNothing 10 [x0, x1, x2] [] I J P Q) := wp_br rfl rfl (by decide) dX7_carryNothing_7
theorem e_X7_carryNothing_10 {w : Nat} {x1 x2 : Option Value} : Wp S N d MX7_carryNothing 10 [some (.ref w), x1, x2] [] I J P Q ↔ Wp S N d MX7_carryNothing 11 [some (.ref w), x1, x2] [.ref w] I J P Q := wp_lod (len := 1) rfl rfl rfl rfl dX7_carryNothing_10
theorem e_X7_carryNothing_11 {v0 : Nat} {x0 x1 x2 : Option Value} : Wp S N d MX7_carryNothing 11 [x0, x1, x2] [.ref v0] I J P Q ↔ S v0 = 7 ∧ Wp S N d MX7_carryNothing 14 [x0, x1, x2] [va_rf (P v0 8)] I J P Q := wp_getf rfl rfl rfl rfl dX7_carryNothing_11
theorem e_X7_carryNothing_14 {v0 : Nat} {w : Int32} {x0 x1 : Option Value} : Wp S N d MX7_carryNothing 14 [x0, x1, some (.int w)] [.ref v0] I J P Q ↔ Wp S N d MX7_carryNothing 15 [x0, x1, some (.int w)] [.int w, .ref v0] I J P Q := wp_lod (len := 1) rfl rfl rfl rfl dX7_carryNothing_14
theorem e_X7_carryNothing_15 {v0 : Int32} {v1 : Nat} {x0 x1 x2 : Option Value} : Wp S N d MX7_carryNothing 15 [x0, x1, x2] [.int v0, .ref v1] I J P Q ↔ ((S v1 = 12 ∨ S v1 = 13 ∨ S v1 = 14) ∧ vp_in v0 (N v1)) ∧ Wp S N d MX7_carryNothing 16 [x0, x1, x2] [va_rf (P v1 v0.toNatClampNeg)] I J P Q := wp_ald rfl rfl dX7_carryNothing_15
theorem e_X7_carryNothing_16 {v0 : Nat} {x0 x1 x2 : Option Value} : Wp S N d MX7_carryNothing 16 [x0, x1, x2] [.ref v0] I J P Q ↔ S v0 = 2 ∧ Wp S N d MX7_carryNothing 19 [x0, x1, x2] [va_rf (P v0 1)] I J P Q := wp_getf rfl rfl rfl rfl dX7_carryNothing_16
theorem e_X7_carryNothing_19 {v0 : Nat} {w : Int32} {x0 x2 : Option Value} : Wp S N d MX7_carryNothing 19 [x0, some (.int w), x2] [.ref v0] I J P Q ↔ Wp S N d MX7_carryNothing 20 [x0, some (.int w), x2] [.int w, .ref v0] I J P Q := wp_lod (len := 1) rfl rfl rfl rfl dX7_carryNothing_19
theorem e_X7_carryNothing_20 {v0 : Int32} {v1 : Nat} {x0 x1 x2 : Option Value} : Wp S N d MX7_carryNothing 20 [x0, x1, x2] [.int v0, .ref v1] I J P Q ↔ Wp S N d MX7_carryNothing 21 [x0, x1, x2] [.long 0, .int v0, .ref v1] I J P Q := wp_lconst (by decide) dX7_carryNothing_20
theorem e_X7_carryNothing_21 {v0 : Int64} {v1 : Int32} {v2 : Nat} {x0 x1 x2 : Option Value} : Wp S N d MX7_carryNothing 21 [x0, x1, x2] [.long v0, .int v1, .ref v2] I J P Q ↔ (S v2 = 11 ∧ vp_in v1 (N v2)) ∧ Wp S N d MX7_carryNothing 22 [x0, x1, x2] [] I (u2 J v2 v1.toNatClampNeg v0) P Q := wp_ast rfl rfl dX7_carryNothing_21
theorem e_X7_carryNothing_22 {w : Int32} {x0 x1 : Option Value} : Wp S N d MX7_carryNothing 22 [x0, x1, some (.int w)] [] I J P Q ↔ Wp S N d MX7_carryNothing 25 [x0, kl x1, some (.int (w + 1))] [] I J P Q := wp_inc rfl rfl dX7_carryNothing_22
theorem e_X7_carryNothing_25  {x0 x1 x2 : Option Value} : Wp S N d MX7_carryNothing 25 [x0, x1, x2] [] I J P Q ↔ Wp S N d MX7_carryNothing 2 [x0, x1, x2] [] I J P Q := wp_go (len := 3) rfl (fun _ _ => rfl) rfl (by decide) dX7_carryNothing_25
theorem e_X7_carryNothing_28  {x0 x1 x2 : Option Value} : Wp S N d MX7_carryNothing 28 [x0, x1, x2] [] I J P Q ↔ Q none I J P := wp_vret rfl dX7_carryNothing_28
end ER

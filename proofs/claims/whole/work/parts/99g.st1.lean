/-! what the start gives: the classes, the arrays, the texts -/
theorem st_ins : ∀ k, k < 10 → Cond.instantiable (tx_R k) (tx_n k) ∈ lw_tbl := tx_10 (List.mem_append_right _ (List.mem_of_getElem? (i := 203) (by decide +kernel))) (List.mem_append_right _ (List.mem_of_getElem? (i := 242) (by decide +kernel))) (List.mem_append_right _ (List.mem_of_getElem? (i := 76) (by decide +kernel))) (List.mem_append_right _ (List.mem_of_getElem? (i := 275) (by decide +kernel))) (List.mem_append_right _ (List.mem_of_getElem? (i := 183) (by decide +kernel))) (List.mem_append_right _ (List.mem_of_getElem? (i := 143) (by decide +kernel))) (List.mem_append_right _ (List.mem_of_getElem? (i := 32) (by decide +kernel))) (List.mem_append_right _ (List.mem_of_getElem? (i := 69) (by decide +kernel))) (List.mem_append_right _ (List.mem_of_getElem? (i := 24) (by decide +kernel))) (List.mem_append_right _ (List.mem_of_getElem? (i := 990) (by decide +kernel)))
theorem st_in0 : Cond.instantiable RJ0 4 ∈ lw_tbl := List.mem_append_right _ (List.mem_of_getElem? (i := 664) (by decide +kernel))
theorem st_in1 : Cond.instantiable RJx00060 6 ∈ lw_tbl := List.mem_append_right _ (List.mem_of_getElem? (i := 646) (by decide +kernel))
theorem st_lay0 : ∀ w ∈ u_ws RJ0 TJ0 2, w ∈ lw_tbl := by decide +kernel
theorem st_lay1 : ∀ w ∈ u_ws RJx00060 TJx00060 6, w ∈ lw_tbl := by decide +kernel
section STA
variable {s : State} {b : Addr}
theorem st_cls (hts : ∀ w ∈ lw_tbl, w.before #[Value.ref b] s = true) : ∃ D : va_G, ∀ (c : Nat) (q : vw_C), vwCl[c]? = some q → u_Kn s q.1 q.2.1 q.2.2 (D.1 c) (D.2 c) := by
  have key : ∀ c : Nat, ∃ d : ClassId × (Nat → Nat), ∀ q, vwCl[c]? = some q → u_Kn s q.1 q.2.1 q.2.2 d.1 d.2 := by
    intro c
    obtain ⟨c0, i0, h0⟩ := u_known (C := RJ0) (T := TJ0) (N := 2) (n := 4) hts st_lay0 (hts _ st_in0)
    obtain ⟨c1, i1, h1⟩ := u_known (C := RJx00060) (T := TJx00060) (N := 6) (n := 6) hts st_lay1 (hts _ st_in1)
    match c with
    | 0 => exact ⟨(c0, i0), fun q hq => by obtain rfl : (RJ0, TJ0, 2) = q := Option.some.inj hq; exact h0⟩
    | 1 => exact ⟨(c1, i1), fun q hq => by obtain rfl : (RJx00060, TJx00060, 6) = q := Option.some.inj hq; exact h1⟩
    | k + 2 =>
      by_cases hk : k < 10
      · obtain ⟨c2, i2, h2⟩ := u_known (C := tx_R k) (T := tx_T k) (N := tx_n k) (n := tx_n k) hts (tx_lay k hk) (hts _ (st_ins k hk))
        exact ⟨(c2, i2), fun q hq => by
          rw [tx_cl k hk] at hq
          cases hq
          exact h2⟩
      · exact ⟨(c0, i0), fun q hq => by
          rw [List.getElem?_eq_none (by show 12 ≤ k + 2; omega)] at hq
          cases hq⟩
  exact ⟨(fun c => (Classical.choose (key c)).1, fun c => (Classical.choose (key c)).2), fun c q hq => Classical.choose_spec (key c) q hq⟩
theorem st_aI {ty : FieldType} (h : (Cond.arrayClass ty).before #[Value.ref b] s = true) : ∃ c : ClassId, ArrOfT s c ty ∧ s.vm.findClass ("[" ++ ty.toString) = some c := by
  obtain ⟨c, k, comp, h1, h2, h3⟩ := Cond.arrayClass_spec h
  exact ⟨c, fun n z => ⟨fun k h => (by cases h), k, h2, comp, h3⟩, h1⟩
theorem st_aO {C : String} (h : (Cond.arrayOver (.object C)).before #[Value.ref b] s = true) : ∃ c : ClassId, ArrOfT s c (.object C) ∧ va_RA s c (.object C) := by
  obtain ⟨comp, c, k, h1, -, h2, h3, h4⟩ := Cond.arrayOver_spec h
  exact ⟨c, fun n z => ⟨fun k h => (by cases h), k, h2, comp, h3⟩, k, comp, h2, h3, h1, h4⟩
theorem st_aA (h : (Cond.arrayOver (.array .long)).before #[Value.ref b] s = true) : ∃ c : ClassId, ArrOfT s c (.array .long) ∧ va_RA s c (.array .long) := by
  obtain ⟨comp, c, k, h1, -, h2, h3, h4⟩ := arrayOverA_spec h
  exact ⟨c, fun n z => ⟨fun k h => (by cases h), k, h2, comp, h3⟩, h4⟩
theorem st_K (hts : ∀ w ∈ lw_tbl, w.before #[Value.ref b] s = true) : ∃ (D : va_G) (G : tx_G), va_K D vwCl (tx_tys G) s := by
  obtain ⟨D, hD⟩ := st_cls hts
  obtain ⟨g1, a1, n1⟩ := st_aI (ty := .int) (hts _ cArI.1)
  obtain ⟨g2, a2, n2⟩ := st_aI (ty := .long) (hts _ cArJ.1)
  obtain ⟨g3, a3, n3⟩ := st_aO (C := RX2) (hts _ (List.mem_append_right _ (List.mem_of_getElem? (i := 75) (by decide +kernel))))
  obtain ⟨g4, a4, n4⟩ := st_aO (C := RX5) (hts _ (List.mem_append_right _ (List.mem_of_getElem? (i := 189) (by decide +kernel))))
  obtain ⟨g5, a5, n5⟩ := st_aA (hts _ (List.mem_append_right _ (List.mem_of_getElem? (i := 209) (by decide +kernel))))
  refine ⟨D, (g1, g2, g3, g4, g5), hD, fun k q hk => ?_⟩
  match k, hk with
  | 0, hk => obtain rfl : (g1, FieldType.int) = q := Option.some.inj hk; exact ⟨a1, n1⟩
  | 1, hk => obtain rfl : (g2, FieldType.long) = q := Option.some.inj hk; exact ⟨a2, n2⟩
  | 2, hk => obtain rfl : (g3, FieldType.object RX2) = q := Option.some.inj hk; exact ⟨a3, n3⟩
  | 3, hk => obtain rfl : (g4, FieldType.object RX5) = q := Option.some.inj hk; exact ⟨a4, n4⟩
  | 4, hk => obtain rfl : (g5, FieldType.array .long) = q := Option.some.inj hk; exact ⟨a5, n5⟩
  | k + 5, hk => rw [List.getElem?_eq_none (by show 5 ≤ k + 5; omega)] at hk; cases hk
theorem st_AO (hts : ∀ w ∈ lw_tbl, w.before #[Value.ref b] s = true) : AO s := ⟨ao_mv (Vm.Alike.refl s.vm) (hts _ (List.mem_append_right _ (List.mem_of_getElem? (i := 75) (by decide +kernel)))), ao_mv (Vm.Alike.refl s.vm) (hts _ (List.mem_append_right _ (List.mem_of_getElem? (i := 189) (by decide +kernel)))), ao_mv (Vm.Alike.refl s.vm) (hts _ (List.mem_append_right _ (List.mem_of_getElem? (i := 209) (by decide +kernel))))⟩
theorem st_str (hts : ∀ w ∈ lw_tbl, w.before #[Value.ref b] s = true) (k : Nat) (t : String) (h : Cond.stringRef RX8 k t ∈ lw_tbl) : ∃ sa, vk_R RX8 k t sa s := by
  have h1 := hts _ h
  have h2 : ∃ cur, s.vm.findClass RX8 = some cur := by
    obtain ⟨c2, i2, -, h2, -⟩ := u_known (C := RX8) (T := TX8) (N := 9) (n := 9) hts (tx_lay 8 (by decide)) (hts _ (st_ins 8 (by decide)))
    exact ⟨_, h2⟩
  obtain ⟨cur, h2⟩ := h2
  obtain ⟨-, -, -, sa, -, -, -, -, -, hev⟩ := Cond.stringRef_spec h2 h1
  exact ⟨sa, vk_R.of h1 hev⟩
theorem st_exS : ∀ q ∈ exS, Cond.stringRef RX8 q.1 q.2 ∈ lw_tbl := List.forall_mem_cons.mpr ⟨List.mem_append_right _ (List.mem_of_getElem? (i := 525) (by decide +kernel)), List.forall_mem_cons.mpr ⟨List.mem_append_right _ (List.mem_of_getElem? (i := 561) (by decide +kernel)), List.forall_mem_cons.mpr ⟨List.mem_append_right _ (List.mem_of_getElem? (i := 640) (by decide +kernel)), List.forall_mem_cons.mpr ⟨List.mem_append_right _ (List.mem_of_getElem? (i := 641) (by decide +kernel)), List.forall_mem_cons.mpr ⟨List.mem_append_right _ (List.mem_of_getElem? (i := 686) (by decide +kernel)), List.forall_mem_cons.mpr ⟨List.mem_append_right _ (List.mem_of_getElem? (i := 755) (by decide +kernel)), List.forall_mem_cons.mpr ⟨List.mem_append_right _ (List.mem_of_getElem? (i := 756) (by decide +kernel)), List.forall_mem_cons.mpr ⟨List.mem_append_right _ (List.mem_of_getElem? (i := 778) (by decide +kernel)), List.forall_mem_cons.mpr ⟨List.mem_append_right _ (List.mem_of_getElem? (i := 908) (by decide +kernel)), List.forall_mem_cons.mpr ⟨List.mem_append_right _ (List.mem_of_getElem? (i := 932) (by decide +kernel)), List.forall_mem_cons.mpr ⟨List.mem_append_right _ (List.mem_of_getElem? (i := 967) (by decide +kernel)), List.forall_mem_cons.mpr ⟨List.mem_append_right _ (List.mem_of_getElem? (i := 976) (by decide +kernel)), List.forall_mem_cons.mpr ⟨List.mem_append_right _ (List.mem_of_getElem? (i := 988) (by decide +kernel)), fun _ h => absurd h List.not_mem_nil⟩⟩⟩⟩⟩⟩⟩⟩⟩⟩⟩⟩⟩
theorem st_exN : ∀ q ∈ exN, Cond.not (.castable (exC q.1) (exC q.2)) ∈ flatC (Cond.and given_1 narrow_1) := by decide +kernel
theorem st_exW : ∀ w ∈ exW, w ∈ lw_tbl := List.forall_mem_cons.mpr ⟨List.mem_append_right _ (List.mem_of_getElem? (i := 679) (by decide +kernel)), List.forall_mem_cons.mpr ⟨List.mem_append_right _ (List.mem_of_getElem? (i := 483) (by decide +kernel)), List.forall_mem_cons.mpr ⟨List.mem_append_right _ (List.mem_of_getElem? (i := 554) (by decide +kernel)), List.forall_mem_cons.mpr ⟨List.mem_append_right _ (List.mem_of_getElem? (i := 771) (by decide +kernel)), List.forall_mem_cons.mpr ⟨List.mem_append_right _ (List.mem_of_getElem? (i := 959) (by decide +kernel)), List.forall_mem_cons.mpr ⟨List.mem_append_right _ (List.mem_of_getElem? (i := 485) (by decide +kernel)), List.forall_mem_cons.mpr ⟨List.mem_append_right _ (List.mem_of_getElem? (i := 487) (by decide +kernel)), List.forall_mem_cons.mpr ⟨List.mem_append_right _ (List.mem_of_getElem? (i := 489) (by decide +kernel)), fun _ h => absurd h List.not_mem_nil⟩⟩⟩⟩⟩⟩⟩⟩
theorem st_z1 : Cond.isRef (.static Bundle.tN "UNASSIGNED_STACK" Bundle.steD) ∈ flatC (Cond.and given_1 narrow_1) := by decide +kernel
theorem st_z2 : Cond.isRef (.static Bundle.tN "SUPPRESSED_SENTINEL" Bundle.listD) ∈ flatC (Cond.and given_1 narrow_1) := by decide +kernel
theorem st_TX {E : tx_En} (hts : ∀ w ∈ lw_tbl, w.before #[Value.ref b] s = true) (hgv : (Cond.and given_1 narrow_1).before #[Value.ref b] s = true) (hA : ∀ a : Nat, a < s.heap.size → ¬ a ∈ E.2.2.2.2) : TX E s :=
  ⟨vx_Zqof (hts _ (List.mem_append_right _ (List.mem_of_getElem? (i := 508) (by decide +kernel)))) (hts _ (List.mem_append_right _ (List.mem_of_getElem? (i := 11) (by decide +kernel)))) (flat_of_before _ hgv _ st_z1) hA, vx_Zqof (hts _ (List.mem_append_right _ (List.mem_of_getElem? (i := 510) (by decide +kernel)))) (hts _ (List.mem_append_right _ (List.mem_of_getElem? (i := 11) (by decide +kernel)))) (flat_of_before _ hgv _ st_z2) hA, fun q hq => st_str hts q.1 q.2 (st_exS q hq), fun q hq => va_Nc.of (flat_of_before _ hgv _ (st_exN q hq)), fun w hw => va_tabs (exW_k w hw).1 rfl (hts w (st_exW w hw))⟩
end STA

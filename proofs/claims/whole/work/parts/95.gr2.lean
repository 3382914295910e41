/-! a world that grows: objects, their constructors' first call, references put into fields -/
theorem gr_dflt : ∀ k, k < 10 → ∀ j, j < tx_n k → defaultValue (tx_ty k j) = vp_V (tx_fs (fun _ => 0) (fun _ => 0) (fun _ => none) (tx_fk k) 0) j := tx_10 (by decide +kernel) (by decide +kernel) (by decide +kernel) (by decide +kernel) (by decide +kernel) (by decide +kernel) (by decide +kernel) (by decide +kernel) (by decide +kernel) (by decide +kernel)
section GRO
variable {p : Program} {l : Launch} {e : Env} {R : Room} {s : State} {m : MethodId} {args : Array Value} {below : List Frame} {meth : Method} {c : Code} {Q : State → Prop}
variable {E : tx_En} {A : Nat → Prop} {H0 H : Heap} {locs : List Loc} {cells slots : Nat} {cc : ByteArray} {nL o pc a n : Nat} {st : List Value} {ls : Array Slot} {ll : List (Option Value)} {I I' : IM} {J J' : JM} {P P' : PM}
/-- new, of the class k -/
theorem gr_newO {k index : Nat} (C : Cx (Es E a n) o cc nL p s m args meth c) (hk : k < 10) (hH : H.size = a + n) (hS : E.2.2.1 (a + n) = k) (hI : I (a + n) = fun _ => 0) (hJ : J (a + n) = fun _ => 0) (hP0 : P (a + n) = fun _ => none) (hlink : tbG (.classLink (tx_R o) index (tx_R k))) (hinst : tbG (.instantiable (tx_R k) (tx_n k))) (hini : tbG (.initialized (tx_R k))) (hA : ∀ q, H0.size ≤ q → A q) (hR : cells + 1 ≤ R.cells ∧ slots + tx_n k ≤ R.slots) (hd : decode cc pc = .ok (.new index, 3)) (hW : Wd (Es E a n) A H0 I J P H locs)
    (kk : ∀ H1, H1.size = a + (n + 1) → (∀ q : Nat, q < H.size → H1[q]? = H[q]?) → Wd (Es E a (n + 1)) A H0 I J P H1 locs → W p l e R s m args below meth c H1 locs (cells + 1) (slots + tx_n k) Q (F0 m (pc + 3) ls (.ref (a + n) :: st))) : W p l e R s m args below meth c H locs cells slots Q (F0 m pc ls st) := by
  obtain ⟨hx, hbb, -, hown, hts, -, hK, hE⟩ := id C
  have hKn := hK.1 (k + 2) _ (tx_cl k hk)
  refine W.newcK hx hbb hown (hts _ (tz_mem hlink)) (hts _ (tz_mem hinst)) (hts _ (tz_mem hini)) rfl hd hR.1 hR.2 hKn.2.1 hH (fun H1 kC hkC e1 z1 o1 => ?_)
  refine kk H1 (by omega) (fun q hq => o1 q (by omega)) (gr_wd hH hA hW ?_ (by omega) (fun q hq => o1 q (by omega)))
  have e9 : tx_cell E.2.1 E.2.2.1 E.2.2.2.1 I J P (a + n) = .inr (k + 2, tx_fs (fun _ => 0) (fun _ => 0) (fun _ => none) (tx_fk k) 0) := by
    unfold tx_cell tx_E
    rw [hS, hI, hJ, hP0, if_pos hk]
  rw [e9]
  exact ⟨_, tx_cl k hk, (u_born (tx_ty k) hts (tx_layz k hk) hKn hkC e1 (tx_tyok k hk)).to (gr_dflt k hk)⟩
/-- a constructor's first call: Object's -/
theorem gr_obj {idx b : Nat} (C : Cx E o cc nL p s m args meth c) (hL : Lv ls nL ll) (hlink : tbG (.methodLink (tx_R o) idx Lib.objectInit)) (hinst : tbG (.instanceMethod Lib.objectInit)) (hcode : tbG (.code Lib.objectInit ⟨#[0xb1]⟩ 1 none)) (hst : (st.map fun v => v.category).sum ≤ 8) (hR : 1 ≤ R.frames ∧ 20 ≤ R.locals) (hd : decode cc pc = .ok (.invokespecial idx, 3)) (kk : W p l e R s m args below meth c H locs cells slots Q (F0 m (pc + 3) ls st)) : W p l e R s m args below meth c H locs cells slots Q (F0 m pc ls (.ref b :: st)) := by
  obtain ⟨hx, hbb, hml, hown, hts, -, hK, hE⟩ := id C
  refine W.objInit hx hbb hown (hts _ (tz_mem hlink)) (hts _ (tz_mem hinst)) (hts _ (tz_mem hcode)) rfl (by rw [hml]; exact hL.2.1) rfl hd hR.1 (Nat.le_trans (Nat.add_le_add_right (lv_room hst) 12) hR.2) kk
/-- a reference into a field of an object under construction -/
theorem gr_putR {n' k j a' b : Nat} (C : Cx E o cc nL p s m args meth c) (hin : meth.name = "<init>") (hd : decode cc pc = .ok (.putfield n', 3)) (hf : fres o n' = some (k, j)) (hS : E.2.2.1 a' = k) (hdecl : (tx_T k j).1 = tx_R o) (ht : (tx_fk k)[j]? = some 2) (hn : narrow (tx_ty k j) (.ref b) = .ref b) (hfit : fits (tx_ty k j) (.ref b) = true) (hW : Wd E A H0 I J P H locs) (kk : ∀ H1 locs1, Wd E A H0 I J (u2 P a' j (some b)) H1 locs1 → W p l e R s m args below meth c H1 locs1 cells slots Q (F0 m (pc + 3) ls st)) : W p l e R s m args below meth c H locs cells slots Q (F0 m pc ls (.ref b :: .ref a' :: st)) := by
  obtain ⟨hx, hb, -, hown, hts, -, hK, hE⟩ := C
  obtain ⟨h1, h2, h3⟩ := ft_ok o _ (tb_res hf)
  dsimp only at h1 h2 h3
  have h15 : E.2.2.1 a' < 15 := by omega
  obtain ⟨q0, hq0⟩ := tx_at (I := I) (J := J) (P := P) hE h15
  have hq1 := hq0
  rw [tx_cell_o hS h1] at hq0
  obtain ⟨hP, hD, hSS⟩ := hW
  have hset := tx_fs_put (I a') (I a') (J a') (J a') (P a') (u2 P a' j (some b) a') (.ref b) (tx_fk k) 0 j 2 ht (by simp [tx_v, u2, va_rf]) (fun m hm => ⟨rfl, rfl, by simp [u2, show m ≠ j by omega]⟩)
  have hob : ∀ z, z ≠ a' → I z = I z ∧ J z = J z ∧ P z = (u2 P a' j (some b)) z := fun z hz => ⟨rfl, rfl, (u2_off P j _ hz).symm⟩
  by_cases hfin : (tx_T k j).2.2.2 = true
  · refine va_putF (D := E.1) hx hb hts (tx_layz k h1) (tx_ty k) (tx_tyok k h1) (tx_nmok k h1) hown hK hP hD hSS q0 hq0 (tx_cl k h1) j h2 (hts _ (tz_mem h3)) (fun _ z => z) hfin hin hdecl (tx_tyok k h1 j h2) hn hfit (by rw [tx_fs_len, tx_len k h1]; exact h2) hd (fun H1 locs1 g1 g2 g3 => ?_)
    rw [hset, tx_set (I' := I) (J' := J) (P' := u2 P a' j (some b)) hE hD h15 hq1 _ (tx_cell_o hS h1) hob] at g1 g2
    exact kk H1 locs1 ⟨g1, g2, g3⟩
  · refine va_put (D := E.1) hx hb hts (tx_layz k h1) (tx_ty k) (tx_tyok k h1) (tx_nmok k h1) hown hK hP hD hSS q0 hq0 (tx_cl k h1) j h2 (hts _ (tz_mem h3)) (fun _ z => z) (Bool.not_eq_true _ ▸ hfin) (tx_tyok k h1 j h2) hn hfit (by rw [tx_fs_len, tx_len k h1]; exact h2) hd (fun H1 locs1 g1 g2 g3 => ?_)
    rw [hset, tx_set (I' := I) (J' := J) (P' := u2 P a' j (some b)) hE hD h15 hq1 _ (tx_cell_o hS h1) hob] at g1 g2
    exact kk H1 locs1 ⟨g1, g2, g3⟩
/-- the heap's size is known by the count of what was made -/
theorem gr_size {g : JFrame} (k : H.size ≤ s.heap.size + cells → W p l e R s m args below meth c H locs cells slots Q g) : W p l e R s m args below meth c H locs cells slots Q g := fun T hT X => k (by rw [← hT]; exact X.heapSize) T hT X
theorem gr_low (h1 : 1 ≤ n) (hW : Wd (Es E a n) A H0 I J P H locs) : a + n ≤ H.size := by
  have h2 : a + (n - 1) < H.size := va_pl_lt (X := []) hW.1 (show a + (n - 1) ∈ List.range' a n from List.mem_range'_1.mpr ⟨by omega, by omega⟩)
  omega
end GRO

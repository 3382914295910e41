/-! the machine's steps -/
def tx_alu (cst : Nat → Option Int64) : Instr → List Value → Option (List Value)
  | .iconst n, st => some (.int (Int32.ofInt n) :: st)
  | .bipush n, st => some (.int (Int8.ofInt n).toInt32 :: st)
  | .sipush n, st => some (.int (Int16.ofInt n).toInt32 :: st)
  | .lconst n, st => some (.long (Int64.ofNat (n : Nat)) :: st)
  | .ldc2_w k, st => (cst k).map (fun v => .long v :: st)
  | .iadd, .int y :: .int x :: st => some (.int (x + y) :: st)
  | .isub, .int y :: .int x :: st => some (.int (x - y) :: st)
  | .imul, .int y :: .int x :: st => some (.int (x * y) :: st)
  | .iand, .int y :: .int x :: st => some (.int (x &&& y) :: st)
  | .ishr, .int y :: .int x :: st => some (.int (x >>> (y &&& 31)) :: st)
  | .irem, .int y :: .int x :: st => if y = 0 then none else some (.int (x - x / y * y) :: st)
  | .idiv, .int y :: .int x :: st => if y = 0 then none else some (.int (x / y) :: st)
  | .ladd, .long y :: .long x :: st => some (.long (x + y) :: st)
  | .lsub, .long y :: .long x :: st => some (.long (x - y) :: st)
  | .lmul, .long y :: .long x :: st => some (.long (x * y) :: st)
  | .ldiv, .long y :: .long x :: st => if y = 0 then none else some (.long (x / y) :: st)
  | .i2l, .int x :: st => some (.long x.toInt64 :: st)
  | .lcmp, .long y :: .long x :: st => some (.int (lg_cmp x y) :: st)
  | .dup, .int x :: st => some (.int x :: .int x :: st)
  | .dup, .ref x :: st => some (.ref x :: .ref x :: st)
  | .dup2, .int y :: .ref x :: st => some (.int y :: .ref x :: .int y :: .ref x :: st)
  | .dup2, .long x :: st => some (.long x :: .long x :: st)
  | .pop, .int _ :: st => some st
  | .pop2, .long _ :: st => some st
  | _, _ => none
/-- how long an instruction of tx_alu is -/
def tx_len1 : Instr → Nat
  | .bipush _ => 2
  | .sipush _ => 3
  | .ldc2_w _ => 3
  | _ => 1
def tx_lod : Instr → Option (Nat × Nat × Nat)
  | .iload_n k => some (k, 0, 1)
  | .iload k => some (k, 0, 2)
  | .lload_n k => some (k, 1, 1)
  | .lload k => some (k, 1, 2)
  | .aload_n k => some (k, 2, 1)
  | .aload k => some (k, 2, 2)
  | _ => none
def tx_sto : Instr → Option (Nat × Nat × Nat)
  | .istore_n k => some (k, 0, 1)
  | .istore k => some (k, 0, 2)
  | .lstore_n k => some (k, 1, 1)
  | .lstore k => some (k, 1, 2)
  | .astore_n k => some (k, 2, 1)
  | .astore k => some (k, 2, 2)
  | _ => none
def tx_tc : Value → Nat
  | .int _ => 0
  | .long _ => 1
  | .ref _ => 2
  | _ => 3
def tx_br : Instr → List Value → Option (Prop × Int × List Value)
  | .ifCond .eq off, .int x :: st => some (x = 0, off, st)
  | .ifCond .ne off, .int x :: st => some (¬ x = 0, off, st)
  | .ifCond .lt off, .int x :: st => some (x < 0, off, st)
  | .ifCond .ge off, .int x :: st => some (0 ≤ x, off, st)
  | .ifCond .gt off, .int x :: st => some (0 < x, off, st)
  | .ifCond .le off, .int x :: st => some (x ≤ 0, off, st)
  | .if_icmp .eq off, .int y :: .int x :: st => some (x = y, off, st)
  | .if_icmp .ne off, .int y :: .int x :: st => some (¬ x = y, off, st)
  | .if_icmp .lt off, .int y :: .int x :: st => some (x < y, off, st)
  | .if_icmp .ge off, .int y :: .int x :: st => some (y ≤ x, off, st)
  | .if_icmp .gt off, .int y :: .int x :: st => some (y < x, off, st)
  | .if_icmp .le off, .int y :: .int x :: st => some (x ≤ y, off, st)
  | _, _ => none
/-- where a goto or a switch goes: the offset, and the stack behind it -/
def tx_go : Instr → List Value → Option (Int × List Value)
  | .goto off, st => some (off, st)
  | .tableswitch d lo hi offs, .int x :: st => if x.toInt < lo ∨ hi < x.toInt then some (d, st) else (offs[(x.toInt - lo).toNat]?).map (fun o => (o, st))
  | .lookupswitch d ps, .int x :: st => if (ps.toList.zip (ps.toList.drop 1)).all (fun (a, next) => a.1 < next.1) = true then some (Op.lookupswitch.offset ps.toList d x.toInt, st) else none
  | _, _ => none
/-- the kinds of instructions: 0 return, 1 tx_alu, 2 load, 3 store, 4 iinc, 5 branch, 6 goto and switches, 7 getfield, 8 putfield, 9 array load, 10 array store, 11 call, 12 static call -/
def tx_k : Instr → Nat
  | .ireturn | .lreturn | .areturn | .return_ => 0
  | .iload_n _ | .iload _ | .lload_n _ | .lload _ | .aload_n _ | .aload _ => 2
  | .istore_n _ | .istore _ | .lstore_n _ | .lstore _ | .astore_n _ | .astore _ => 3
  | .iinc _ _ => 4
  | .ifCond _ _ | .if_icmp _ _ => 5
  | .goto _ | .tableswitch .. | .lookupswitch .. => 6
  | .getfield _ => 7
  | .putfield _ => 8
  | .iaload | .laload | .aaload => 9
  | .iastore | .lastore | .aastore => 10
  | .invokevirtual _ => 11
  | .invokestatic _ => 12
  | _ => 1
abbrev Stt : Type := Nat × List (Option Value) × List Value × IM × JM × PM
abbrev CL : Type := MR → List Value → IM → JM → PM → Option Value → IM → JM → PM → Prop
def fres (o k : Nat) : Option (Nat × Nat) := ((ft o).find? (fun q => q.1 == k)).map (·.2)
def mres (o k : Nat) : Option MR := ((mt o).find? (fun q => q.1 == k)).map (·.2)
def cres (o k : Nat) : Option Int64 := ((ct o).find? (fun q => q.1 == k)).map (·.2)
def nres (o k : Nat) : Option Nat := ((nt o).find? (fun q => q.1 == k)).map (·.2)
/-- what a return gives -/
def tx_rt (rt : Option FieldType) : Instr → List Value → Option Value → Prop
  | .ireturn, [.int v], r => (∃ ty, rt = some ty ∧ narrow ty (.int v) = .int v) ∧ r = some (.int v)
  | .lreturn, [.long v], r => rt = some .long ∧ r = some (.long v)
  | .areturn, [.ref a], r => (∃ n, rt = some (.object n)) ∧ r = some (.ref a)
  | .return_, [], r => rt = none ∧ r = none
  | _, _, _ => False
/-- natives: kind, arguments, what it answers, the memory behind it -/
def tx_nat (S N : Nat → Nat) (I : IM) (J : JM) : Nat → List Value → Option (Prop × List Value × IM × JM)
  | 1, .int y :: .int x :: st => some (True, .int (if x < y then y else x) :: st, I, J)
  | 2, .int y :: .int x :: st => some (True, .int (if y < x then y else x) :: st, I, J)
  | 3, .long y :: .long x :: st => some (True, .long (if y < x then x else y) :: st, I, J)
  | 4, .long y :: .long x :: st => some (True, .long (if y < x then y else x) :: st, I, J)
  | 5, .int n :: .int dp :: .ref a :: .int sp :: .ref a0 :: st =>
    if S a = 10 then some (S a0 = 10 ∧ ¬ sp < 0 ∧ ¬ dp < 0 ∧ ¬ n < 0 ∧ sp.toNatClampNeg + n.toNatClampNeg ≤ N a0 ∧ dp.toNatClampNeg + n.toNatClampNeg ≤ N a, st, uA I a (va_cpy (I a0) (I a) sp.toNatClampNeg dp.toNatClampNeg n.toNatClampNeg), J)
    else some (S a = 11 ∧ S a0 = 11 ∧ ¬ sp < 0 ∧ ¬ dp < 0 ∧ ¬ n < 0 ∧ sp.toNatClampNeg + n.toNatClampNeg ≤ N a0 ∧ dp.toNatClampNeg + n.toNatClampNeg ≤ N a, st, I, uA J a (va_cpy (J a0) (J a) sp.toNatClampNeg dp.toNatClampNeg n.toNatClampNeg))
  | _, _ => none
/-- array loads: the condition, the value -/
def tx_ald (S N : Nat → Nat) (I : IM) (J : JM) (P : PM) : Instr → List Value → Option (Prop × List Value)
  | .iaload, .int i :: .ref a :: st => some (S a = 10 ∧ vp_in i (N a), .int (I a i.toNatClampNeg) :: st)
  | .laload, .int i :: .ref a :: st => some (S a = 11 ∧ vp_in i (N a), .long (J a i.toNatClampNeg) :: st)
  | .aaload, .int i :: .ref a :: st => some ((S a = 12 ∨ S a = 13 ∨ S a = 14) ∧ vp_in i (N a), va_rf (P a i.toNatClampNeg) :: st)
  | _, _ => none
def tx_ast (S N : Nat → Nat) (I : IM) (J : JM) (P : PM) : Instr → List Value → Option (Prop × List Value × IM × JM × PM)
  | .iastore, .int x :: .int i :: .ref a :: st => some (S a = 10 ∧ vp_in i (N a), st, u2 I a i.toNatClampNeg x, J, P)
  | .lastore, .long x :: .int i :: .ref a :: st => some (S a = 11 ∧ vp_in i (N a), st, I, u2 J a i.toNatClampNeg x, P)
  | .aastore, .ref v :: .int i :: .ref a :: st => some (((S a = 12 ∧ S v = 2) ∨ (S a = 13 ∧ S v = 5)) ∧ vp_in i (N a), st, I, J, u2 P a i.toNatClampNeg (some v))
  | _, _ => none
/-- a field's store: its kind and its type against the value -/
def tx_pf (I : IM) (J : JM) (P : PM) (a k j : Nat) : Value → Option (Prop × IM × JM × PM)
  | .int v => some ((tx_fk k)[j]? = some 0 ∧ narrow (tx_ty k j) (.int v) = .int v ∧ fits (tx_ty k j) (.int v) = true, u2 I a j v, J, P)
  | .long v => some ((tx_fk k)[j]? = some 1 ∧ narrow (tx_ty k j) (.long v) = .long v ∧ fits (tx_ty k j) (.long v) = true, I, u2 J a j v, P)
  | _ => none
/-- ONE STEP: cl says what calls do, nat whether there may be any -/
def tx_N (S N : Nat → Nat) (cl : CL) (nat : Prop) (o : Nat) (cc : ByteArray) (x y : Stt) : Prop :=
  ∃ i len, decode cc x.1 = .ok (i, len) ∧
    ((tx_k i = 1 ∧ len = tx_len1 i ∧ ∃ st', tx_alu (cres o) i x.2.2.1 = some st' ∧ y = (x.1 + len, x.2.1, st', x.2.2.2))
    ∨ (tx_k i = 2 ∧ ∃ k t v, tx_lod i = some (k, t, len) ∧ x.2.1[k]? = some (some v) ∧ tx_tc v = t ∧ y = (x.1 + len, x.2.1, v :: x.2.2.1, x.2.2.2))
    ∨ (tx_k i = 3 ∧ ∃ k t v st', tx_sto i = some (k, t, len) ∧ x.2.2.1 = v :: st' ∧ tx_tc v = t ∧ (if t = 1 then k + 1 else k) < x.2.1.length ∧ y = (x.1 + len, (if t = 1 then sl2 x.2.1 k v else sl1 x.2.1 k v), st', x.2.2.2))
    ∨ (tx_k i = 4 ∧ len = 3 ∧ ∃ k c v, i = .iinc k c ∧ x.2.1[k]? = some (some (.int v)) ∧ y = (x.1 + 3, sl1 x.2.1 k (.int (v + Int32.ofInt c)), x.2.2.1, x.2.2.2))
    ∨ (tx_k i = 5 ∧ len = 3 ∧ ∃ c off st' tgt, tx_br i x.2.2.1 = some (c, off, st') ∧ ((x.1 : Int) + off = ((tgt : Nat) : Int)) ∧ ((c ∧ y = (tgt, x.2.1, st', x.2.2.2)) ∨ (¬ c ∧ y = (x.1 + 3, x.2.1, st', x.2.2.2))))
    ∨ (tx_k i = 6 ∧ (∀ off, i = .goto off → len = 3) ∧ ∃ off st' tgt, tx_go i x.2.2.1 = some (off, st') ∧ ((x.1 : Int) + off = ((tgt : Nat) : Int)) ∧ y = (tgt, x.2.1, st', x.2.2.2))
    ∨ (tx_k i = 7 ∧ len = 3 ∧ ∃ n k j t a st', i = .getfield n ∧ fres o n = some (k, j) ∧ x.2.2.1 = .ref a :: st' ∧ S a = k ∧ (tx_fk k)[j]? = some t ∧ y = (x.1 + 3, x.2.1, tx_v (x.2.2.2.1 a) (x.2.2.2.2.1 a) (x.2.2.2.2.2 a) t j :: st', x.2.2.2))
    ∨ (tx_k i = 8 ∧ len = 3 ∧ ∃ n k j v a st' c I' J' P', i = .putfield n ∧ fres o n = some (k, j) ∧ x.2.2.1 = v :: .ref a :: st' ∧ S a = k ∧ (tx_T k j).2.2.2 = false ∧ tx_pf x.2.2.2.1 x.2.2.2.2.1 x.2.2.2.2.2 a k j v = some (c, I', J', P') ∧ c ∧ y = (x.1 + 3, x.2.1, st', I', J', P'))
    ∨ (tx_k i = 9 ∧ len = 1 ∧ ∃ c st', tx_ald S N x.2.2.2.1 x.2.2.2.2.1 x.2.2.2.2.2 i x.2.2.1 = some (c, st') ∧ c ∧ y = (x.1 + 1, x.2.1, st', x.2.2.2))
    ∨ (tx_k i = 10 ∧ len = 1 ∧ ∃ c st' I' J' P', tx_ast S N x.2.2.2.1 x.2.2.2.2.1 x.2.2.2.2.2 i x.2.2.1 = some (c, st', I', J', P') ∧ c ∧ y = (x.1 + 1, x.2.1, st', I', J', P'))
    ∨ (tx_k i = 11 ∧ len = 3 ∧ nat ∧ ∃ n M b As st' r I' J' P', i = .invokevirtual n ∧ mres o n = some M ∧ M.2.2.2.2.2.2 = false ∧ x.2.2.1 = As.reverse ++ .ref b :: st' ∧ As.length = M.2.2.2.2.2.1 ∧ S b = M.2.2.2.2.1 ∧ S b < 10 ∧ (st'.map fun v => v.category).sum ≤ 8 ∧ cl M (.ref b :: As) x.2.2.2.1 x.2.2.2.2.1 x.2.2.2.2.2 r I' J' P' ∧ y = (x.1 + 3, x.2.1, r.toList ++ st', I', J', P'))
    ∨ (tx_k i = 12 ∧ len = 3 ∧ nat ∧ ∃ n M As st' r I' J' P', i = .invokestatic n ∧ mres o n = some M ∧ M.2.2.2.2.2.2 = true ∧ x.2.2.1 = As.reverse ++ st' ∧ As.length = M.2.2.2.2.2.1 ∧ (st'.map fun v => v.category).sum ≤ 8 ∧ cl M As x.2.2.2.1 x.2.2.2.2.1 x.2.2.2.2.2 r I' J' P' ∧ y = (x.1 + 3, x.2.1, r.toList ++ st', I', J', P'))
    ∨ (tx_k i = 12 ∧ len = 3 ∧ nat ∧ ∃ n w c st' I' J', i = .invokestatic n ∧ mres o n = none ∧ nres o n = some w ∧ tx_nat S N x.2.2.2.1 x.2.2.2.2.1 w x.2.2.1 = some (c, st', I', J') ∧ c ∧ (st'.map fun v => v.category).sum ≤ 8 ∧ y = (x.1 + 3, x.2.1, st', I', J', x.2.2.2.2.2)))
/-- runs: x comes to an end with r and a memory that Q holds of -/
def tx_Run (S N : Nat → Nat) (cl : CL) (nat : Prop) (M : MR) (Q : Option Value → IM → JM → PM → Prop) : Nat → Stt → Prop
  | 0, _ => False
  | n + 1, x => (∃ i r, decode M.2.1 x.1 = .ok (i, 1) ∧ tx_k i = 0 ∧ tx_rt M.2.2.2.1 i x.2.2.1 r ∧ Q r x.2.2.2.1 x.2.2.2.2.1 x.2.2.2.2.2) ∨ ∃ y, tx_N S N cl nat M.2.2.2.2.1 M.2.1 x y ∧ tx_Run S N cl nat M Q n y
def tx_Cl (S N : Nat → Nat) : Nat → CL
  | 0, M, args, I, J, P, r, I', J', P' => (entl args).length ≤ M.2.2.1 ∧ ∃ n, tx_Run S N (fun _ _ _ _ _ _ _ _ _ => False) False M (fun r0 I0 J0 P0 => r0 = r ∧ I0 = I' ∧ J0 = J' ∧ P0 = P') n (0, entL args M.2.2.1, [], I, J, P)
  | d + 1, M, args, I, J, P, r, I', J', P' => (entl args).length ≤ M.2.2.1 ∧ ∃ n, tx_Run S N (tx_Cl S N d) True M (fun r0 I0 J0 P0 => r0 = r ∧ I0 = I' ∧ J0 = J' ∧ P0 = P') n (0, entL args M.2.2.1, [], I, J, P)

/-! ===== an evaluator of bytecode over abstract values: what needs neither heap nor tables ===== -/
/-- pc, locals, stack -/
abbrev zx_F : Type := Nat × List (Nat × Value) × List Value
def zx_lk (i : Nat) : List (Nat × Value) → Option Value
  | [] => none
  | (j, v) :: r => if j = i then some v else zx_lk i r
def zx_s1 (i : Nat) (v : Value) (lv : List (Nat × Value)) : List (Nat × Value) := (i, v) :: lv.filter (fun q => !(q.1 == i) && !(q.1 + 1 == i && q.2.category == 2))
def zx_s2 (i : Nat) (v : Value) (lv : List (Nat × Value)) : List (Nat × Value) := (i, v) :: lv.filter (fun q => !(q.1 == i) && (!(q.1 == i + 1) && !(q.1 + 1 == i && q.2.category == 2)))
def zx_j (pc : Nat) (off : Int) : Option Nat := if 0 ≤ (pc : Int) + off then some ((pc : Int) + off).toNat else none
theorem zx_j_ok {pc : Nat} {off : Int} {t : Nat} (h : zx_j pc off = some t) : (pc : Int) + off = (t : Int) := by
  unfold zx_j at h
  split at h
  · cases h; omega
  · cases h
/-- real values: an abstract place k stands for the address a k -/
def zx_v (a : Nat → Nat) : Value → Value
  | .ref k => .ref (a k)
  | v => v
abbrev zx_l (a : Nat → Nat) (lv : List (Nat × Value)) : List (Nat × Value) := lv.map (fun q => (q.1, zx_v a q.2))
abbrev zx_st (a : Nat → Nat) (st : List Value) : List Value := st.map (zx_v a)
theorem zx_cat (a : Nat → Nat) (v : Value) : (zx_v a v).category = v.category := by cases v <;> rfl
theorem zx_cats (a : Nat → Nat) (st : List Value) : ((zx_st a st).map fun v => v.category) = st.map fun v => v.category := by
  simp [zx_st, zx_cat]
theorem zx_s1_map (a : Nat → Nat) (i : Nat) (v : Value) (lv : List (Nat × Value)) : (i, zx_v a v) :: (zx_l a lv).filter (fun q => !(q.1 == i) && !(q.1 + 1 == i && q.2.category == 2)) = zx_l a (zx_s1 i v lv) := by
  simp [zx_s1, zx_l, List.filter_map, Function.comp_def, zx_cat]
theorem zx_s2_map (a : Nat → Nat) (i : Nat) (v : Value) (lv : List (Nat × Value)) : (i, zx_v a v) :: (zx_l a lv).filter (fun q => !(q.1 == i) && (!(q.1 == i + 1) && !(q.1 + 1 == i && q.2.category == 2))) = zx_l a (zx_s2 i v lv) := by
  simp [zx_s2, zx_l, List.filter_map, Function.comp_def, zx_cat]
theorem zx_lk_mem {i : Nat} {v : Value} : ∀ {lv : List (Nat × Value)}, zx_lk i lv = some v → (i, v) ∈ lv
  | [], h => by cases h
  | (j, w) :: r, h => by
    unfold zx_lk at h
    split at h
    · next e => cases h; subst e; exact List.mem_cons_self
    · exact List.mem_cons_of_mem _ (zx_lk_mem h)
theorem zx_lk_at {a : Nat → Nat} {ls : Array Slot} {nL i : Nat} {v : Value} {lv : List (Nat × Value)} (h : lv_has ls nL (zx_l a lv)) (hk : zx_lk i lv = some v) : ls[i]? = some (.val (zx_v a v)) := by
  have h1 := zx_lk_mem hk
  have h2 : (i, zx_v a v) ∈ zx_l a lv := List.mem_map.mpr ⟨(i, v), h1, rfl⟩
  exact h.2.2 _ h2
/-- a load of an int, long, float, double, reference or null -/
def zx_ld (ty : Nat) (i n : Nat) (pc : Nat) (lv : List (Nat × Value)) (st : List Value) : Option zx_F :=
  match zx_lk i lv with
  | some (.int x) => if ty = 0 then some (pc + n, lv, .int x :: st) else none
  | some (.long x) => if ty = 1 then some (pc + n, lv, .long x :: st) else none
  | some (.float x) => if ty = 2 then some (pc + n, lv, .float x :: st) else none
  | some (.double x) => if ty = 3 then some (pc + n, lv, .double x :: st) else none
  | some (.ref x) => if ty = 4 then some (pc + n, lv, .ref x :: st) else none
  | some .null => if ty = 4 then some (pc + n, lv, .null :: st) else none
  | _ => none
/-- a store -/
def zx_sv (ty : Nat) (nL i n : Nat) (pc : Nat) (lv : List (Nat × Value)) (st : List Value) : Option zx_F :=
  match st with
  | .int x :: r => if ty = 0 ∧ i < nL then some (pc + n, zx_s1 i (.int x) lv, r) else none
  | .long x :: r => if ty = 1 ∧ i + 1 < nL then some (pc + n, zx_s2 i (.long x) lv, r) else none
  | .float x :: r => if ty = 2 ∧ i < nL then some (pc + n, zx_s1 i (.float x) lv, r) else none
  | .double x :: r => if ty = 3 ∧ i + 1 < nL then some (pc + n, zx_s2 i (.double x) lv, r) else none
  | .ref x :: r => if ty = 4 ∧ i < nL then some (pc + n, zx_s1 i (.ref x) lv, r) else none
  | .null :: r => if ty = 4 ∧ i < nL then some (pc + n, zx_s1 i .null lv, r) else none
  | _ => none
def zx_br (b : Bool) (pc : Nat) (off : Int) (lv : List (Nat × Value)) (st : List Value) : Option zx_F :=
  match zx_j pc off with
  | some t => if b then some (t, lv, st) else some (pc + 3, lv, st)
  | none => none
/-- what an instruction does that touches locals and stack alone -/
def zx_p (nL : Nat) (pc : Nat) (lv : List (Nat × Value)) (st : List Value) : Instr → Nat → Option zx_F
  | .iconst n, 1 => some (pc + 1, lv, .int (Int32.ofInt n) :: st)
  | .bipush n, 2 => some (pc + 2, lv, .int (Int8.ofInt n).toInt32 :: st)
  | .sipush n, 3 => some (pc + 3, lv, .int (Int16.ofInt n).toInt32 :: st)
  | .lconst n, 1 => some (pc + 1, lv, .long (Int64.ofNat (n : Nat)) :: st)
  | .aconst_null, 1 => some (pc + 1, lv, .null :: st)
  | .fconst n, 1 => if (n : Nat) = 0 then some (pc + 1, lv, .float FP.fconst0 :: st) else none
  | .dconst n, 1 => if (n : Nat) = 0 then some (pc + 1, lv, .double FP.dconst0 :: st) else none
  | .iload_n k, 1 => zx_ld 0 k 1 pc lv st
  | .lload_n k, 1 => zx_ld 1 k 1 pc lv st
  | .fload_n k, 1 => zx_ld 2 k 1 pc lv st
  | .dload_n k, 1 => zx_ld 3 k 1 pc lv st
  | .aload_n k, 1 => zx_ld 4 k 1 pc lv st
  | .iload k, 2 => zx_ld 0 k 2 pc lv st
  | .lload k, 2 => zx_ld 1 k 2 pc lv st
  | .fload k, 2 => zx_ld 2 k 2 pc lv st
  | .dload k, 2 => zx_ld 3 k 2 pc lv st
  | .aload k, 2 => zx_ld 4 k 2 pc lv st
  | .istore_n k, 1 => zx_sv 0 nL k 1 pc lv st
  | .lstore_n k, 1 => zx_sv 1 nL k 1 pc lv st
  | .fstore_n k, 1 => zx_sv 2 nL k 1 pc lv st
  | .dstore_n k, 1 => zx_sv 3 nL k 1 pc lv st
  | .astore_n k, 1 => zx_sv 4 nL k 1 pc lv st
  | .istore k, 2 => zx_sv 0 nL k 2 pc lv st
  | .lstore k, 2 => zx_sv 1 nL k 2 pc lv st
  | .fstore k, 2 => zx_sv 2 nL k 2 pc lv st
  | .dstore k, 2 => zx_sv 3 nL k 2 pc lv st
  | .astore k, 2 => zx_sv 4 nL k 2 pc lv st
  | .iinc i n, 3 => match zx_lk i lv with
    | some (.int x) => if i < nL then some (pc + 3, zx_s1 i (.int (x + Int32.ofInt n)) lv, st) else none
    | _ => none
  | .goto off, 3 => (zx_j pc off).map fun t => (t, lv, st)
  | .ifCond cd off, 3 => match st with
    | .int x :: r => match cd with
      | .eq => zx_br (decide (x = 0)) pc off lv r
      | .ne => zx_br (decide (¬ x = 0)) pc off lv r
      | .lt => zx_br (decide (x < 0)) pc off lv r
      | .ge => zx_br (decide (0 ≤ x)) pc off lv r
      | .gt => zx_br (decide (0 < x)) pc off lv r
      | .le => zx_br (decide (x ≤ 0)) pc off lv r
    | _ => none
  | .if_icmp cd off, 3 => match st with
    | .int y :: .int x :: r => match cd with
      | .eq => zx_br (decide (x = y)) pc off lv r
      | .ne => zx_br (decide (¬ x = y)) pc off lv r
      | .lt => zx_br (decide (x < y)) pc off lv r
      | .ge => zx_br (decide (y ≤ x)) pc off lv r
      | .gt => zx_br (decide (y < x)) pc off lv r
      | .le => zx_br (decide (x ≤ y)) pc off lv r
    | _ => none
  | .ifnull off, 3 => match st with
    | .null :: r => zx_br true pc off lv r
    | .ref _ :: r => zx_br false pc off lv r
    | _ => none
  | .ifnonnull off, 3 => match st with
    | .null :: r => zx_br false pc off lv r
    | .ref _ :: r => zx_br true pc off lv r
    | _ => none
  | .iadd, 1 => match st with | .int y :: .int x :: r => some (pc + 1, lv, .int (x + y) :: r) | _ => none
  | .isub, 1 => match st with | .int y :: .int x :: r => some (pc + 1, lv, .int (x - y) :: r) | _ => none
  | .imul, 1 => match st with | .int y :: .int x :: r => some (pc + 1, lv, .int (x * y) :: r) | _ => none
  | .iand, 1 => match st with | .int y :: .int x :: r => some (pc + 1, lv, .int (x &&& y) :: r) | _ => none
  | .ior, 1 => match st with | .int y :: .int x :: r => some (pc + 1, lv, .int (x ||| y) :: r) | _ => none
  | .ixor, 1 => match st with | .int y :: .int x :: r => some (pc + 1, lv, .int (x ^^^ y) :: r) | _ => none
  | .ishl, 1 => match st with | .int y :: .int x :: r => some (pc + 1, lv, .int (x <<< (y &&& 31)) :: r) | _ => none
  | .ishr, 1 => match st with | .int y :: .int x :: r => some (pc + 1, lv, .int (x >>> (y &&& 31)) :: r) | _ => none
  | .iushr, 1 => match st with | .int y :: .int x :: r => some (pc + 1, lv, .int (x.toUInt32 >>> (y.toUInt32 &&& Int32.toUInt32 31)).toInt32 :: r) | _ => none
  | .idiv, 1 => match st with | .int y :: .int x :: r => if y = 0 then none else some (pc + 1, lv, .int (x / y) :: r) | _ => none
  | .irem, 1 => match st with | .int y :: .int x :: r => if y = 0 then none else some (pc + 1, lv, .int (x - x / y * y) :: r) | _ => none
  | .ineg, 1 => match st with | .int x :: r => some (pc + 1, lv, .int (-x) :: r) | _ => none
  | .ladd, 1 => match st with | .long y :: .long x :: r => some (pc + 1, lv, .long (x + y) :: r) | _ => none
  | .lsub, 1 => match st with | .long y :: .long x :: r => some (pc + 1, lv, .long (x - y) :: r) | _ => none
  | .lmul, 1 => match st with | .long y :: .long x :: r => some (pc + 1, lv, .long (x * y) :: r) | _ => none
  | .land, 1 => match st with | .long y :: .long x :: r => some (pc + 1, lv, .long (x &&& y) :: r) | _ => none
  | .lor, 1 => match st with | .long y :: .long x :: r => some (pc + 1, lv, .long (x ||| y) :: r) | _ => none
  | .lxor, 1 => match st with | .long y :: .long x :: r => some (pc + 1, lv, .long (x ^^^ y) :: r) | _ => none
  | .ldiv, 1 => match st with | .long y :: .long x :: r => if y = 0 then none else some (pc + 1, lv, .long (x / y) :: r) | _ => none
  | .lrem, 1 => match st with | .long y :: .long x :: r => if y = 0 then none else some (pc + 1, lv, .long (x - x / y * y) :: r) | _ => none
  | .lneg, 1 => match st with | .long x :: r => some (pc + 1, lv, .long (-x) :: r) | _ => none
  | .lshl, 1 => match st with | .int y :: .long x :: r => some (pc + 1, lv, .long (x <<< (y.toInt64 &&& 63)) :: r) | _ => none
  | .lshr, 1 => match st with | .int y :: .long x :: r => some (pc + 1, lv, .long (x >>> (y.toInt64 &&& 63)) :: r) | _ => none
  | .lushr, 1 => match st with | .int y :: .long x :: r => some (pc + 1, lv, .long (x.toUInt64 >>> (y.toInt64.toUInt64 &&& Int64.toUInt64 63)).toInt64 :: r) | _ => none
  | .lcmp, 1 => match st with | .long y :: .long x :: r => some (pc + 1, lv, .int (lg_cmp x y) :: r) | _ => none
  | .i2l, 1 => match st with | .int x :: r => some (pc + 1, lv, .long x.toInt64 :: r) | _ => none
  | .l2i, 1 => match st with | .long x :: r => some (pc + 1, lv, .int x.toInt32 :: r) | _ => none
  | .i2b, 1 => match st with | .int x :: r => some (pc + 1, lv, .int x.toInt8.toInt32 :: r) | _ => none
  | .i2s, 1 => match st with | .int x :: r => some (pc + 1, lv, .int x.toInt16.toInt32 :: r) | _ => none
  | .i2c, 1 => match st with | .int x :: r => some (pc + 1, lv, .int (x.toUInt32 % 65536).toInt32 :: r) | _ => none
  | .i2f, 1 => match st with | .int x :: r => some (pc + 1, lv, .float (FP.i2f x) :: r) | _ => none
  | .i2d, 1 => match st with | .int x :: r => some (pc + 1, lv, .double (FP.i2d x) :: r) | _ => none
  | .l2d, 1 => match st with | .long x :: r => some (pc + 1, lv, .double (FP.l2d x) :: r) | _ => none
  | .fdiv, 1 => match st with | .float y :: .float x :: r => if FP.fdiv x y &&& 0x7fffffff ≤ 0x7f800000 then some (pc + 1, lv, .float (FP.fdiv x y) :: r) else none | _ => none
  | .ddiv, 1 => match st with | .double y :: .double x :: r => if FP.ddiv x y &&& 0x7fffffffffffffff ≤ 0x7ff0000000000000 then some (pc + 1, lv, .double (FP.ddiv x y) :: r) else none | _ => none
  | .f2d, 1 => match st with | .float x :: r => if FP.f2d x &&& 0x7fffffffffffffff ≤ 0x7ff0000000000000 then some (pc + 1, lv, .double (FP.f2d x) :: r) else none | _ => none
  | .fcmp op, 1 => match st with | .float y :: .float x :: r => some (pc + 1, lv, .int (Op.cmpValue (FP.fcmp x y) op) :: r) | _ => none
  | .dcmp op, 1 => match st with | .double y :: .double x :: r => some (pc + 1, lv, .int (Op.cmpValue (FP.dcmp x y) op) :: r) | _ => none
  | .dup, 1 => match st with | x :: r => if x.category = 1 then some (pc + 1, lv, x :: x :: r) else none | _ => none
  | .pop, 1 => match st with | x :: r => if x.category = 1 then some (pc + 1, lv, r) else none | _ => none
  | .dup_x1, 1 => match st with | x :: y :: r => if x.category = 1 ∧ y.category = 1 then some (pc + 1, lv, x :: y :: x :: r) else none | _ => none
  | .dup2, 1 => match st with
    | x :: y :: r => if x.category = 1 ∧ y.category = 1 then some (pc + 1, lv, x :: y :: x :: y :: r) else none
    | _ => none
  | .tableswitch dflt lo hi offs, _ => match st with
    | .int x :: r => if x.toInt < lo ∨ hi < x.toInt then (zx_j pc dflt).map fun t => (t, lv, r) else
      match offs[(x.toInt - lo).toNat]? with
      | some off => (zx_j pc off).map fun t => (t, lv, r)
      | none => none
    | _ => none
  | .lookupswitch dflt ps, _ => match st with
    | .int x :: r => if (ps.toList.zip (ps.toList.drop 1)).all (fun (a, next) => a.1 < next.1) then (zx_j pc (Op.lookupswitch.offset ps.toList dflt x.toInt)).map fun t => (t, lv, r) else none
    | _ => none
  | _, _ => none

/-! ===== runs over a script that is not known: some ints and longs are names for numbers made of the script's ints ===== -/
def zy_b : Nat := 1500000000
def zy_bL : Nat := 4000000000000000000
/-- which number an int names; none: itself -/
def zy_c (x : Int32) : Option Nat := let n := x.toUInt32.toNat; if zy_b ≤ n ∧ n < zy_b + 64 then some (n - zy_b) else none
def zy_cL (x : Int64) : Option Nat := let n := x.toUInt64.toNat; if zy_bL ≤ n ∧ n < zy_bL + 1024 then some (n - zy_bL) else none
def zy_i (k : Nat) : Value := .int (Int32.ofNat (zy_b + k))
def zy_l (k : Nat) : Value := .long (Int64.ofNat (zy_bL + k))
/-- the text's long: the second and third int of the script -/
def zy_L1 (a : Int32) : Int64 := a.toInt64 <<< ((32 : Int32).toInt64 &&& 63)
def zy_L2 (a : Int32) : Int64 := a.toInt64 &&& 4294967295
def zy_T (s : Nat → Int32) : Int64 := zy_L1 (s 1) ||| zy_L2 (s 2)
def zy_by (s : Nat → Int32) (k : Nat) : Int64 := ((zy_T s).toUInt64 >>> ((Int32.ofNat (8 * k)).toInt64.toUInt64 &&& Int64.toUInt64 63)).toInt64 &&& 255
/-- what the names stand for: a script of len ints -/
def zy_d (len : Nat) (s : Nat → Int32) (k : Nat) : Int32 :=
  if k < 7 then s k else if k = 7 then s 0 &&& 63 else if k = 8 then Int32.ofNat len else if k = 9 then Int32.ofNat len - 7 else
  if k = 11 then s 5 - 1 else if k = 12 then (s 5 - 1) * s 4 else if k = 13 then s 3 + (s 5 - 1) * s 4 else
  if 20 ≤ k ∧ k < 28 then (zy_by s (k - 20)).toInt32 else
  if k = 28 then lg_cmp (s 3).toInt64 (-1000000) else if k = 29 then lg_cmp (s 3).toInt64 1000000 else
  if k = 30 then lg_cmp (s 4).toInt64 (-1000) else if k = 31 then lg_cmp (s 4).toInt64 1000 else
  if k = 32 then lg_cmp (s 5).toInt64 1 else if k = 33 then lg_cmp (s 5).toInt64 40 else
  if k = 34 then lg_cmp (s 3 + (s 5 - 1) * s 4).toInt64 (-1000000) else if k = 35 then lg_cmp (s 3 + (s 5 - 1) * s 4).toInt64 1000000 else 0
def zy_dL (len : Nat) (s : Nat → Int32) (k : Nat) : Int64 :=
  if k < 64 then (zy_d len s k).toInt64 else if k < 110 then zy_L1 (zy_d len s (k - 100)) else if k < 210 then zy_L2 (zy_d len s (k - 200)) else
  if k < 310 then zy_L1 (zy_d len s (k - 300)) ||| zy_L2 (zy_d len s (k - 300 + 1)) else
  if k < 500 then ((zy_T s).toUInt64 >>> ((Int32.ofNat (k - 400)).toInt64.toUInt64 &&& Int64.toUInt64 63)).toInt64 else
  (zy_T s) >>> ((Int32.ofNat (k - 500)).toInt64 &&& 63)
/-- what is known of a named int: from, to; the first that is said -/
abbrev zy_B : Type := List (Nat × Int × Int)
def zy_iv (k : Nat) : zy_B → Int × Int
  | [] => (-2147483648, 2147483647)
  | (j, u, v) :: r => if j = k then (u, v) else zy_iv k r
/-- a named number that is known -/
def zy_n1 (bx : zy_B) : Value → Value
  | .int x => match zy_c x with
    | some k => let q := zy_iv k bx; if q.1 = q.2 ∧ zy_c (Int32.ofInt q.1) = none then .int (Int32.ofInt q.1) else .int x
    | none => .int x
  | .long x => match zy_cL x with
    | some k => if k < 64 then (let q := zy_iv k bx; if q.1 = q.2 ∧ zy_cL (Int64.ofInt q.1) = none then .long (Int64.ofInt q.1) else .long x) else .long x
    | none => .long x
  | v => v
def zy_nm (bx : zy_B) : List Value → List Value
  | [] => []
  | [x] => [zy_n1 bx x]
  | [x, y] => [zy_n1 bx x, zy_n1 bx y]
  | x :: y :: z :: r => zy_n1 bx x :: zy_n1 bx y :: zy_n1 bx z :: r
/-- entries 64 + k: that number isn't this -/
def zy_ne (k : Nat) (y : Int) (bx : zy_B) : Bool := bx.any fun e => Nat.beq e.1 (64 + k) && decide (e.2.1 = y)
/-- where to part what is known: named int, whether by one value (or by a place), place -/
abbrev zy_P : Type := Nat × Bool × Int
def zy_sp (bx : zy_B) (k : Nat) (m : Int) : Option zy_P := let q := zy_iv k bx
  if q.1 ≤ m ∧ m < q.2 then some (k, false, m) else none
def zy_se (bx : zy_B) (k : Nat) (y : Int) : Option zy_P := let q := zy_iv k bx
  if q.1 ≤ y ∧ y ≤ q.2 ∧ zy_ne k y bx = false then some (k, true, y) else none
def zy_pin (bx : zy_B) (k : Nat) : Option zy_P := let q := zy_iv k bx
  if q.1 < q.2 ∧ q.2 - q.1 ≤ 64 then some (k, false, q.1) else none
/-- den k against y, the named one ahead (b) or behind -/
def zy_sc (bx : zy_B) (k : Nat) (cd : ClassFile.Cond) (b : Bool) (y : Int) : Option zy_P := match cd with
  | .eq | .ne => zy_se bx k y
  | .lt | .ge => zy_sp bx k (if b then y - 1 else y)
  | .gt | .le => zy_sp bx k (if b then y else y - 1)
/-- does it hold already, one way or the other? -/
def zy_dc (bx : zy_B) (k : Nat) (cd : ClassFile.Cond) (b : Bool) (y : Int) : Option Int := let q := zy_iv k bx
  match cd with
  | .eq | .ne => if q.2 < y ∨ y < q.1 then some q.1 else if zy_ne k y bx then some (if y < 1000000000 then y + 1 else y - 1) else none
  | .lt | .ge => let m := if b then y - 1 else y; if q.2 ≤ m ∨ m < q.1 then some q.1 else none
  | .gt | .le => let m := if b then y else y - 1; if q.2 ≤ m ∨ m < q.1 then some q.1 else none
def zy_q : Instr → Option (zy_B → List Value → Option zy_P)
  | .ifCond cd _ => some fun bx st => match st with
    | .int x :: _ => (zy_c x).bind fun k => zy_sc bx k cd true 0
    | _ => none
  | .if_icmp cd _ => some fun bx st => match st with
    | .int y :: .int x :: _ => match zy_c x, zy_c y with
      | some k, none => zy_sc bx k cd true y.toInt
      | none, some k => zy_sc bx k cd false x.toInt
      | _, _ => none
    | _ => none
  | .lcmp => some fun bx st => match st with
    | .long y :: .long x :: _ => match zy_cL x, zy_cL y with
      | some k, none => if k < 64 then (match zy_sp bx k (y.toInt - 1) with
        | some q => some q
        | none => zy_sp bx k y.toInt) else none
      | none, some k => if k < 64 then (match zy_sp bx k (x.toInt - 1) with
        | some q => some q
        | none => zy_sp bx k x.toInt) else none
      | _, _ => none
    | _ => none
  | .tableswitch _ lo hi _ => some fun bx st => match st with
    | .int x :: _ => (zy_c x).bind fun k => match zy_sp bx k (lo - 1) with
      | some q => some q
      | none => match zy_sp bx k hi with
        | some q => some q
        | none => if lo ≤ (zy_iv k bx).1 ∧ (zy_iv k bx).2 ≤ hi then zy_pin bx k else none
    | _ => none
  | .lookupswitch _ _ | .iaload | .laload | .aaload | .baload | .lshl => some fun bx st => match st with
    | .int x :: _ => (zy_c x).bind fun k => zy_pin bx k
    | _ => none
  | .iadd | .isub | .imul | .iand | .ishl | .ishr | .irem | .idiv | .iastore | .lastore | .bastore | .aastore => some fun bx st => match st with
    | .int x :: .int y :: _ => match (zy_c x).bind fun k => zy_pin bx k with
      | some q => some q
      | none => (zy_c y).bind fun k => zy_pin bx k
    | _ :: .int y :: _ => (zy_c y).bind fun k => zy_pin bx k
    | _ => none
  | _ => none
/-- a compare that is decided: any number of those that it can be will do -/
def zy_cp : Instr → Option (zy_B → List Value → Option (List Value))
  | .ifCond cd _ => some fun bx st => match st with
    | .int x :: r => match zy_c x with
      | some k => match zy_dc bx k cd true 0 with
        | some u => if zy_c (Int32.ofInt u) = none ∧ -2147483648 ≤ u ∧ u ≤ 2147483647 then some (.int (Int32.ofInt u) :: r) else none
        | none => none
      | none => none
    | _ => none
  | .if_icmp cd _ => some fun bx st => match st with
    | .int y :: .int x :: r => match zy_c x, zy_c y with
      | some k, none => match zy_dc bx k cd true y.toInt with
        | some u => if zy_c (Int32.ofInt u) = none ∧ -2147483648 ≤ u ∧ u ≤ 2147483647 then some (.int y :: .int (Int32.ofInt u) :: r) else none
        | none => none
      | none, some k => match zy_dc bx k cd false x.toInt with
        | some u => if zy_c (Int32.ofInt u) = none ∧ -2147483648 ≤ u ∧ u ≤ 2147483647 then some (.int (Int32.ofInt u) :: .int x :: r) else none
        | none => none
      | _, _ => none
    | _ => none
  | .tableswitch _ lo hi _ => some fun bx st => match st with
    | .int x :: r => match zy_c x with
      | some k => let q := zy_iv k bx; if (q.2 < lo ∨ hi < q.1) ∧ zy_c (Int32.ofInt q.1) = none ∧ -2147483648 ≤ q.1 ∧ q.1 ≤ 2147483647 then some (.int (Int32.ofInt q.1) :: r) else none
      | none => none
    | _ => none
  | .lcmp => some fun bx st => match st with
    | .long y :: .long x :: r => match zy_cL x, zy_cL y with
      | some k, none => let q := zy_iv k bx; if k < 64 ∧ (q.2 < y.toInt ∨ y.toInt < q.1) ∧ -2147483648 ≤ q.1 ∧ q.1 ≤ 2147483647 ∧ zy_cL (Int64.ofInt q.1) = none then some (.long y :: .long (Int64.ofInt q.1) :: r) else none
      | none, some k => let q := zy_iv k bx; if k < 64 ∧ (q.2 < x.toInt ∨ x.toInt < q.1) ∧ -2147483648 ≤ q.1 ∧ q.1 ≤ 2147483647 ∧ zy_cL (Int64.ofInt q.1) = none then some (.long (Int64.ofInt q.1) :: .long x :: r) else none
      | _, _ => none
    | _ => none
  | _ => none
/-- instructions that make a named number of one -/
def zy_op : Instr → Nat → Option (zy_B → List Value → Option (List Value))
  | .arraylength, 1 => some fun bx st => match st with
    | .ref q :: r => if q = zx_lim then some (zy_i 8 :: r) else none
    | _ => none
  | .iaload, 1 => some fun bx st => match st with
    | .int i :: .ref q :: r => if q = zx_lim ∧ 0 ≤ (zy_iv 9 bx).1 ∧ i.toUInt32.toNat < 7 then some (zy_i i.toUInt32.toNat :: r) else none
    | _ => none
  | .isub, 1 => some fun bx st => match st with
    | .int y :: .int x :: r => if zy_c x = some 8 ∧ y = 7 then some (zy_i 9 :: r) else if zy_c x = some 5 ∧ y = 1 then some (zy_i 11 :: r) else none
    | _ => none
  | .imul, 1 => some fun bx st => match st with
    | .int y :: .int x :: r => if zy_c x = some 11 ∧ zy_c y = some 4 then some (zy_i 12 :: r) else none
    | _ => none
  | .iadd, 1 => some fun bx st => match st with
    | .int y :: .int x :: r => if zy_c x = some 3 ∧ zy_c y = some 12 then some (zy_i 13 :: r) else none
    | _ => none
  | .iand, 1 => some fun bx st => match st with
    | .int y :: .int x :: r => if zy_c x = some 0 ∧ y = 63 then some (zy_i 7 :: r) else none
    | _ => none
  | .i2l, 1 => some fun bx st => match st with
    | .int x :: r => (zy_c x).map fun k => zy_l k :: r
    | _ => none
  | .lshl, 1 => some fun bx st => match st with
    | .int y :: .long x :: r => match zy_cL x with
      | some k => if k < 7 ∧ y = 32 then some (zy_l (100 + k) :: r) else none
      | none => none
    | _ => none
  | .land, 1 => some fun bx st => match st with
    | .long y :: .long x :: r => match zy_cL x with
      | some k => if k < 7 ∧ y = 4294967295 then some (zy_l (200 + k) :: r) else
          if 400 ≤ k ∧ k < 457 ∧ k % 8 = 0 ∧ y = 255 then some (zy_l (20 + (k - 400) / 8) :: r) else
          if 500 ≤ k ∧ k < 557 ∧ (k - 500) % 8 = 0 ∧ y = 255 then some (zy_l (20 + (k - 500) / 8) :: r) else none
      | none => none
    | _ => none
  | .lor, 1 => some fun bx st => match st with
    | .long y :: .long x :: r => match zy_cL x, zy_cL y with
      | some k, some j => if 100 ≤ k ∧ k < 106 ∧ j = k + 101 then some (zy_l (k + 200) :: r) else none
      | _, _ => none
    | _ => none
  | .lushr, 1 => some fun bx st => match st with
    | .int y :: .long x :: r => if zy_cL x = some 301 ∧ y.toUInt32.toNat < 57 then some (zy_l (400 + y.toUInt32.toNat) :: r) else none
    | _ => none
  | .lshr, 1 => some fun bx st => match st with
    | .int y :: .long x :: r => if zy_cL x = some 301 ∧ y.toUInt32.toNat < 57 then some (zy_l (500 + y.toUInt32.toNat) :: r) else none
    | _ => none
  | .lcmp, 1 => some fun bx st => match st with
    | .long y :: .long x :: r =>
      if zy_cL x = some 3 ∧ y = -1000000 then some (zy_i 28 :: r) else if zy_cL x = some 3 ∧ y = 1000000 then some (zy_i 29 :: r) else
      if zy_cL x = some 4 ∧ y = -1000 then some (zy_i 30 :: r) else if zy_cL x = some 4 ∧ y = 1000 then some (zy_i 31 :: r) else
      if zy_cL x = some 5 ∧ y = 1 then some (zy_i 32 :: r) else if zy_cL x = some 5 ∧ y = 40 then some (zy_i 33 :: r) else
      if zy_cL x = some 13 ∧ y = -1000000 then some (zy_i 34 :: r) else if zy_cL x = some 13 ∧ y = 1000000 then some (zy_i 35 :: r) else none
    | _ => none
  | .l2i, 1 => some fun bx st => match st with
    | .long x :: r => match zy_cL x with
      | some k => if k < 64 then some (zy_i k :: r) else none
      | none => none
    | _ => none
  | _, _ => none
/-- no name -/
def zy_u : Value → Bool
  | .int x => (zy_c x).isNone
  | .long x => (zy_cL x).isNone
  | _ => true
def zy_h0 : List Value → Bool
  | [] => true
  | v :: _ => zy_u v
def zy_h1 : List Value → Bool
  | v :: w :: _ => zy_u v && zy_u w
  | l => zy_h0 l
/-- may names be handed through this instruction? -/
def zy_pk : Instr → Option (List (Nat × Value) → List Value → zx_F → Bool)
  | .iload_n _ | .lload_n _ | .fload_n _ | .dload_n _ | .aload_n _ | .iload _ | .lload _ | .fload _ | .dload _ | .aload _ => some fun lv st f => true
  | .istore_n _ | .lstore_n _ | .fstore_n _ | .dstore_n _ | .astore_n _ | .istore _ | .lstore _ | .fstore _ | .dstore _ | .astore _ => some fun lv st f => true
  | .goto _ | .ifnull _ | .ifnonnull _ | .dup | .pop | .dup_x1 | .dup2 | .aconst_null => some fun lv st f => true
  | .iinc i n => some fun lv st f => match zx_lk i lv with
    | some (.int x) => (zy_c x).isNone && (zy_c (x + Int32.ofInt n)).isNone
    | _ => false
  | .ifCond _ _ | .tableswitch _ _ _ _ | .lookupswitch _ _ => some fun lv st f => zy_h0 st
  | .if_icmp _ _ => some fun lv st f => zy_h1 st
  | .iconst _ | .bipush _ | .sipush _ | .lconst _ | .fconst _ | .dconst _ => some fun lv st f => zy_h0 f.2.2
  | .ineg | .lneg | .i2l | .l2i | .i2b | .i2s | .i2c | .i2f | .i2d | .l2d | .f2d => some fun lv st f => zy_h0 st && zy_h0 f.2.2
  | _ => some fun lv st f => zy_h1 st && zy_h0 f.2.2
def zy_hk : Instr → Option (List Value → zx_F → Bool)
  | .getfield _ | .new _ | .invokespecial _ => some fun st f => true
  | .putfield _ | .newarray _ | .anewarray _ | .laload | .daload | .baload | .aaload => some fun st f => zy_h0 st
  | .iaload => some fun st f => match st with
    | .int i :: .ref q :: _ => (zy_c i).isNone && decide (q ≠ zx_lim)
    | _ => false
  | .arraylength => some fun st f => match st with
    | .ref q :: _ => decide (q ≠ zx_lim) && zy_h0 f.2.2
    | _ => false
  | .iastore | .lastore => some fun st f => match st with
    | _ :: v :: _ => zy_u v
    | _ => false
  | .aastore | .dastore => some fun st f => match st with
    | _ :: v :: _ => zy_u v
    | _ => false
  | .if_acmp _ _ => some fun st f => true
  | .ldc2_w _ => some fun st f => zy_h0 f.2.2
  | _ => none
def zy_hk2 : Instr → Option (Bool → List Value → zx_F → Bool)
  | .getstatic _ => some fun sb st f => zy_h0 f.2.2 && (match f.2.2 with
    | .ref q :: _ => !sb || decide (q ≠ zx_lim + 6)
    | .null :: _ => !sb
    | _ => true)
  | .getfield _ | .arraylength | .ldc _ | .ldc_w _ => some fun sb st f => zy_h0 f.2.2
  | .baload | .aaload => some fun sb st f => zy_h0 st && zy_h0 f.2.2
  | .aastore => some fun sb st f => match st with
    | _ :: v :: _ => zy_u v
    | _ => false
  | .checkcast _ | .if_acmp _ _ => some fun sb st f => true
  | .bastore => some fun sb st f => zy_h1 st && (match st with
    | .int x :: _ => (zy_c (vp_nar .boolean x)).isNone && (zy_c (vp_nar .byte x)).isNone
    | _ => false)
  | .invokestatic _ => some fun sb st f => st.all zy_u && zy_h0 f.2.2
  | _ => none
/-- nothing is in this box -/
def zy_bad (k : Nat) (bx : zy_B) : Bool := let q := zy_iv k bx; decide (q.1 = q.2) && zy_ne k q.1 bx
def zy_all {α β : Type} (g : α → Except Nat (List β)) : List α → Except Nat (List β)
  | [] => .ok []
  | x :: r => match g x with
    | .ok l1 => match zy_all g r with
      | .ok l2 => .ok (l1 ++ l2)
      | .error e => .error e
    | .error e => .error e
/-! numbers written out before one goes on: the kernel then finds again what it has reckoned once -/
def zy_fn {α : Type} (n : Nat) (k : Nat → α) : α := match n with
  | 0 => k 0
  | m + 1 => k (m + 1)
def zy_fv {α : Type} (v : Value) (k : Value → α) : α := match v with
  | .int x => zy_fn x.toUInt32.toNat (fun n => k (.int (Int32.ofNat n)))
  | .long x => zy_fn x.toUInt64.toNat (fun n => k (.long (Int64.ofNat n)))
  | .ref q => zy_fn q (fun n => k (.ref n))
  | .null => k .null
  | w => k w
def zy_fs {α : Type} (st : List Value) (k : List Value → α) : α := match st with
  | [] => k []
  | v :: r => zy_fv v (fun w => k (w :: r))
def zy_fm {α : Type} (st : List Value) (k : List Value → α) : α := match st with
  | [] => k []
  | v :: r => k (v :: r)
def zy_fl {α : Type} : List (Nat × Value) → (List (Nat × Value) → α) → α
  | [], k => k []
  | (i, v) :: r, k => zy_fv v (fun w => zy_fn i (fun j => zy_fl r (fun r' => k ((j, w) :: r'))))
def zy_sto : Instr → Bool
  | .istore_n _ | .lstore_n _ | .fstore_n _ | .dstore_n _ | .astore_n _ | .istore _ | .lstore _ | .fstore _ | .dstore _ | .astore _ | .iinc _ _ => true
  | _ => false
def zy_F {α : Type} (b : Bool) (f : zx_F) (k : zx_F → α) : α := match f with
  | (pc, lv, st) => zy_fn pc (fun pc' => zy_fs st (fun st' => if b then zy_fl lv (fun lv' => k (pc', lv', st')) else k (pc', lv, st')))
/-- does it look at numbers? -/
def zy_cs : Instr → Bool
  | .ifCond _ _ | .if_icmp _ _ | .lcmp | .tableswitch _ _ _ _ | .lookupswitch _ _ | .iaload | .laload | .aaload | .baload | .lshl | .lshr | .lushr | .land | .lor | .i2l | .l2i | .ireturn | .lreturn => true
  | .iadd | .isub | .imul | .iand | .ishl | .ishr | .iushr | .irem | .idiv | .ior | .ixor | .ineg | .ladd | .lsub | .lxor | .i2b | .i2c | .i2s | .iastore | .lastore | .bastore | .aastore | .newarray _ | .anewarray _ | .putfield _ => true
  | _ => false
def zy_b1 (k : Nat) (b : Bool) (m : Int) (bx : zy_B) : zy_B := if b then (k, m, m) :: bx else (k, (zy_iv k bx).1, m) :: bx
def zy_b2 (k : Nat) (b : Bool) (m : Int) (bx : zy_B) : zy_B := if b then (64 + k, m, m) :: bx else (k, m + 1, (zy_iv k bx).2) :: bx
abbrev zy_R : Type := zy_B × zx_O × zx_H
/-! one step, cut in small pieces (each is unfolded only where it is come to); rec: the rest of the run -/
abbrev zy_Rec : Type := Nat → Nat → zy_B → zx_F → zx_H → Except Nat (List zy_R)
noncomputable def zy_k9 (mi oc : Nat) (hh : List (Nat × Nat × Nat × Nat)) (bx : zy_B) (f0 : zx_F) (h : zx_H) (st0 : List Value) (ins : Instr) (len : Nat) : Except Nat (List zy_R) :=
  match (zy_tc ins len).bind fun g => g mi oc f0.1 st0 with
  | some ci => if hh = [] ∧ h.length < zx_lim then .ok [(bx, .inr ci, h ++ [.inr (ci, [])])] else .error (mi * 100000 + f0.1 * 10 + 9)
  | none => .error (mi * 100000 + f0.1 * 10)
noncomputable def zy_kr (rec : zy_Rec) (d' mi nL oc : Nat) (hh : List (Nat × Nat × Nat × Nat)) (f0 : zx_F) (len : Nat) (rest : List Value) (r : zy_R) : Except Nat (List zy_R) := match r with
  | (bx', .inl v, h') => zy_F false (f0.1 + len, f0.2.1, v.toList ++ rest) fun f' => rec (d' + 1) mi bx' f' h'
  | (bx', .inr E, h') => match zy_hd oc f0.1 E hh with
    | none => .error (mi * 100000 + f0.1 * 10 + 7)
    | some none => .ok [(bx', .inr E, h')]
    | some (some hp) => match zy_ca mi nL hp f0.2.1 with
      | none => .error (mi * 100000 + f0.1 * 10 + 8)
      | some f' => zy_F true f' fun f' => rec (d' + 1) mi bx' f' h'
noncomputable def zy_k8 (rec : zy_Rec) (d mi nL oc : Nat) (hh : List (Nat × Nat × Nat × Nat)) (bx : zy_B) (f0 : zx_F) (h : zx_H) (st0 : List Value) (ins : Instr) (len : Nat) : Except Nat (List zy_R) :=
  match (zy_cc ins len).bind fun g => g oc st0 h with
  | some (mj, as, rest) => match d with
    | 0 => .error (mi * 100000 + f0.1 * 10 + 6)
    | d' + 1 => match zy_F true (0, lv_args 0 as, []) fun f' => rec d' mj bx f' h with
      | .error e => .error e
      | .ok l1 => zy_all (zy_kr rec d' mi nL oc hh f0 len rest) l1
  | none => zy_k9 mi oc hh bx f0 h st0 ins len
noncomputable def zy_k7 (rec : zy_Rec) (d mi nL : Nat) (ret : Option FieldType) (oc : Nat) (hh : List (Nat × Nat × Nat × Nat)) (bx : zy_B) (f0 : zx_F) (h : zx_H) (st0 : List Value) (ins : Instr) (len : Nat) : Except Nat (List zy_R) :=
  match (zy_rc ins len).bind fun g => g ret st0 with
  | some v => if v.toList.all zy_u then .ok [(bx, .inl v, h)] else .error (mi * 100000 + f0.1 * 10 + 5)
  | none => zy_k8 rec d mi nL oc hh bx f0 h st0 ins len
noncomputable def zy_k6 (rec : zy_Rec) (nf sb : Bool) (d mi nL : Nat) (ret : Option FieldType) (oc : Nat) (hh : List (Nat × Nat × Nat × Nat)) (bx : zy_B) (f0 : zx_F) (h : zx_H) (st0 : List Value) (ins : Instr) (len : Nat) : Except Nat (List zy_R) :=
  match (zy_h2c ins len).bind fun g => g oc ((0, fun _ => 0), nf) f0.1 f0.2.1 st0 h with
  | some (f', h') => if decide (h.length ≤ zx_lim) && (zy_hk2 ins).any fun g => g sb st0 f' then zy_F false f' fun f' => rec d mi bx f' h' else .error (mi * 100000 + f0.1 * 10 + 4)
  | none => zy_k7 rec d mi nL ret oc hh bx f0 h st0 ins len
noncomputable def zy_k5 (rec : zy_Rec) (nf sb : Bool) (d mi nL : Nat) (ret : Option FieldType) (oc hs : Nat) (hh : List (Nat × Nat × Nat × Nat)) (bx : zy_B) (f0 : zx_F) (h : zx_H) (st0 : List Value) (ins : Instr) (len : Nat) : Except Nat (List zy_R) :=
  match (zy_hc ins len).bind fun g => g oc (hs == 2) ((0, fun _ => 0), nf) f0.1 f0.2.1 st0 h with
  | some (f', h') => if (zy_hk ins).any fun g => g st0 f' then zy_F false f' fun f' => rec d mi bx f' h' else .error (mi * 100000 + f0.1 * 10 + 3)
  | none => zy_k6 rec nf sb d mi nL ret oc hh bx f0 h st0 ins len
noncomputable def zy_k4 (rec : zy_Rec) (nf sb : Bool) (d mi nL : Nat) (ret : Option FieldType) (oc hs : Nat) (hh : List (Nat × Nat × Nat × Nat)) (bx : zy_B) (f0 : zx_F) (h : zx_H) (st0 : List Value) (ins : Instr) (len : Nat) : Except Nat (List zy_R) :=
  match (zy_pc ins len).bind fun g => g nL f0.1 f0.2.1 (((zy_cp ins).bind fun g => g bx st0).getD st0) with
  | some f' => if (zy_pk ins).any fun g => g f0.2.1 (((zy_cp ins).bind fun g => g bx st0).getD st0) f' then zy_F (zy_sto ins) f' fun f' => rec d mi bx f' h else .error (mi * 100000 + f0.1 * 10 + 2)
  | none => zy_k5 rec nf sb d mi nL ret oc hs hh bx f0 h st0 ins len
noncomputable def zy_k3 (rec : zy_Rec) (nf sb : Bool) (d mi nL : Nat) (ret : Option FieldType) (oc hs : Nat) (hh : List (Nat × Nat × Nat × Nat)) (bx : zy_B) (f0 : zx_F) (h : zx_H) (st0 : List Value) (ins : Instr) (len : Nat) : Except Nat (List zy_R) :=
  match (zy_q ins).bind fun g => g bx st0 with
  | some (c, b, m) => if 64 ≤ c then .error 0 else match (bif zy_bad c (zy_b1 c b m bx) then .ok [] else rec d mi (zy_b1 c b m bx) f0 h) with
    | .ok l1 => match (bif zy_bad c (zy_b2 c b m bx) then .ok [] else rec d mi (zy_b2 c b m bx) f0 h) with
      | .ok l2 => .ok (l1 ++ l2)
      | .error e => .error e
    | .error e => .error e
  | none => zy_k4 rec nf sb d mi nL ret oc hs hh bx f0 h st0 ins len
noncomputable def zy_k2 (rec : zy_Rec) (nf sb : Bool) (d mi nL : Nat) (ret : Option FieldType) (oc hs : Nat) (hh : List (Nat × Nat × Nat × Nat)) (bx : zy_B) (f0 : zx_F) (h : zx_H) (st0 : List Value) (ins : Instr) (len : Nat) : Except Nat (List zy_R) :=
  match (zy_op ins len).bind fun g => g bx f0.2.2 with
  | some st' => zy_F false (f0.1 + len, f0.2.1, st') fun f' => rec d mi bx f' h
  | none => zy_k3 rec nf sb d mi nL ret oc hs hh bx f0 h st0 ins len
noncomputable def zy_k1 (rec : zy_Rec) (nf sb : Bool) (d mi : Nat) (bx : zy_B) (f0 : zx_F) (h : zx_H) : Except Nat (List zy_R) := match zy_nth zt_m mi with
  | none => .error 0
  | some (_, _, nL, ret, hh, oc, _, _, hs, _, _) => match zd mi f0.1 with
    | none => .error 0
    | some (ins, len) => zy_fm (if zy_cs ins then zy_nm bx f0.2.2 else f0.2.2) fun st0 => zy_k2 rec nf sb d mi nL ret oc hs hh bx f0 h st0 ins len
noncomputable def zy_run (nf sb : Bool) : Nat → zy_Rec
  | 0, _, mi, _, f0, _ => .error (mi * 100000 + f0.1 * 10 + 1)
  | n + 1, d, mi, bx, f0, h => zy_k1 (zy_run nf sb n) nf sb d mi bx f0 h
def zy_ok (L : Except Nat (List zy_R)) : Bool := match L with
  | .ok l => l.all (fun r => match r with
    | (_, .inl (some (.int x)), h) => decide (x = 1) && (decide (h.length ≤ 2000) && decide (zx_sz h ≤ 200000))
    | _ => false)
  | .error _ => false
/-- the law, what is known of the script being bx: it comes to the end with 1 -/
noncomputable def zy_arm (nf sb : Bool) (bx : zy_B) : Bool := zy_ok (zy_run nf sb 20000 40 0 bx (0, [(0, .ref zx_lim)], []) [])

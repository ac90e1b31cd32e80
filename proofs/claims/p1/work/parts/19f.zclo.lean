/-! ===== the evaluator's steps as functions of the instruction alone: what an instruction is, is then reckoned once ===== -/
noncomputable def zy_nth {α : Type} (l : List α) : Nat → Option α := List.rec (motive := fun _ => Nat → Option α) (fun _ => none) (fun a _ ih n => Nat.rec (motive := fun _ => Option α) (some a) (fun m _ => ih m) n) l
noncomputable def zy_set {α : Type} (l : List α) : Nat → α → List α := List.rec (motive := fun _ => Nat → α → List α) (fun _ _ => []) (fun a l ih n e => Nat.rec (motive := fun _ => List α) (e :: l) (fun m _ => a :: ih m e) n) l
theorem zy_nth_eq {α : Type} (l : List α) (n : Nat) : zy_nth l n = l[n]? := by
  induction l generalizing n with
  | nil => rfl
  | cons a l ih => cases n with
    | zero => rfl
    | succ m => show zy_nth l m = _; rw [ih]; rfl
theorem zy_set_eq {α : Type} (l : List α) (n : Nat) (e : α) : zy_set l n e = l.set n e := by
  induction l generalizing n with
  | nil => rfl
  | cons a l ih => cases n with
    | zero => rfl
    | succ m => show a :: zy_set l m e = _; rw [ih]; rfl
noncomputable def zy_fp {β : Type} (i : Nat) (l : List (Nat × β)) : Option β := List.rec (motive := fun _ => Option β) none (fun q _ ih => Bool.rec (motive := fun _ => Option β) ih (some q.2) (Nat.beq q.1 i)) l
theorem zy_fp_eq {β : Type} (i : Nat) (l : List (Nat × β)) : zy_fp i l = zx_fp i l := by
  induction l with
  | nil => rfl
  | cons q l ih =>
    obtain ⟨j, v⟩ := q
    show Bool.rec (motive := fun _ => Option β) (zy_fp i l) (some v) (Nat.beq j i) = _
    unfold zx_fp
    cases hb : Nat.beq j i with
    | true => rw [if_pos (Nat.eq_of_beq_eq_true hb)]
    | false => rw [if_neg (Nat.ne_of_beq_eq_false hb)]; exact ih
noncomputable def zy_pool (oc i : Nat) : Option (Nat × Nat × Nat × Nat) := (zy_nth zt_pl oc).bind (zy_fp i)
theorem zy_pool_eq (oc i : Nat) : zy_pool oc i = zx_pool oc i := by
  unfold zy_pool zx_pool
  rw [zy_nth_eq]
  exact congrArg _ (funext (zy_fp_eq i))
noncomputable def zy_lng (oc i : Nat) : Option (Int64 × Nat) := (zy_nth zt_lc oc).bind (zy_fp i)
theorem zy_lng_eq (oc i : Nat) : zy_lng oc i = zx_lng oc i := by
  unfold zy_lng zx_lng
  rw [zy_nth_eq]
  exact congrArg _ (funext (zy_fp_eq i))
noncomputable def zy_getf (oc i q : Nat) (h : zx_H) : Option Value := match zy_pool oc i with
  | some (kd, ci, k, _) => match zy_nth h q with
    | some (.inr (cj, fs)) => if kd ≤ 1 ∧ cj = ci then fs[k]? else none
    | _ => none
  | none => none
theorem zy_getf_eq (oc i q : Nat) (h : zx_H) : zy_getf oc i q h = zx_getf oc i q h := by
  unfold zy_getf zx_getf
  simp only [zy_pool_eq, zy_nth_eq, zy_set_eq]
  try rfl
noncomputable def zy_putf (oc i q : Nat) (ini : Bool) (v : Value) (h : zx_H) : Option zx_H := match zy_pool oc i with
  | some (kd, ci, k, _) => match zy_nth h q with
    | some (.inr (cj, fs)) => if cj = ci ∧ k < fs.length ∧ narrow (zx_ftype ci k) v = v ∧ fits (zx_ftype ci k) v = true ∧
        ((kd ≤ 1 ∧ zx_fin ci k = false) ∨ (kd = 0 ∧ ini = true ∧ zx_fin ci k = true ∧ oc = ci ∧ zx_own ci k = true)) then some (zy_set h q (.inr (ci, fs.set k v))) else none
    | _ => none
  | none => none
theorem zy_putf_eq (oc i q : Nat) (ini : Bool) (v : Value) (h : zx_H) : zy_putf oc i q ini v h = zx_putf oc i q ini v h := by
  unfold zy_putf zx_putf
  simp only [zy_pool_eq, zy_nth_eq, zy_set_eq]
  try rfl
noncomputable def zy_ob (h : zx_H) (k : Nat) : Bool := match zy_nth h k with
  | some (.inr (ci, _)) => decide (ci < zt_x0)
  | some (.inl (t, _)) => decide (t < zt_at.length)
  | none => match zx_x k with
    | some (.object _, .inr _) => true
    | _ => false
theorem zy_ob_eq (h : zx_H) (k : Nat) : zy_ob h k = zx_ob h k := by
  unfold zy_ob zx_ob
  simp only [zy_pool_eq, zy_nth_eq, zy_set_eq]
  try rfl
noncomputable def zy_kl (h : zx_H) (q : Nat) : Option Nat := match zy_nth h q with
  | some (.inr (ci, _)) => some ci
  | some (.inl _) => none
  | none => match zx_x q with
    | some (.object _, .inr (ci, _)) => if ci = 999 then none else some ci
    | _ => none
theorem zy_kl_eq (h : zx_H) (k : Nat) : zy_kl h k = zx_kl h k := by
  unfold zy_kl zx_kl
  simp only [zy_nth_eq]
  try rfl
def zy_pc : Instr → Nat → Option (Nat → Nat → List (Nat × Value) → List Value → Option zx_F)
  | .iconst n, 1 => some fun nL pc lv st => some (pc + 1, lv, .int (Int32.ofInt n) :: st)
  | .bipush n, 2 => some fun nL pc lv st => some (pc + 2, lv, .int (Int8.ofInt n).toInt32 :: st)
  | .sipush n, 3 => some fun nL pc lv st => some (pc + 3, lv, .int (Int16.ofInt n).toInt32 :: st)
  | .lconst n, 1 => some fun nL pc lv st => some (pc + 1, lv, .long (Int64.ofNat (n : Nat)) :: st)
  | .aconst_null, 1 => some fun nL pc lv st => some (pc + 1, lv, .null :: st)
  | .fconst n, 1 => some fun nL pc lv st => if (n : Nat) = 0 then some (pc + 1, lv, .float FP.fconst0 :: st) else none
  | .dconst n, 1 => some fun nL pc lv st => if (n : Nat) = 0 then some (pc + 1, lv, .double FP.dconst0 :: st) else none
  | .iload_n k, 1 => some fun nL pc lv st => zx_ld 0 k 1 pc lv st
  | .lload_n k, 1 => some fun nL pc lv st => zx_ld 1 k 1 pc lv st
  | .fload_n k, 1 => some fun nL pc lv st => zx_ld 2 k 1 pc lv st
  | .dload_n k, 1 => some fun nL pc lv st => zx_ld 3 k 1 pc lv st
  | .aload_n k, 1 => some fun nL pc lv st => zx_ld 4 k 1 pc lv st
  | .iload k, 2 => some fun nL pc lv st => zx_ld 0 k 2 pc lv st
  | .lload k, 2 => some fun nL pc lv st => zx_ld 1 k 2 pc lv st
  | .fload k, 2 => some fun nL pc lv st => zx_ld 2 k 2 pc lv st
  | .dload k, 2 => some fun nL pc lv st => zx_ld 3 k 2 pc lv st
  | .aload k, 2 => some fun nL pc lv st => zx_ld 4 k 2 pc lv st
  | .istore_n k, 1 => some fun nL pc lv st => zx_sv 0 nL k 1 pc lv st
  | .lstore_n k, 1 => some fun nL pc lv st => zx_sv 1 nL k 1 pc lv st
  | .fstore_n k, 1 => some fun nL pc lv st => zx_sv 2 nL k 1 pc lv st
  | .dstore_n k, 1 => some fun nL pc lv st => zx_sv 3 nL k 1 pc lv st
  | .astore_n k, 1 => some fun nL pc lv st => zx_sv 4 nL k 1 pc lv st
  | .istore k, 2 => some fun nL pc lv st => zx_sv 0 nL k 2 pc lv st
  | .lstore k, 2 => some fun nL pc lv st => zx_sv 1 nL k 2 pc lv st
  | .fstore k, 2 => some fun nL pc lv st => zx_sv 2 nL k 2 pc lv st
  | .dstore k, 2 => some fun nL pc lv st => zx_sv 3 nL k 2 pc lv st
  | .astore k, 2 => some fun nL pc lv st => zx_sv 4 nL k 2 pc lv st
  | .iinc i n, 3 => some fun nL pc lv st => match zx_lk i lv with
    | some (.int x) => if i < nL then some (pc + 3, zx_s1 i (.int (x + Int32.ofInt n)) lv, st) else none
    | _ => none
  | .goto off, 3 => some fun nL pc lv st => (zx_j pc off).map fun t => (t, lv, st)
  | .ifCond cd off, 3 => some fun nL pc lv st => match st with
    | .int x :: r => match cd with
      | .eq => zx_br (decide (x = 0)) pc off lv r
      | .ne => zx_br (decide (¬ x = 0)) pc off lv r
      | .lt => zx_br (decide (x < 0)) pc off lv r
      | .ge => zx_br (decide (0 ≤ x)) pc off lv r
      | .gt => zx_br (decide (0 < x)) pc off lv r
      | .le => zx_br (decide (x ≤ 0)) pc off lv r
    | _ => none
  | .if_icmp cd off, 3 => some fun nL pc lv st => match st with
    | .int y :: .int x :: r => match cd with
      | .eq => zx_br (decide (x = y)) pc off lv r
      | .ne => zx_br (decide (¬ x = y)) pc off lv r
      | .lt => zx_br (decide (x < y)) pc off lv r
      | .ge => zx_br (decide (y ≤ x)) pc off lv r
      | .gt => zx_br (decide (y < x)) pc off lv r
      | .le => zx_br (decide (x ≤ y)) pc off lv r
    | _ => none
  | .ifnull off, 3 => some fun nL pc lv st => match st with
    | .null :: r => zx_br true pc off lv r
    | .ref _ :: r => zx_br false pc off lv r
    | _ => none
  | .ifnonnull off, 3 => some fun nL pc lv st => match st with
    | .null :: r => zx_br false pc off lv r
    | .ref _ :: r => zx_br true pc off lv r
    | _ => none
  | .iadd, 1 => some fun nL pc lv st => match st with | .int y :: .int x :: r => some (pc + 1, lv, .int (x + y) :: r) | _ => none
  | .isub, 1 => some fun nL pc lv st => match st with | .int y :: .int x :: r => some (pc + 1, lv, .int (x - y) :: r) | _ => none
  | .imul, 1 => some fun nL pc lv st => match st with | .int y :: .int x :: r => some (pc + 1, lv, .int (x * y) :: r) | _ => none
  | .iand, 1 => some fun nL pc lv st => match st with | .int y :: .int x :: r => some (pc + 1, lv, .int (x &&& y) :: r) | _ => none
  | .ior, 1 => some fun nL pc lv st => match st with | .int y :: .int x :: r => some (pc + 1, lv, .int (x ||| y) :: r) | _ => none
  | .ixor, 1 => some fun nL pc lv st => match st with | .int y :: .int x :: r => some (pc + 1, lv, .int (x ^^^ y) :: r) | _ => none
  | .ishl, 1 => some fun nL pc lv st => match st with | .int y :: .int x :: r => some (pc + 1, lv, .int (x <<< (y &&& 31)) :: r) | _ => none
  | .ishr, 1 => some fun nL pc lv st => match st with | .int y :: .int x :: r => some (pc + 1, lv, .int (x >>> (y &&& 31)) :: r) | _ => none
  | .iushr, 1 => some fun nL pc lv st => match st with | .int y :: .int x :: r => some (pc + 1, lv, .int (x.toUInt32 >>> (y.toUInt32 &&& Int32.toUInt32 31)).toInt32 :: r) | _ => none
  | .idiv, 1 => some fun nL pc lv st => match st with | .int y :: .int x :: r => if y = 0 then none else some (pc + 1, lv, .int (x / y) :: r) | _ => none
  | .irem, 1 => some fun nL pc lv st => match st with | .int y :: .int x :: r => if y = 0 then none else some (pc + 1, lv, .int (x - x / y * y) :: r) | _ => none
  | .ineg, 1 => some fun nL pc lv st => match st with | .int x :: r => some (pc + 1, lv, .int (-x) :: r) | _ => none
  | .ladd, 1 => some fun nL pc lv st => match st with | .long y :: .long x :: r => some (pc + 1, lv, .long (x + y) :: r) | _ => none
  | .lsub, 1 => some fun nL pc lv st => match st with | .long y :: .long x :: r => some (pc + 1, lv, .long (x - y) :: r) | _ => none
  | .lmul, 1 => some fun nL pc lv st => match st with | .long y :: .long x :: r => some (pc + 1, lv, .long (x * y) :: r) | _ => none
  | .land, 1 => some fun nL pc lv st => match st with | .long y :: .long x :: r => some (pc + 1, lv, .long (x &&& y) :: r) | _ => none
  | .lor, 1 => some fun nL pc lv st => match st with | .long y :: .long x :: r => some (pc + 1, lv, .long (x ||| y) :: r) | _ => none
  | .lxor, 1 => some fun nL pc lv st => match st with | .long y :: .long x :: r => some (pc + 1, lv, .long (x ^^^ y) :: r) | _ => none
  | .ldiv, 1 => some fun nL pc lv st => match st with | .long y :: .long x :: r => if y = 0 then none else some (pc + 1, lv, .long (x / y) :: r) | _ => none
  | .lrem, 1 => some fun nL pc lv st => match st with | .long y :: .long x :: r => if y = 0 then none else some (pc + 1, lv, .long (x - x / y * y) :: r) | _ => none
  | .lneg, 1 => some fun nL pc lv st => match st with | .long x :: r => some (pc + 1, lv, .long (-x) :: r) | _ => none
  | .lshl, 1 => some fun nL pc lv st => match st with | .int y :: .long x :: r => some (pc + 1, lv, .long (x <<< (y.toInt64 &&& 63)) :: r) | _ => none
  | .lshr, 1 => some fun nL pc lv st => match st with | .int y :: .long x :: r => some (pc + 1, lv, .long (x >>> (y.toInt64 &&& 63)) :: r) | _ => none
  | .lushr, 1 => some fun nL pc lv st => match st with | .int y :: .long x :: r => some (pc + 1, lv, .long (x.toUInt64 >>> (y.toInt64.toUInt64 &&& Int64.toUInt64 63)).toInt64 :: r) | _ => none
  | .lcmp, 1 => some fun nL pc lv st => match st with | .long y :: .long x :: r => some (pc + 1, lv, .int (lg_cmp x y) :: r) | _ => none
  | .i2l, 1 => some fun nL pc lv st => match st with | .int x :: r => some (pc + 1, lv, .long x.toInt64 :: r) | _ => none
  | .l2i, 1 => some fun nL pc lv st => match st with | .long x :: r => some (pc + 1, lv, .int x.toInt32 :: r) | _ => none
  | .i2b, 1 => some fun nL pc lv st => match st with | .int x :: r => some (pc + 1, lv, .int x.toInt8.toInt32 :: r) | _ => none
  | .i2s, 1 => some fun nL pc lv st => match st with | .int x :: r => some (pc + 1, lv, .int x.toInt16.toInt32 :: r) | _ => none
  | .i2c, 1 => some fun nL pc lv st => match st with | .int x :: r => some (pc + 1, lv, .int (x.toUInt32 % 65536).toInt32 :: r) | _ => none
  | .i2f, 1 => some fun nL pc lv st => match st with | .int x :: r => some (pc + 1, lv, .float (FP.i2f x) :: r) | _ => none
  | .i2d, 1 => some fun nL pc lv st => match st with | .int x :: r => some (pc + 1, lv, .double (FP.i2d x) :: r) | _ => none
  | .l2d, 1 => some fun nL pc lv st => match st with | .long x :: r => some (pc + 1, lv, .double (FP.l2d x) :: r) | _ => none
  | .fdiv, 1 => some fun nL pc lv st => match st with | .float y :: .float x :: r => if FP.fdiv x y &&& 0x7fffffff ≤ 0x7f800000 then some (pc + 1, lv, .float (FP.fdiv x y) :: r) else none | _ => none
  | .ddiv, 1 => some fun nL pc lv st => match st with | .double y :: .double x :: r => if FP.ddiv x y &&& 0x7fffffffffffffff ≤ 0x7ff0000000000000 then some (pc + 1, lv, .double (FP.ddiv x y) :: r) else none | _ => none
  | .f2d, 1 => some fun nL pc lv st => match st with | .float x :: r => if FP.f2d x &&& 0x7fffffffffffffff ≤ 0x7ff0000000000000 then some (pc + 1, lv, .double (FP.f2d x) :: r) else none | _ => none
  | .fcmp op, 1 => some fun nL pc lv st => match st with | .float y :: .float x :: r => some (pc + 1, lv, .int (Op.cmpValue (FP.fcmp x y) op) :: r) | _ => none
  | .dcmp op, 1 => some fun nL pc lv st => match st with | .double y :: .double x :: r => some (pc + 1, lv, .int (Op.cmpValue (FP.dcmp x y) op) :: r) | _ => none
  | .dup, 1 => some fun nL pc lv st => match st with | x :: r => if x.category = 1 then some (pc + 1, lv, x :: x :: r) else none | _ => none
  | .pop, 1 => some fun nL pc lv st => match st with | x :: r => if x.category = 1 then some (pc + 1, lv, r) else none | _ => none
  | .dup_x1, 1 => some fun nL pc lv st => match st with | x :: y :: r => if x.category = 1 ∧ y.category = 1 then some (pc + 1, lv, x :: y :: x :: r) else none | _ => none
  | .dup2, 1 => some fun nL pc lv st => match st with
    | x :: y :: r => if x.category = 1 ∧ y.category = 1 then some (pc + 1, lv, x :: y :: x :: y :: r) else none
    | _ => none
  | .tableswitch dflt lo hi offs, _ => some fun nL pc lv st => match st with
    | .int x :: r => if x.toInt < lo ∨ hi < x.toInt then (zx_j pc dflt).map fun t => (t, lv, r) else
      match offs[(x.toInt - lo).toNat]? with
      | some off => (zx_j pc off).map fun t => (t, lv, r)
      | none => none
    | _ => none
  | .lookupswitch dflt ps, _ => some fun nL pc lv st => match st with
    | .int x :: r => if (ps.toList.zip (ps.toList.drop 1)).all (fun (a, next) => a.1 < next.1) then (zx_j pc (Op.lookupswitch.offset ps.toList dflt x.toInt)).map fun t => (t, lv, r) else none
    | _ => none
  | _, _ => none
noncomputable def zy_hc : Instr → Nat → Option (Nat → Bool → (Nat × (Nat → Int32)) × Bool → Nat → List (Nat × Value) → List Value → zx_H → Option (zx_F × zx_H))
  | .getfield i, 3 => some fun oc ini sc pc lv st h => match st with
    | .ref q :: r => (zy_getf oc i q h).map fun v => ((pc + 3, lv, v :: r), h)
    | _ => none
  | .putfield i, 3 => some fun oc ini sc pc lv st h => match st with
    | v :: .ref q :: r => (zy_putf oc i q ini v h).map fun h' => ((pc + 3, lv, r), h')
    | _ => none
  | .new i, 3 => some fun oc ini sc pc lv st h => match zy_pool oc i with
    | some (kd, ci, _, _) => if kd = 2 ∧ ci < zt_x0 ∧ h.length < zx_lim then some ((pc + 3, lv, .ref h.length :: st), h ++ [.inr (ci, zx_def ci)]) else none
    | none => none
  | .newarray ty, 2 => some fun oc ini sc pc lv st h => match st with
    | .int n :: r => match zx_at (newarray.typeOf ty), zx_arr (newarray.typeOf ty) n.toNatClampNeg with
      | some t, some a0 => if ¬ n < 0 ∧ n.toNatClampNeg * componentBytes (newarray.typeOf ty) ≤ 536870912 ∧ h.length < zx_lim then some ((pc + 2, lv, .ref h.length :: r), h ++ [.inl (t, a0)]) else none
      | _, _ => none
    | _ => none
  | .anewarray i, 3 => some fun oc ini sc pc lv st h => match st with
    | .int n :: r => match zy_pool oc i with
      | some (kd, _, t, _) => match zy_nth zt_at t with
        | some (.object _) => if kd = 2 ∧ ¬ n < 0 ∧ n.toNatClampNeg * 4 ≤ 536870912 ∧ h.length < zx_lim then some ((pc + 3, lv, .ref h.length :: r), h ++ [.inl (t, n.toNatClampNeg, .inr (.inr (.inr (.inr (fun _ => none)))))]) else none
        | _ => none
      | none => none
    | _ => none
  | .arraylength, 1 => some fun oc ini sc pc lv st h => match st with
    | .ref q :: r => if q = zx_lim then some ((pc + 1, lv, .int (Int32.ofNat sc.1.1) :: r), h) else match zy_nth h q with
      | some (.inl (t, n, _)) => if (zy_nth zt_at t).isSome then some ((pc + 1, lv, .int (Int32.ofNat n) :: r), h) else none
      | _ => none
    | _ => none
  | .iaload, 1 => some fun oc ini sc pc lv st h => match st with
    | .int i :: .ref q :: r => if q = zx_lim then (if zx_in i sc.1.1 then some ((pc + 1, lv, .int (sc.1.2 i.toNatClampNeg) :: r), h) else none) else match zy_nth h q with
      | some (.inl (t, n, .inl f)) => if zy_nth zt_at t = some .int ∧ zx_in i n then some ((pc + 1, lv, .int (f i.toNatClampNeg) :: r), h) else none
      | _ => none
    | _ => none
  | .laload, 1 => some fun oc ini sc pc lv st h => match st with
    | .int i :: .ref q :: r => match zy_nth h q with
      | some (.inl (t, n, .inr (.inl f))) => if zy_nth zt_at t = some .long ∧ zx_in i n then some ((pc + 1, lv, .long (f i.toNatClampNeg) :: r), h) else none
      | _ => none
    | _ => none
  | .daload, 1 => some fun oc ini sc pc lv st h => match st with
    | .int i :: .ref q :: r => match zy_nth h q with
      | some (.inl (t, n, .inr (.inr (.inr (.inl f))))) => if zy_nth zt_at t = some .double ∧ zx_in i n then some ((pc + 1, lv, .double (f i.toNatClampNeg) :: r), h) else none
      | _ => none
    | _ => none
  | .baload, 1 => some fun oc ini sc pc lv st h => match st with
    | .int i :: .ref q :: r => match zy_nth h q with
      | some (.inl (t, n, .inl f)) => if (zy_nth zt_at t = some .boolean ∨ zy_nth zt_at t = some .byte) ∧ zx_in i n then some ((pc + 1, lv, .int (f i.toNatClampNeg) :: r), h) else none
      | _ => none
    | _ => none
  | .aaload, 1 => some fun oc ini sc pc lv st h => match st with
    | .int i :: .ref q :: r => match zy_nth h q with
      | some (.inl (t, n, .inr (.inr (.inr (.inr f))))) => match zy_nth zt_at t with
        | some (.object _) => if zx_in i n then some ((pc + 1, lv, zx_rf (f i.toNatClampNeg) :: r), h) else none
        | _ => none
      | _ => none
    | _ => none
  | .iastore, 1 => some fun oc ini sc pc lv st h => match st with
    | .int x :: .int i :: .ref q :: r => match zy_nth h q with
      | some (.inl (t, n, .inl f)) => if zy_nth zt_at t = some .int ∧ zx_in i n then some ((pc + 1, lv, r), zy_set h q (.inl (t, n, .inl (upd f i.toNatClampNeg x)))) else none
      | _ => none
    | _ => none
  | .lastore, 1 => some fun oc ini sc pc lv st h => match st with
    | .long x :: .int i :: .ref q :: r => match zy_nth h q with
      | some (.inl (t, n, .inr (.inl f))) => if zy_nth zt_at t = some .long ∧ zx_in i n then some ((pc + 1, lv, r), zy_set h q (.inl (t, n, .inr (.inl (vp_updL f i.toNatClampNeg x))))) else none
      | _ => none
    | _ => none
  | .aastore, 1 => some fun oc ini sc pc lv st h => match st with
    | .null :: .int i :: .ref q :: r => match zy_nth h q with
      | some (.inl (t, n, .inr (.inr (.inr (.inr f))))) => match zy_nth zt_at t with
        | some (.object _) => if zx_in i n then some ((pc + 1, lv, r), zy_set h q (.inl (t, n, .inr (.inr (.inr (.inr (va_up f i.toNatClampNeg none))))))) else none
        | _ => none
      | _ => none
    | .ref k :: .int i :: .ref q :: r => match zy_nth h q with
      | some (.inl (t, n, .inr (.inr (.inr (.inr f))))) => match zy_nth zt_at t, zt_atc[t]?, zy_nth h k with
        | some (.object _), some cj, some (.inr (ci, _)) => if ci = cj ∧ cj ≠ 999 ∧ zx_in i n then some ((pc + 1, lv, r), zy_set h q (.inl (t, n, .inr (.inr (.inr (.inr (va_up f i.toNatClampNeg (some k)))))))) else none
        | _, _, _ => none
      | _ => none
    | _ => none
  | .if_acmp cd off, 3 => some fun oc ini sc pc lv st h => match st with
    | y :: x :: r => match zx_or x, zx_or y with
      | some u, some w => match cd with
        | .eq => (zx_br (decide (u = w)) pc off lv r).map fun f => (f, h)
        | .ne => (zx_br (decide (¬ u = w)) pc off lv r).map fun f => (f, h)
      | _, _ => none
    | _ => none
  | .dastore, 1 => some fun oc ini sc pc lv st h => match st with
    | .double x :: .int i :: .ref q :: r => match zy_nth h q with
      | some (.inl (t, n, .inr (.inr (.inr (.inl f))))) => if zy_nth zt_at t = some .double ∧ zx_in i n then some ((pc + 1, lv, r), zy_set h q (.inl (t, n, .inr (.inr (.inr (.inl (vf_upd f i.toNatClampNeg x))))))) else none
      | _ => none
    | _ => none
  | .invokespecial i, 3 => some fun oc ini sc pc lv st h => match st with
    | .ref _ :: r => match zy_pool oc i with
      | some (kd, _, _, _) => if kd = 10 ∧ (r.map fun v => v.category).sum ≤ 8 then some ((pc + 3, lv, r), h) else none
      | none => none
    | _ => none
  | .ldc2_w i, 3 => some fun oc ini sc pc lv st h => (zy_lng oc i).map fun q => ((pc + 3, lv, .long q.1 :: st), h)
  | _, _ => none
noncomputable def zy_h2c : Instr → Nat → Option (Nat → (Nat × (Nat → Int32)) × Bool → Nat → List (Nat × Value) → List Value → zx_H → Option (zx_F × zx_H))
  | .getfield i, 3 => some fun oc sc pc lv st h => match st with
    | .ref q :: r => match zy_pool oc i, zx_x q with
      | some (0, ci, k, _), some (.object _, .inr (cj, fs)) => if cj = ci then match fs[k]? with
          | some (.retAddr _) => none
          | some v => some ((pc + 3, lv, v :: r), h)
          | none => none
        else none
      | _, _ => none
    | _ => none
  | .getstatic i, 3 => some fun oc sc pc lv st h => match zy_pool oc i with
    | some (14, x, _, _) => ((zt_stv sc.2)[x]?).map fun v => ((pc + 3, lv, v :: st), h)
    | _ => none
  | .arraylength, 1 => some fun oc sc pc lv st h => match st with
    | .ref q :: r => match zx_x q with
      | some (_, .inl (_, n, _)) => some ((pc + 1, lv, .int (Int32.ofNat n) :: r), h)
      | _ => none
    | _ => none
  | .baload, 1 => some fun oc sc pc lv st h => match st with
    | .int i :: .ref q :: r => match zx_x q with
      | some (.byte, .inl (_, n, .inl f)) => if zx_in i n then some ((pc + 1, lv, .int (f i.toNatClampNeg) :: r), h) else none
      | _ => none
    | _ => none
  | .aaload, 1 => some fun oc sc pc lv st h => match st with
    | .int i :: .ref q :: r => match zx_x q with
      | some (.object _, .inl (_, n, .inr (.inr (.inr (.inr f))))) => if zx_in i n then some ((pc + 1, lv, zx_rf (f i.toNatClampNeg) :: r), h) else none
      | _ => none
    | _ => none
  | .aastore, 1 => some fun oc sc pc lv st h => match st with
    | .ref k :: .int i :: .ref q :: r => match zy_nth h q with
      | some (.inl (t, n, .inr (.inr (.inr (.inr f))))) => if t = zt_objT ∧ zt_objT ≠ 999 ∧ zy_ob h k = true ∧ zx_in i n then some ((pc + 1, lv, r), zy_set h q (.inl (t, n, .inr (.inr (.inr (.inr (va_up f i.toNatClampNeg (some k)))))))) else none
      | _ => none
    | _ => none
  | .checkcast i, 3 => some fun oc sc pc lv st h => match st with
    | .null :: r => some ((pc + 3, lv, .null :: r), h)
    | .ref k :: r => match zy_pool oc i with
      | some (2, ci, _, _) => match zy_nth h k with
        | some (.inr (cj, _)) => if cj = ci ∧ ci ≠ 999 then some ((pc + 3, lv, .ref k :: r), h) else none
        | _ => match zx_x k with
          | some (.object _, .inr (cj, _)) => if cj = ci ∧ ci ≠ 999 then some ((pc + 3, lv, .ref k :: r), h) else none
          | _ => none
      | some (18, t, _, _) => match zy_nth h k with
        | some (.inl (t', _)) => if t' = t then some ((pc + 3, lv, .ref k :: r), h) else none
        | _ => none
      | some (19, _, _, _) => if (k = zx_lim + 1 + 1 ∧ (zt_ext 1).isSome = true) ∨ (k = zx_lim + 1 + 2 ∧ (zt_ext 2).isSome = true) then some ((pc + 3, lv, .ref k :: r), h) else none
      | _ => none
    | _ => none
  | .bastore, 1 => some fun oc sc pc lv st h => match st with
    | .int x :: .int i :: .ref q :: r => match zy_nth h q with
      | some (.inl (t, n, .inl f)) => if zy_nth zt_at t = some .boolean ∧ zx_in i n then some ((pc + 1, lv, r), zy_set h q (.inl (t, n, .inl (upd f i.toNatClampNeg (vp_nar .boolean x)))))
        else if zy_nth zt_at t = some .byte ∧ zx_in i n then some ((pc + 1, lv, r), zy_set h q (.inl (t, n, .inl (upd f i.toNatClampNeg (vp_nar .byte x))))) else none
      | _ => none
    | _ => none
  | .invokestatic i, 3 => some fun oc sc pc lv st h => match zy_pool oc i with
    | some (16, _, 0, _) => match st with
      | .int y :: .int x :: r => if (r.map fun v => v.category).sum ≤ 8 then some ((pc + 3, lv, .int (if x < y then y else x) :: r), h) else none
      | _ => none
    | some (16, _, 1, _) => match st with
      | .int y :: .int x :: r => if (r.map fun v => v.category).sum ≤ 8 then some ((pc + 3, lv, .int (if y < x then y else x) :: r), h) else none
      | _ => none
    | some (16, _, 2, _) => match st with
      | .long y :: .long x :: r => if (r.map fun v => v.category).sum ≤ 8 then some ((pc + 3, lv, .long (if y < x then y else x) :: r), h) else none
      | _ => none
    | some (17, _, _, _) => match st with
      | .int len :: .int dp :: .ref q1 :: .int sp :: .ref q0 :: r => match zy_nth h q0, zy_nth h q1 with
        | some (.inl (t0, n0, .inl f)), some (.inl (t1, n1, .inl g)) => if t0 = t1 ∧ zt_at[t0]? = some .int ∧ ¬ sp < 0 ∧ ¬ dp < 0 ∧ ¬ len < 0 ∧ sp.toNatClampNeg + len.toNatClampNeg ≤ n0 ∧ dp.toNatClampNeg + len.toNatClampNeg ≤ n1 ∧ (r.map fun v => v.category).sum ≤ 8 then
            some ((pc + 3, lv, r), zy_set h q1 (.inl (t1, n1, .inl (va_cpy f g sp.toNatClampNeg dp.toNatClampNeg len.toNatClampNeg)))) else none
        | some (.inl (t0, n0, .inr (.inl f))), some (.inl (t1, n1, .inr (.inl g))) => if t0 = t1 ∧ zt_at[t0]? = some .long ∧ ¬ sp < 0 ∧ ¬ dp < 0 ∧ ¬ len < 0 ∧ sp.toNatClampNeg + len.toNatClampNeg ≤ n0 ∧ dp.toNatClampNeg + len.toNatClampNeg ≤ n1 ∧ (r.map fun v => v.category).sum ≤ 8 then
            some ((pc + 3, lv, r), zy_set h q1 (.inl (t1, n1, .inr (.inl (va_cpy f g sp.toNatClampNeg dp.toNatClampNeg len.toNatClampNeg))))) else none
        | _, _ => none
      | _ => none
    | _ => none
  | .ldc i, 2 => some fun oc sc pc lv st h => match zy_pool oc i with
    | some (13, x, 1, _) => some ((pc + 2, lv, .ref (zx_lim + 1 + x) :: st), h)
    | _ => none
  | .ldc_w i, 3 => some fun oc sc pc lv st h => match zy_pool oc i with
    | some (13, x, 1, _) => some ((pc + 3, lv, .ref (zx_lim + 1 + x) :: st), h)
    | _ => none
  | .if_acmp cd off, 3 => some fun oc sc pc lv st h => match st with
    | y :: x :: r => match zx_or2 x, zx_or2 y with
      | some u, some w => match cd with
        | .eq => (zx_br (decide (u = w)) pc off lv r).map fun f => (f, h)
        | .ne => (zx_br (decide (¬ u = w)) pc off lv r).map fun f => (f, h)
      | _, _ => none
    | _ => none
  | _, _ => none
def zy_rc : Instr → Nat → Option (Option FieldType → List Value → Option (Option Value))
  | .ireturn, 1 => some fun ret st => match st, ret with
    | [.int v], some ty => if narrow ty (.int v) = .int v then some (some (.int v)) else none
    | _, _ => none
  | .lreturn, 1 => some fun ret st => match st, ret with
    | [.long v], some .long => some (some (.long v))
    | _, _ => none
  | .freturn, 1 => some fun ret st => match st, ret with
    | [.float v], some .float => some (some (.float v))
    | _, _ => none
  | .dreturn, 1 => some fun ret st => match st, ret with
    | [.double v], some .double => some (some (.double v))
    | _, _ => none
  | .areturn, 1 => some fun ret st => match st, ret with
    | [.ref k], some (.object _) => some (some (.ref k))
    | [.ref k], some (.array _) => some (some (.ref k))
    | [.null], some (.object _) => some (some .null)
    | [.null], some (.array _) => some (some .null)
    | _, _ => none
  | .return_, 1 => some fun ret st => match st, ret with
    | [], none => some none
    | _, _ => none
  | _, _ => none
noncomputable def zy_cc : Instr → Nat → Option (Nat → List Value → zx_H → Option (Nat × List Value × List Value))
  | .invokestatic i, 3 => some fun oc st h => match zy_pool oc i with
    | some (kd, mj, _, _) => match zy_nth zt_m mj with
      | some (_, _, nL, _, hh, oj, np, _, hs, _, _) => if zt_pln[oj]? = some true ∧ (kd = 4 ∨ (kd = 5 ∧ hh = [])) ∧ hs = 1 ∧ 0 < mj ∧ np ≤ st.length ∧ zx_cs (st.drop np) ≤ 8 ∧ (lg_sl (st.take np).reverse).length ≤ nL then some (mj, (st.take np).reverse, st.drop np) else none
      | none => none
    | none => none
  | .invokevirtual i, 3 => some fun oc st h => match zy_pool oc i with
    | some (kd, mj, _, _) => match zy_nth zt_m mj with
      | some (_, _, nL, _, hh, oj, np, _, hs, hsel, _) => match st.drop np with
        | .ref q :: rest => match zy_kl h q with
          | some ci => if zt_pln[oj]? = some true ∧ (kd = 6 ∨ kd = 7) ∧ hh = [] ∧ hs = 0 ∧ hsel = 0 ∧ 0 < mj ∧ ci = oj ∧ zx_cs rest ≤ 8 ∧ (lg_sl (.ref q :: (st.take np).reverse)).length ≤ nL then some (mj, .ref q :: (st.take np).reverse, rest) else none
          | none => none
        | _ => none
      | none => none
    | none => none
  | .invokespecial i, 3 => some fun oc st h => match zy_pool oc i with
    | some (kd, mj, _, _) => match zy_nth zt_m mj with
      | some (_, _, nL, ret, hh, oj, np, _, hs, _, _) => match st.drop np with
        | .ref q :: rest => if zt_pln[oj]? = some true ∧ (kd = 8 ∨ kd = 9) ∧ hh = [] ∧ hs = 2 ∧ ret = none ∧ 0 < mj ∧ zx_cs rest ≤ 8 ∧ (lg_sl (.ref q :: (st.take np).reverse)).length ≤ nL then some (mj, .ref q :: (st.take np).reverse, rest) else none
        | _ => none
      | none => none
    | none => none
  | .invokeinterface i _, 5 => some fun oc st h => match zy_pool oc i with
    | some (11, mj, y0, _) => match zy_nth zt_m mj with
      | some (_, _, nL, _, hh, oj, np, _, hs, _, _) => match st.drop np with
        | .ref q :: rest => match zy_nth h q with
          | some (.inr (ci, _)) => if hh = [] ∧ hs = 0 ∧ zt_pln[oj]? = some true ∧ ci = oj ∧ zx_cs rest ≤ 8 ∧ (lg_sl (.ref q :: (st.take np).reverse)).length ≤ nL ∧ (zt_ift[y0]?).map (·.2) = some mj then some (mj, .ref q :: (st.take np).reverse, rest) else none
          | _ => none
        | _ => none
      | none => none
    | _ => none
  | _, _ => none

/-! ===== the evaluator with a heap: cells at places 0, 1, .. in the order in which they are made ===== -/
abbrev zx_E : Type := (Nat × vp_A) ⊕ (Nat × List Value)
abbrev zx_H : Type := List zx_E
def zx_fp {β : Type} (i : Nat) : List (Nat × β) → Option β
  | [] => none
  | (j, v) :: r => if j = i then some v else zx_fp i r
/-- what an entry of a class's pool means: kind, x, y, the place of its word -/
def zx_pool (oc i : Nat) : Option (Nat × Nat × Nat × Nat) := (zt_pl[oc]?).bind (zx_fp i)
def zx_int (oc i : Nat) : Option (Int32 × Nat) := (zt_ic[oc]?).bind (zx_fp i)
def zx_lng (oc i : Nat) : Option (Int64 × Nat) := (zt_lc[oc]?).bind (zx_fp i)
def zx_fi (ty : FieldType) : Nat → List FieldType → Option Nat
  | _, [] => none
  | k, t :: r => if t = ty then some k else zx_fi ty (k + 1) r
/-- the place of an array's component type -/
def zx_at (ty : FieldType) : Option Nat := zx_fi ty 0 zt_at
def zx_ftype (ci k : Nat) : FieldType := (zt_fty.getD ci []).getD k .int
/-- a new object's fields -/
def zx_def (ci : Nat) : List Value := (zt_fty.getD ci []).map defaultValue
def zx_sz1 : zx_E → Nat
  | .inl (_, n, _) => n
  | .inr (c, _) => zt_sz.getD c 0
def zx_sz (h : zx_H) : Nat := (h.map zx_sz1).sum
/-- a new array of numbers -/
def zx_arr (ty : FieldType) (n : Nat) : Option vp_A := match ty with
  | .int | .byte | .short | .char | .boolean => some (n, .inl (fun _ => 0))
  | .long => some (n, .inr (.inl (fun _ => 0)))
  | .float => some (n, .inr (.inr (.inl (fun _ => 0))))
  | .double => some (n, .inr (.inr (.inr (.inl (fun _ => 0)))))
  | _ => none
def zx_rf (r : Option Nat) : Value := match r with
  | none => .null
  | some k => .ref k
def zx_fin (ci k : Nat) : Bool := match zt_cl[ci]? with
  | some r => (r.2.1 k).2.2.2
  | none => true
def zx_own (ci k : Nat) : Bool := (zt_own.getD ci []).getD k false
def zx_getf (oc i q : Nat) (h : zx_H) : Option Value := match zx_pool oc i with
  | some (kd, ci, k, _) => match h[q]? with
    | some (.inr (cj, fs)) => if kd ≤ 1 ∧ cj = ci then fs[k]? else none
    | _ => none
  | none => none
def zx_putf (oc i q : Nat) (ini : Bool) (v : Value) (h : zx_H) : Option zx_H := match zx_pool oc i with
  | some (kd, ci, k, _) => match h[q]? with
    | some (.inr (cj, fs)) => if cj = ci ∧ k < fs.length ∧ narrow (zx_ftype ci k) v = v ∧ fits (zx_ftype ci k) v = true ∧
        ((kd ≤ 1 ∧ zx_fin ci k = false) ∨ (kd = 0 ∧ ini = true ∧ zx_fin ci k = true ∧ oc = ci ∧ zx_own ci k = true)) then some (h.set q (.inr (ci, fs.set k v))) else none
    | _ => none
  | none => none
/-- a reference among the cells, or null -/
def zx_or : Value → Option (Option Nat)
  | .null => some none
  | .ref k => if k < zx_lim then some (some k) else none
  | _ => none
/-- an index that lies in an array -/
abbrev zx_in (i : Int32) (n : Nat) : Prop := ¬ (i < 0 ∨ n ≤ i.toNatClampNeg)
/-- what touches the heap and goes on in the same frame; oc: the class's place, ini: a constructor, sc: the script -/
def zx_h (oc : Nat) (ini : Bool) (sc : (Nat × (Nat → Int32)) × Bool) (pc : Nat) (lv : List (Nat × Value)) (st : List Value) (h : zx_H) : Instr → Nat → Option (zx_F × zx_H)
  | .getfield i, 3 => match st with
    | .ref q :: r => (zx_getf oc i q h).map fun v => ((pc + 3, lv, v :: r), h)
    | _ => none
  | .putfield i, 3 => match st with
    | v :: .ref q :: r => (zx_putf oc i q ini v h).map fun h' => ((pc + 3, lv, r), h')
    | _ => none
  | .new i, 3 => match zx_pool oc i with
    | some (kd, ci, _, _) => if kd = 2 ∧ ci < zt_x0 ∧ h.length < zx_lim then some ((pc + 3, lv, .ref h.length :: st), h ++ [.inr (ci, zx_def ci)]) else none
    | none => none
  | .newarray ty, 2 => match st with
    | .int n :: r => match zx_at (newarray.typeOf ty), zx_arr (newarray.typeOf ty) n.toNatClampNeg with
      | some t, some a0 => if ¬ n < 0 ∧ n.toNatClampNeg * componentBytes (newarray.typeOf ty) ≤ 536870912 ∧ h.length < zx_lim then some ((pc + 2, lv, .ref h.length :: r), h ++ [.inl (t, a0)]) else none
      | _, _ => none
    | _ => none
  | .anewarray i, 3 => match st with
    | .int n :: r => match zx_pool oc i with
      | some (kd, _, t, _) => match zt_at[t]? with
        | some (.object _) => if kd = 2 ∧ ¬ n < 0 ∧ n.toNatClampNeg * 4 ≤ 536870912 ∧ h.length < zx_lim then some ((pc + 3, lv, .ref h.length :: r), h ++ [.inl (t, n.toNatClampNeg, .inr (.inr (.inr (.inr (fun _ => none)))))]) else none
        | _ => none
      | none => none
    | _ => none
  | .arraylength, 1 => match st with
    | .ref q :: r => if q = zx_lim then some ((pc + 1, lv, .int (Int32.ofNat sc.1.1) :: r), h) else match h[q]? with
      | some (.inl (t, n, _)) => if (zt_at[t]?).isSome then some ((pc + 1, lv, .int (Int32.ofNat n) :: r), h) else none
      | _ => none
    | _ => none
  | .iaload, 1 => match st with
    | .int i :: .ref q :: r => if q = zx_lim then (if zx_in i sc.1.1 then some ((pc + 1, lv, .int (sc.1.2 i.toNatClampNeg) :: r), h) else none) else match h[q]? with
      | some (.inl (t, n, .inl f)) => if zt_at[t]? = some .int ∧ zx_in i n then some ((pc + 1, lv, .int (f i.toNatClampNeg) :: r), h) else none
      | _ => none
    | _ => none
  | .laload, 1 => match st with
    | .int i :: .ref q :: r => match h[q]? with
      | some (.inl (t, n, .inr (.inl f))) => if zt_at[t]? = some .long ∧ zx_in i n then some ((pc + 1, lv, .long (f i.toNatClampNeg) :: r), h) else none
      | _ => none
    | _ => none
  | .daload, 1 => match st with
    | .int i :: .ref q :: r => match h[q]? with
      | some (.inl (t, n, .inr (.inr (.inr (.inl f))))) => if zt_at[t]? = some .double ∧ zx_in i n then some ((pc + 1, lv, .double (f i.toNatClampNeg) :: r), h) else none
      | _ => none
    | _ => none
  | .baload, 1 => match st with
    | .int i :: .ref q :: r => match h[q]? with
      | some (.inl (t, n, .inl f)) => if (zt_at[t]? = some .boolean ∨ zt_at[t]? = some .byte) ∧ zx_in i n then some ((pc + 1, lv, .int (f i.toNatClampNeg) :: r), h) else none
      | _ => none
    | _ => none
  | .aaload, 1 => match st with
    | .int i :: .ref q :: r => match h[q]? with
      | some (.inl (t, n, .inr (.inr (.inr (.inr f))))) => match zt_at[t]? with
        | some (.object _) => if zx_in i n then some ((pc + 1, lv, zx_rf (f i.toNatClampNeg) :: r), h) else none
        | _ => none
      | _ => none
    | _ => none
  | .iastore, 1 => match st with
    | .int x :: .int i :: .ref q :: r => match h[q]? with
      | some (.inl (t, n, .inl f)) => if zt_at[t]? = some .int ∧ zx_in i n then some ((pc + 1, lv, r), h.set q (.inl (t, n, .inl (upd f i.toNatClampNeg x)))) else none
      | _ => none
    | _ => none
  | .lastore, 1 => match st with
    | .long x :: .int i :: .ref q :: r => match h[q]? with
      | some (.inl (t, n, .inr (.inl f))) => if zt_at[t]? = some .long ∧ zx_in i n then some ((pc + 1, lv, r), h.set q (.inl (t, n, .inr (.inl (vp_updL f i.toNatClampNeg x))))) else none
      | _ => none
    | _ => none
  | .aastore, 1 => match st with
    | .null :: .int i :: .ref q :: r => match h[q]? with
      | some (.inl (t, n, .inr (.inr (.inr (.inr f))))) => match zt_at[t]? with
        | some (.object _) => if zx_in i n then some ((pc + 1, lv, r), h.set q (.inl (t, n, .inr (.inr (.inr (.inr (va_up f i.toNatClampNeg none))))))) else none
        | _ => none
      | _ => none
    | .ref k :: .int i :: .ref q :: r => match h[q]? with
      | some (.inl (t, n, .inr (.inr (.inr (.inr f))))) => match zt_at[t]?, zt_atc[t]?, h[k]? with
        | some (.object _), some cj, some (.inr (ci, _)) => if ci = cj ∧ cj ≠ 999 ∧ zx_in i n then some ((pc + 1, lv, r), h.set q (.inl (t, n, .inr (.inr (.inr (.inr (va_up f i.toNatClampNeg (some k)))))))) else none
        | _, _, _ => none
      | _ => none
    | _ => none
  | .if_acmp cd off, 3 => match st with
    | y :: x :: r => match zx_or x, zx_or y with
      | some u, some w => match cd with
        | .eq => (zx_br (decide (u = w)) pc off lv r).map fun f => (f, h)
        | .ne => (zx_br (decide (¬ u = w)) pc off lv r).map fun f => (f, h)
      | _, _ => none
    | _ => none
  | .dastore, 1 => match st with
    | .double x :: .int i :: .ref q :: r => match h[q]? with
      | some (.inl (t, n, .inr (.inr (.inr (.inl f))))) => if zt_at[t]? = some .double ∧ zx_in i n then some ((pc + 1, lv, r), h.set q (.inl (t, n, .inr (.inr (.inr (.inl (vf_upd f i.toNatClampNeg x))))))) else none
      | _ => none
    | _ => none
  | .invokespecial i, 3 => match st with
    | .ref _ :: r => match zx_pool oc i with
      | some (kd, _, _, _) => if kd = 10 ∧ (r.map fun v => v.category).sum ≤ 8 then some ((pc + 3, lv, r), h) else none
      | none => none
    | _ => none
  | .ldc2_w i, 3 => (zx_lng oc i).map fun q => ((pc + 3, lv, .long q.1 :: st), h)
  | _, _ => none
/-- a cell that stood before -/
def zx_x (q : Nat) : Option (FieldType × zx_E) := if zx_lim < q then zt_ext (q - zx_lim - 1) else none
/-- may this reference lie in an Object[]? -/
def zx_ob (h : zx_H) (k : Nat) : Bool := match h[k]? with
  | some (.inr (ci, _)) => decide (ci < zt_x0)
  | some (.inl (t, _)) => decide (zt_aok[t]? = some true)
  | none => match zx_x k with
    | some (.object _, .inr _) => true
    | _ => false
def zx_or2 : Value → Option (Option Nat)
  | .null => some none
  | .ref k => if k < zx_lim ∨ (k = zx_lim + 1 ∧ (zt_ext 0).isSome = true) then some (some k) else none
  | _ => none
/-- bytes that are bytes -/
def zx_fb (f : Nat → Int32) (sp n : Nat) : Bool := (List.range n).all fun i => fits .byte (.int (f (sp + i)))
/-- more heap steps: what stood before, Object[], casts, natives -/
def zx_h2 (oc : Nat) (sc : (Nat × (Nat → Int32)) × Bool) (pc : Nat) (lv : List (Nat × Value)) (st : List Value) (h : zx_H) : Instr → Nat → Option (zx_F × zx_H)
  | .getfield i, 3 => match st with
    | .ref q :: r => match zx_pool oc i, zx_x q with
      | some (0, ci, k, _), some (.object _, .inr (cj, fs)) => if cj = ci then match fs[k]? with
          | some (.retAddr _) => none
          | some v => some ((pc + 3, lv, v :: r), h)
          | none => none
        else none
      | _, _ => none
    | _ => none
  | .getstatic i, 3 => match zx_pool oc i with
    | some (14, x, _, _) => ((zt_stv sc.2)[x]?).map fun v => ((pc + 3, lv, v :: st), h)
    | _ => none
  | .arraylength, 1 => match st with
    | .ref q :: r => match zx_x q with
      | some (_, .inl (_, n, _)) => some ((pc + 1, lv, .int (Int32.ofNat n) :: r), h)
      | _ => none
    | _ => none
  | .baload, 1 => match st with
    | .int i :: .ref q :: r => match zx_x q with
      | some (.byte, .inl (_, n, .inl f)) => if zx_in i n then some ((pc + 1, lv, .int (f i.toNatClampNeg) :: r), h) else none
      | _ => none
    | _ => none
  | .aaload, 1 => match st with
    | .int i :: .ref q :: r => match h[q]? with
      | some (.inl (t, n, .inr (.inr (.inr (.inr f))))) => match zt_at[t]? with
        | some (.array _) => if zx_in i n then some ((pc + 1, lv, zx_rf (f i.toNatClampNeg) :: r), h) else none
        | _ => none
      | some _ => none
      | none => match zx_x q with
        | some (.object _, .inl (_, n, .inr (.inr (.inr (.inr f))))) => if zx_in i n then some ((pc + 1, lv, zx_rf (f i.toNatClampNeg) :: r), h) else none
        | _ => none
    | _ => none
  | .aastore, 1 => match st with
    | .ref k :: .int i :: .ref q :: r => match h[q]? with
      | some (.inl (t, n, .inr (.inr (.inr (.inr f))))) => if t = zt_objT ∧ zt_objT ≠ 999 ∧ zx_ob h k = true ∧ zx_in i n then some ((pc + 1, lv, r), h.set q (.inl (t, n, .inr (.inr (.inr (.inr (va_up f i.toNatClampNeg (some k)))))))) else
        match zt_at[t]?, zt_atc[t]?, zx_x k with
        | some (.object _), some cj, some (.object _, .inr (ci, _)) => if ci = cj ∧ cj ≠ 999 ∧ zx_in i n then some ((pc + 1, lv, r), h.set q (.inl (t, n, .inr (.inr (.inr (.inr (va_up f i.toNatClampNeg (some k)))))))) else none
        | _, _, _ => none
      | _ => none
    | _ => none
  | .multianewarray i dm, 4 => match st with
    | .int m :: .int n :: r => match zx_pool oc i with
      | some (18, t, _, _) => match zt_at[t]? with
        | some (.array ty) => match zx_at ty, zx_arr ty m.toNatClampNeg with
          | some t2, some a0 => if dm = 2 ∧ ¬ n < 0 ∧ ¬ m < 0 ∧ n.toNatClampNeg * 4 ≤ 536870912 ∧ m.toNatClampNeg * componentBytes ty ≤ 536870912 ∧ h.length + n.toNatClampNeg < zx_lim then
              some ((pc + 4, lv, .ref h.length :: r), h ++ .inl (t, n.toNatClampNeg, .inr (.inr (.inr (.inr (fun j => if j < n.toNatClampNeg then some (h.length + 1 + j) else none))))) :: List.replicate n.toNatClampNeg (.inl (t2, a0))) else none
          | _, _ => none
        | _ => none
      | _ => none
    | _ => none
  | .checkcast i, 3 => match st with
    | .null :: r => some ((pc + 3, lv, .null :: r), h)
    | .ref k :: r => match zx_pool oc i with
      | some (2, ci, _, _) => match h[k]? with
        | some (.inr (cj, _)) => if cj = ci ∧ ci ≠ 999 then some ((pc + 3, lv, .ref k :: r), h) else none
        | _ => match zx_x k with
          | some (.object _, .inr (cj, _)) => if cj = ci ∧ ci ≠ 999 then some ((pc + 3, lv, .ref k :: r), h) else none
          | _ => none
      | some (18, t, _, _) => match h[k]? with
        | some (.inl (t', _)) => if t' = t then some ((pc + 3, lv, .ref k :: r), h) else none
        | _ => none
      | some (19, _, _, _) => if (k = zx_lim + 1 + 1 ∧ (zt_ext 1).isSome = true) ∨ (k = zx_lim + 1 + 2 ∧ (zt_ext 2).isSome = true) then some ((pc + 3, lv, .ref k :: r), h) else none
      | _ => none
    | _ => none
  | .bastore, 1 => match st with
    | .int x :: .int i :: .ref q :: r => match h[q]? with
      | some (.inl (t, n, .inl f)) => if zt_at[t]? = some .boolean ∧ zx_in i n then some ((pc + 1, lv, r), h.set q (.inl (t, n, .inl (upd f i.toNatClampNeg (vp_nar .boolean x)))))
        else if zt_at[t]? = some .byte ∧ zx_in i n then some ((pc + 1, lv, r), h.set q (.inl (t, n, .inl (upd f i.toNatClampNeg (vp_nar .byte x))))) else none
      | _ => none
    | _ => none
  | .invokestatic i, 3 => match zx_pool oc i with
    | some (16, _, 0, _) => match st with
      | .int y :: .int x :: r => if (r.map fun v => v.category).sum ≤ 8 then some ((pc + 3, lv, .int (if x < y then y else x) :: r), h) else none
      | _ => none
    | some (16, _, 1, _) => match st with
      | .int y :: .int x :: r => if (r.map fun v => v.category).sum ≤ 8 then some ((pc + 3, lv, .int (if y < x then y else x) :: r), h) else none
      | _ => none
    | some (16, _, 2, _) => match st with
      | .long y :: .long x :: r => if (r.map fun v => v.category).sum ≤ 8 then some ((pc + 3, lv, .long (if y < x then y else x) :: r), h) else none
      | _ => none
    | some (17, _, _, _) => match st with
      | .int len :: .int dp :: .ref q1 :: .int sp :: .ref q0 :: r => match h[q0]?, h[q1]? with
        | some (.inl (t0, n0, .inl f)), some (.inl (t1, n1, .inl g)) => if t0 = t1 ∧ (zt_at[t0]? = some .int ∨ (zt_at[t0]? = some .byte ∧ zx_fb f sp.toNatClampNeg len.toNatClampNeg = true)) ∧ ¬ sp < 0 ∧ ¬ dp < 0 ∧ ¬ len < 0 ∧ sp.toNatClampNeg + len.toNatClampNeg ≤ n0 ∧ dp.toNatClampNeg + len.toNatClampNeg ≤ n1 ∧ (r.map fun v => v.category).sum ≤ 8 then
            some ((pc + 3, lv, r), h.set q1 (.inl (t1, n1, .inl (va_cpy f g sp.toNatClampNeg dp.toNatClampNeg len.toNatClampNeg)))) else none
        | some (.inl (t0, n0, .inr (.inl f))), some (.inl (t1, n1, .inr (.inl g))) => if t0 = t1 ∧ zt_at[t0]? = some .long ∧ ¬ sp < 0 ∧ ¬ dp < 0 ∧ ¬ len < 0 ∧ sp.toNatClampNeg + len.toNatClampNeg ≤ n0 ∧ dp.toNatClampNeg + len.toNatClampNeg ≤ n1 ∧ (r.map fun v => v.category).sum ≤ 8 then
            some ((pc + 3, lv, r), h.set q1 (.inl (t1, n1, .inr (.inl (va_cpy f g sp.toNatClampNeg dp.toNatClampNeg len.toNatClampNeg))))) else none
        | none, some (.inl (t1, n1, .inl g)) => match zx_x q0 with
          | some (.byte, .inl (_, n0, .inl f)) => if zt_at[t1]? = some .byte ∧ ¬ sp < 0 ∧ ¬ dp < 0 ∧ ¬ len < 0 ∧ sp.toNatClampNeg + len.toNatClampNeg ≤ n0 ∧ dp.toNatClampNeg + len.toNatClampNeg ≤ n1 ∧ (r.map fun v => v.category).sum ≤ 8 ∧ zx_fb f sp.toNatClampNeg len.toNatClampNeg = true then
              some ((pc + 3, lv, r), h.set q1 (.inl (t1, n1, .inl (va_cpy f g sp.toNatClampNeg dp.toNatClampNeg len.toNatClampNeg)))) else none
          | _ => none
        | _, _ => none
      | _ => none
    | _ => none
  | .ldc i, 2 => match zx_pool oc i with
    | some (13, x, 1, _) => some ((pc + 2, lv, .ref (zx_lim + 1 + x) :: st), h)
    | _ => (zx_int oc i).map fun q => ((pc + 2, lv, .int q.1 :: st), h)
  | .ldc_w i, 3 => match zx_pool oc i with
    | some (13, x, 1, _) => some ((pc + 3, lv, .ref (zx_lim + 1 + x) :: st), h)
    | _ => (zx_int oc i).map fun q => ((pc + 3, lv, .int q.1 :: st), h)
  | .if_acmp cd off, 3 => match st with
    | y :: x :: r => match zx_or2 x, zx_or2 y with
      | some u, some w => match cd with
        | .eq => (zx_br (decide (u = w)) pc off lv r).map fun f => (f, h)
        | .ne => (zx_br (decide (¬ u = w)) pc off lv r).map fun f => (f, h)
      | _, _ => none
    | _ => none
  | .invokevirtual i, 3 => if i = 310 then (match st with
    | .ref q :: r => match zx_pool oc i with
      | some (23, t, _, _) => match h[q]? with
        | some (.inl (t', n, .inl f)) => if t' = t ∧ zx_fb f 0 n = true ∧ (r.map fun v => v.category).sum ≤ 8 ∧ h.length < zx_lim then some ((pc + 3, lv, .ref h.length :: r), h ++ [.inl (t', n, .inl f)]) else none
        | _ => none
      | _ => none
    | _ => none) else none
  | _, _ => none

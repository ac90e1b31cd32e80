/-! a throw and a handler, by the instructions looked up -/
noncomputable def zy_tc : Instr → Nat → Option (Nat → Nat → Nat → List Value → Option Nat)
  | .new ik, 3 => some fun mi oc pc st => match zy_pool oc ik with
    | some (2, ci, _, _) => if zt_x0 ≤ ci ∧ zx_cs st ≤ 8 then
      match zd mi (pc + 3), zd mi (pc + 4) with
      | some (.dup, 1), some (.ldc i, 2) => match zd mi (pc + 6), zd mi (pc + 9) with
        | some (.invokespecial ic, 3), some (.athrow, 1) => if (oc, ic, ci) ∈ zt_exw ∧ (zy_pool oc i).map (·.1) = some 13 then some ci else none
        | _, _ => none
      | some (.dup, 1), some (.ldc_w i, 3) => match zd mi (pc + 7), zd mi (pc + 10) with
        | some (.invokespecial ic, 3), some (.athrow, 1) => if (oc, ic, ci) ∈ zt_exw ∧ (zy_pool oc i).map (·.1) = some 13 then some ci else none
        | _, _ => none
      | _, _ => none
      else none
    | _ => none
  | _, _ => none
noncomputable def zy_hd (oc pc E : Nat) : List (Nat × Nat × Nat × Nat) → Option (Option Nat)
  | [] => some none
  | (s0, e0, hp, ct) :: r => if s0 ≤ pc ∧ pc < e0 then
      match zy_pool oc ct with
      | some (kd, cj, _, _) => if kd = 2 ∧ zt_x0 ≤ cj ∧ cj ≠ 999 ∧ ct ≠ 0 then (if cj = E then some (some hp) else zy_hd oc pc E r) else none
      | none => none
    else zy_hd oc pc E r
noncomputable def zy_ca (mi nL hp : Nat) (lv : List (Nat × Value)) : Option zx_F := match zd mi hp with
  | some (.astore_n k, 1) => if (k : Nat) < nL then some (hp + 1, (zx_s1 k .null lv).tail, []) else none
  | some (.astore k, 2) => if k < nL then some (hp + 2, (zx_s1 k .null lv).tail, []) else none
  | _ => none
theorem zy_hd_eq (oc pc E : Nat) : ∀ l, zy_hd oc pc E l = zx_hd oc pc E l
  | [] => rfl
  | (s0, e0, hp, ct) :: r => by
    unfold zy_hd zx_hd
    simp only [zy_pool_eq, zy_hd_eq oc pc E r]
    rfl
theorem zy_ca_ok {mi nL hp : Nat} {lv : List (Nat × Value)} {m : zx_M} {f : zx_F} (hm : zt_m[mi]? = some m) (h : zy_ca mi nL hp lv = some f) : zx_ca m.2.1 nL hp lv = some f := by
  unfold zy_ca at h
  split at h
  · next hz => unfold zx_ca; rw [zd_ok hm hz]; exact h
  · next hz => unfold zx_ca; rw [zd_ok hm hz]; exact h
  · cases h
theorem zy_tc_ok {mi oc pc n : Nat} {st : List Value} {ins : Instr} {ci : Nat} {m : zx_M} (hm : zt_m[mi]? = some m) (h : ((zy_tc ins n).bind fun g => g mi oc pc st) = some ci) : zx_th oc m.2.1 pc st ins n = some ci := by
  unfold zy_tc at h
  split at h
  · simp only [Option.bind_some, zy_pool_eq] at h
    split at h
    · next hp =>
      split at h
      · next hc =>
        split at h
        · next h1 h2 =>
          split at h
          · next h3 h4 =>
            simp only [zx_th, hp]
            rw [if_pos hc]
            simp only [zd_ok hm h1, zd_ok hm h2, zd_ok hm h3, zd_ok hm h4]
            exact h
          · cases h
        · next h1 h2 =>
          split at h
          · next h3 h4 =>
            simp only [zx_th, hp]
            rw [if_pos hc]
            simp only [zd_ok hm h1, zd_ok hm h2, zd_ok hm h3, zd_ok hm h4]
            exact h
          · cases h
        · cases h
      · cases h
    · cases h
  · cases h

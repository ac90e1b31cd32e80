/-! ===== runs: calls, answers, throws, handlers ===== -/
abbrev zx_O : Type := (Option Value) ⊕ Nat
def zx_cs (st : List Value) : Nat := (st.map fun v => v.category).sum
/-- a method's answer -/
def zx_rt (ret : Option FieldType) (st : List Value) : Instr → Nat → Option (Option Value)
  | .ireturn, 1 => match st, ret with
    | [.int v], some ty => if narrow ty (.int v) = .int v then some (some (.int v)) else none
    | _, _ => none
  | .lreturn, 1 => match st, ret with
    | [.long v], some .long => some (some (.long v))
    | _, _ => none
  | .freturn, 1 => match st, ret with
    | [.float v], some .float => some (some (.float v))
    | _, _ => none
  | .dreturn, 1 => match st, ret with
    | [.double v], some .double => some (some (.double v))
    | _, _ => none
  | .areturn, 1 => match st, ret with
    | [.ref k], some (.object _) => some (some (.ref k))
    | [.ref k], some (.array _) => some (some (.ref k))
    | [.null], some (.object _) => some (some .null)
    | [.null], some (.array _) => some (some .null)
    | _, _ => none
  | .return_, 1 => match st, ret with
    | [], none => some none
    | _, _ => none
  | _, _ => none
/-- the class of the object at a place -/
def zx_kl (h : zx_H) (q : Nat) : Option Nat := match h[q]? with
  | some (.inr (ci, _)) => some ci
  | some (.inl _) => none
  | none => match zx_x q with
    | some (.object _, .inr (ci, _)) => if ci = 999 then none else some ci
    | _ => none
/-- the method that runs, by the receiver's class -/
def zx_vf (vid ci : Nat) (b : Bool) : List (Nat × Nat × Nat × Bool) → Option Nat
  | [] => none
  | (v, c, mj, b') :: r => if v = vid ∧ c = ci ∧ b' = b then some mj else zx_vf vid ci b r
theorem zx_vf_mem {vid ci : Nat} {b : Bool} {mj : Nat} : ∀ {l : List (Nat × Nat × Nat × Bool)}, zx_vf vid ci b l = some mj → (vid, ci, mj, b) ∈ l
  | [], h => by cases h
  | (v, c, m9, b') :: r, h => by
    unfold zx_vf at h
    split at h
    · next hc => cases h; obtain ⟨rfl, rfl, rfl⟩ := hc; exact List.mem_cons_self
    · exact List.mem_cons_of_mem _ (zx_vf_mem h)
/-- a call: the method's place, its arguments, what lies below them -/
def zx_c (oc : Nat) (st : List Value) (h : zx_H) : Instr → Nat → Option (Nat × List Value × List Value)
  | .invokestatic i, 3 => match zx_pool oc i with
    | some (kd, mj, _, _) => match zt_m[mj]? with
      | some (_, _, nL, _, hh, oj, np, _, hs, _, _) => if zt_pln[oj]? = some true ∧ (kd = 4 ∨ (kd = 5 ∧ hh = [])) ∧ hs = 1 ∧ 0 < mj ∧ np ≤ st.length ∧ zx_cs (st.drop np) ≤ 8 ∧ (lg_sl (st.take np).reverse).length ≤ nL then some (mj, (st.take np).reverse, st.drop np) else none
      | none => none
    | none => none
  | .invokevirtual i, 3 => match zx_pool oc i with
    | some (12, vid, _, _) => match zt_vp[vid]? with
      | some np => match st.drop np with
        | .ref q :: rest => match zx_kl h q with
          | some ci => match zx_vf vid ci false zt_vt with
            | some mj => match zt_m[mj]? with
              | some (_, _, nL, _, hh, oj, np', _, hs, _, _) => if hh = [] ∧ hs = 0 ∧ np' = np ∧ zt_pln[oj]? = some true ∧ zx_cs rest ≤ 8 ∧ (lg_sl (.ref q :: (st.take np).reverse)).length ≤ nL then some (mj, .ref q :: (st.take np).reverse, rest) else none
              | none => none
            | none => none
          | none => none
        | _ => none
      | none => none
    | some (15, mj, _, _) => match zt_m[mj]? with
      | some (_, _, nL, _, hh, oj, np, _, hs, _, _) => match st.drop np with
        | .ref q :: rest => match zx_kl h q with
          | some _ => if hh = [] ∧ hs = 0 ∧ 0 < mj ∧ zt_pln[oj]? = some true ∧ zx_cs rest ≤ 8 ∧ (lg_sl (.ref q :: (st.take np).reverse)).length ≤ nL then some (mj, .ref q :: (st.take np).reverse, rest) else none
          | none => none
        | _ => none
      | none => none
    | some (kd, mj, _, _) => match zt_m[mj]? with
      | some (_, _, nL, _, hh, oj, np, _, hs, hsel, _) => match st.drop np with
        | .ref q :: rest => match zx_kl h q with
          | some ci => if zt_pln[oj]? = some true ∧ (kd = 6 ∨ kd = 7) ∧ hh = [] ∧ hs = 0 ∧ hsel = 0 ∧ 0 < mj ∧ ci = oj ∧ zx_cs rest ≤ 8 ∧ (lg_sl (.ref q :: (st.take np).reverse)).length ≤ nL then some (mj, .ref q :: (st.take np).reverse, rest) else none
          | none => none
        | _ => none
      | none => none
    | none => none
  | .invokespecial i, 3 => match zx_pool oc i with
    | some (21, mj, _, _) => match zt_m[mj]? with
      | some (_, _, nL, _, hh, oj, np, _, hs, _, _) => match st.drop np with
        | .ref q :: rest => match zx_kl h q with
          | some _ => if hh = [] ∧ hs = 0 ∧ 0 < mj ∧ zt_pln[oj]? = some true ∧ zx_cs rest ≤ 8 ∧ (lg_sl (.ref q :: (st.take np).reverse)).length ≤ nL then some (mj, .ref q :: (st.take np).reverse, rest) else none
          | none => none
        | _ => none
      | none => none
    | some (kd, mj, _, _) => match zt_m[mj]? with
      | some (_, _, nL, ret, hh, oj, np, _, hs, _, _) => match st.drop np with
        | .ref q :: rest => if zt_pln[oj]? = some true ∧ (kd = 8 ∨ kd = 9) ∧ hh = [] ∧ hs = 2 ∧ ret = none ∧ 0 < mj ∧ zx_cs rest ≤ 8 ∧ (lg_sl (.ref q :: (st.take np).reverse)).length ≤ nL then some (mj, .ref q :: (st.take np).reverse, rest) else none
        | _ => none
      | none => none
    | none => none
  | .invokeinterface i _, 5 => match zx_pool oc i with
    | some (11, vid, _, _) => match zt_vp[vid]? with
      | some np => match st.drop np with
        | .ref q :: rest => match zx_kl h q with
          | some ci => match zx_vf vid ci true zt_vt with
            | some mj => match zt_m[mj]? with
              | some (_, _, nL, _, hh, oj, np', _, hs, _, _) => if hh = [] ∧ hs = 0 ∧ np' = np ∧ zt_pln[oj]? = some true ∧ zx_cs rest ≤ 8 ∧ (lg_sl (.ref q :: (st.take np).reverse)).length ≤ nL then some (mj, .ref q :: (st.take np).reverse, rest) else none
              | none => none
            | none => none
          | none => none
        | _ => none
      | none => none
    | _ => none
  | _, _ => none
/-- throw new E("text"): which E -/
def zx_th (oc : Nat) (cc : ByteArray) (pc : Nat) (st : List Value) : Instr → Nat → Option Nat
  | .new ik, 3 => match zx_pool oc ik with
    | some (2, ci, _, _) => if zt_x0 ≤ ci ∧ zx_cs st ≤ 8 then
      match decode cc (pc + 3), decode cc (pc + 4) with
      | .ok (.dup, 1), .ok (.ldc i, 2) => match decode cc (pc + 6), decode cc (pc + 9) with
        | .ok (.invokespecial ic, 3), .ok (.athrow, 1) => if ((oc, ic, ci) ∈ zt_exw ∨ (oc, ic, ci) ∈ zt_exn) ∧ (zx_pool oc i).map (·.1) = some 13 then some ci else none
        | _, _ => none
      | .ok (.dup, 1), .ok (.ldc_w i, 3) => match decode cc (pc + 7), decode cc (pc + 10) with
        | .ok (.invokespecial ic, 3), .ok (.athrow, 1) => if ((oc, ic, ci) ∈ zt_exw ∨ (oc, ic, ci) ∈ zt_exn) ∧ (zx_pool oc i).map (·.1) = some 13 then some ci else none
        | _, _ => none
      | _, _ => none
      else none
    | _ => none
  | _, _ => none
/-- where an exception E thrown at pc is caught: some none: nowhere here -/
def zx_hd (oc pc E : Nat) : List (Nat × Nat × Nat × Nat) → Option (Option Nat)
  | [] => some none
  | (s0, e0, hp, ct) :: r => if s0 ≤ pc ∧ pc < e0 then
      match zx_pool oc ct with
      | some (kd, cj, _, _) => if kd = 2 ∧ zt_x0 ≤ cj ∧ cj ≠ 999 ∧ ct ≠ 0 then (if cj = E then some (some hp) else zx_hd oc pc E r) else none
      | none => none
    else zx_hd oc pc E r
/-- a handler begins by putting the exception away -/
def zx_ca (cc : ByteArray) (nL hp : Nat) (lv : List (Nat × Value)) : Option zx_F := match decode cc hp with
  | .ok (.astore_n k, 1) => if (k : Nat) < nL then some (hp + 1, (zx_s1 k .null lv).tail, []) else none
  | .ok (.astore k, 2) => if k < nL then some (hp + 2, (zx_s1 k .null lv).tail, []) else none
  | _ => none
def zx_run (sc : (Nat × (Nat → Int32)) × Bool) : Nat → Nat → Nat → zx_F → zx_H → Option (zx_O × zx_H)
  | 0, _, _, _, _ => none
  | n + 1, d, mi, f, h => match zt_m[mi]? with
    | none => none
    | some (_, cc, nL, ret, hh, oc, _, _, hs, _, _) => match decode cc f.1 with
      | .error _ => none
      | .ok (ins, len) => match zx_p nL f.1 f.2.1 f.2.2 ins len with
        | some f' => zx_run sc n d mi f' h
        | none => match zx_h oc (hs == 2) sc f.1 f.2.1 f.2.2 h ins len with
          | some (f', h') => zx_run sc n d mi f' h'
          | none => match zx_h2 oc sc f.1 f.2.1 f.2.2 h ins len with
          | some (f', h') => zx_run sc n d mi f' h'
          | none => match zx_rt ret f.2.2 ins len with
            | some v => some (.inl v, h)
            | none => match zx_c oc f.2.2 h ins len with
              | some (mj, as, rest) => match d with
                | 0 => none
                | d' + 1 => match zx_run sc n d' mj (0, lv_args 0 as, []) h with
                  | none => none
                  | some (.inl v, h') => zx_run sc n (d' + 1) mi (f.1 + len, f.2.1, v.toList ++ rest) h'
                  | some (.inr E, h') => match zx_hd oc f.1 E hh with
                    | none => none
                    | some none => some (.inr E, h')
                    | some (some hp) => match zx_ca cc nL hp f.2.1 with
                      | none => none
                      | some f' => zx_run sc n (d' + 1) mi f' h'
              | none => match zx_th oc cc f.1 f.2.2 ins len with
                | some ci => if hh = [] ∧ h.length < zx_lim then some (.inr ci, h ++ [.inr (ci, [])]) else none
                | none => none
theorem zx_sz_push (h : zx_H) (e : zx_E) : zx_sz (h ++ [e]) = zx_sz h + zx_sz1 e := by simp [zx_sz]
theorem zx_h_mono {oc : Nat} {ini : Bool} {sc : (Nat × (Nat → Int32)) × Bool} {pc : Nat} {lv : List (Nat × Value)} {st : List Value} {h h' : zx_H} {ins : Instr} {n : Nat} {f : zx_F} (h1 : zx_h oc ini sc pc lv st h ins n = some (f, h')) : h.length ≤ h'.length ∧ zx_sz h ≤ zx_sz h' := by
  have hset : ∀ {k : Nat} {e0 e1 : zx_E}, h[k]? = some e0 → zx_sz1 e1 = zx_sz1 e0 → h.length ≤ (h.set k e1).length ∧ zx_sz h ≤ zx_sz (h.set k e1) := fun hk hz => ⟨by rw [List.length_set]; exact Nat.le_refl _, by rw [zx_sz_set hk hz]; exact Nat.le_refl _⟩
  have hpush : ∀ {e : zx_E}, h.length ≤ (h ++ [e]).length ∧ zx_sz h ≤ zx_sz (h ++ [e]) := fun {e} => ⟨by simp, by rw [zx_sz_push]; omega⟩
  have hsame : h.length ≤ h.length ∧ zx_sz h ≤ zx_sz h := ⟨Nat.le_refl _, Nat.le_refl _⟩
  unfold zx_h at h1
  split at h1
  all_goals (try (simp only [Option.map_eq_some_iff, Prod.mk.injEq] at h1))
  all_goals (repeat' (split at h1))
  all_goals (try (cases h1; done))
  all_goals (try (simp only [Option.map_eq_some_iff, Prod.mk.injEq] at h1))
  all_goals (first
    | (cases h1; exact hsame)
    | (cases h1; exact hpush)
    | (obtain ⟨_, _, _, rfl⟩ := h1; exact hsame)
    | (cases h1; refine hset (e0 := ?_) ?_ ?_; rotate_left; assumption; rfl)
    | skip)
  obtain ⟨v9, hv, -, rfl⟩ := h1
  unfold zx_putf at hv
  split at hv
  · split at hv
    · next hq =>
      split at hv
      · next hc =>
        obtain ⟨rfl, -⟩ := hc
        cases hv
        exact hset hq rfl
      · cases hv
    · cases hv
  · cases hv
theorem zx_h2_mono {oc : Nat} {sc : (Nat × (Nat → Int32)) × Bool} {pc : Nat} {lv : List (Nat × Value)} {st : List Value} {h h' : zx_H} {ins : Instr} {n : Nat} {f : zx_F} (h1 : zx_h2 oc sc pc lv st h ins n = some (f, h')) : h.length ≤ h'.length ∧ zx_sz h ≤ zx_sz h' := by
  have hset : ∀ {k : Nat} {e0 e1 : zx_E}, h[k]? = some e0 → zx_sz1 e1 = zx_sz1 e0 → h.length ≤ (h.set k e1).length ∧ zx_sz h ≤ zx_sz (h.set k e1) := fun hk hz => ⟨by rw [List.length_set]; exact Nat.le_refl _, by rw [zx_sz_set hk hz]; exact Nat.le_refl _⟩
  have hsame : h.length ≤ h.length ∧ zx_sz h ≤ zx_sz h := ⟨Nat.le_refl _, Nat.le_refl _⟩
  unfold zx_h2 at h1
  split at h1
  all_goals (repeat' (split at h1))
  all_goals (try (cases h1; done))
  all_goals (try (simp only [Option.map_eq_some_iff, Prod.mk.injEq] at h1))
  all_goals (first
    | (cases h1; exact hsame)
    | (obtain ⟨_, _, _, rfl⟩ := h1; exact hsame)
    | (cases h1; refine hset (e0 := ?_) ?_ ?_; rotate_left; assumption; rfl)
    | (cases h1; exact ⟨by rw [List.length_append]; omega, by simp only [zx_sz, List.map_append, List.sum_append]; omega⟩)
    | (obtain ⟨_, _, -, rfl⟩ := h1; exact hsame)
    | skip)
theorem zx_run_mono {sc : (Nat × (Nat → Int32)) × Bool} : ∀ (n d mi : Nat) (f : zx_F) (h : zx_H) (o : zx_O) (h' : zx_H), zx_run sc n d mi f h = some (o, h') → h.length ≤ h'.length ∧ zx_sz h ≤ zx_sz h' := by
  intro n
  induction n with
  | zero => intro d mi f h o h' h1; cases h1
  | succ n ih =>
    intro d mi f h o h' h1
    unfold zx_run at h1
    split at h1
    · cases h1
    · split at h1
      · cases h1
      · split at h1
        · exact ih _ _ _ _ _ _ h1
        · split at h1
          · next hh =>
            have h2 := zx_h_mono hh
            have h3 := ih _ _ _ _ _ _ h1
            omega
          · split at h1
            · next hh =>
              have h2 := zx_h2_mono hh
              have h3 := ih _ _ _ _ _ _ h1
              omega
            split at h1
            · cases h1; exact ⟨Nat.le_refl _, Nat.le_refl _⟩
            · split at h1
              · split at h1
                · cases h1
                · split at h1
                  · cases h1
                  · next hh =>
                    have h2 := ih _ _ _ _ _ _ hh
                    have h3 := ih _ _ _ _ _ _ h1
                    omega
                  · next hh =>
                    have h2 := ih _ _ _ _ _ _ hh
                    split at h1
                    · cases h1
                    · cases h1; exact h2
                    · split at h1
                      · cases h1
                      · have h3 := ih _ _ _ _ _ _ h1
                        omega
              · split at h1
                · split at h1
                  · cases h1; exact ⟨by simp, by rw [zx_sz_push]; omega⟩
                  · cases h1
                · cases h1
theorem zx_c_len {oc : Nat} {st : List Value} {h : zx_H} {ins : Instr} {n : Nat} {r : Nat × List Value × List Value} (hc : zx_c oc st h ins n = some r) : n = 3 ∨ n = 5 := by
  unfold zx_c at hc
  split at hc
  · exact Or.inl rfl
  · exact Or.inl rfl
  · exact Or.inl rfl
  · exact Or.inr rfl
  · cases hc

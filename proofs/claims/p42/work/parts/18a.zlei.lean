/-! ===== the copy of an array: other locals ===== -/
theorem zx_h2_iv {oc pc i : Nat} {sc : (Nat × (Nat → Int32)) × Bool} {l : List (Nat × Value)} {st : List Value} {h : zx_H} {f : zx_F} {h' : zx_H} (hz : zx_h2 oc sc pc l st h (.invokevirtual i) 3 = some (f, h')) : f.2.1 = l ∧ ∀ m, zx_h2 oc sc pc m st h (.invokevirtual i) 3 = some ((f.1, m, f.2.2), h') := by
  have e : ∀ m, zx_h2 oc sc pc m st h (.invokevirtual i) 3 = if i = 310 then (match st with
    | .ref q :: r => match zx_pool oc i with
      | some (23, t, _, _) => match h[q]? with
        | some (.inl (t', n, .inl f)) => if t' = t ∧ zx_fb f 0 n = true ∧ (r.map fun v => v.category).sum ≤ 8 ∧ h.length < zx_lim then some ((pc + 3, m, .ref h.length :: r), h ++ [.inl (t', n, .inl f)]) else none
        | _ => none
      | _ => none
    | _ => none) else none := fun m => rfl
  rw [e] at hz
  by_cases hi : i = 310
  · rw [if_pos hi] at hz
    split at hz
    · next q r =>
      split at hz
      · next t a b hp =>
        split at hz
        · next t' n f0 hq =>
          by_cases hc : t' = t ∧ zx_fb f0 0 n = true ∧ (r.map fun v => v.category).sum ≤ 8 ∧ h.length < zx_lim
          · rw [if_pos hc] at hz
            cases hz
            refine ⟨rfl, fun m => ?_⟩
            rw [e m, if_pos hi]
            first
              | (simp only [hp, hq]; exact if_pos hc)
              | (show (match zx_pool oc i with
      | some (23, t, _, _) => match h[q]? with
        | some (.inl (t', n, .inl f)) => if t' = t ∧ zx_fb f 0 n = true ∧ (r.map fun v => v.category).sum ≤ 8 ∧ h.length < zx_lim then some ((pc + 3, m, .ref h.length :: r), h ++ [.inl (t', n, .inl f)]) else none
        | _ => none
      | _ => none) = _
                 rw [hp]
                 show (match h[q]? with
        | some (.inl (t', n, .inl f)) => if t' = t ∧ zx_fb f 0 n = true ∧ (r.map fun v => v.category).sum ≤ 8 ∧ h.length < zx_lim then some ((pc + 3, m, .ref h.length :: r), h ++ [.inl (t', n, .inl f)]) else none
        | _ => none) = _
                 rw [hq]
                 exact if_pos hc)
          · rw [if_neg hc] at hz
            cases hz
        · cases hz
      · cases hz
    · cases hz
  · rw [if_neg hi] at hz
    cases hz

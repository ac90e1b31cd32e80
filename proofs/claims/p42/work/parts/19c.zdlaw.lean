noncomputable def zd_gc (c : Nat) : Bool := match zd_of 0 with
  | some t => match t[c]? with
    | some l => l.all fun e => decide (decode code e.1 = .ok e.2)
    | none => true
  | none => true
set_option maxRecDepth 100000 in
theorem zd_gc0 : zd_gc 0 = true := by decide +kernel
set_option maxRecDepth 100000 in
theorem zd_gc1 : zd_gc 1 = true := by decide +kernel
set_option maxRecDepth 100000 in
theorem zd_gc2 : zd_gc 2 = true := by decide +kernel
set_option maxRecDepth 100000 in
theorem zd_gc3 : zd_gc 3 = true := by decide +kernel
set_option maxRecDepth 100000 in
theorem zd_gc4 : zd_gc 4 = true := by decide +kernel
set_option maxRecDepth 100000 in
theorem zd_gc5 : zd_gc 5 = true := by decide +kernel
set_option maxRecDepth 100000 in
theorem zd_gc6 : zd_gc 6 = true := by decide +kernel
set_option maxRecDepth 100000 in
theorem zd_gc7 : zd_gc 7 = true := by decide +kernel
set_option maxRecDepth 100000 in
theorem zd_gc8 : zd_gc 8 = true := by decide +kernel
theorem zd_gcall : ∀ c, c < 9 → zd_gc c = true := by
  intro c h
  have h0 : zd_gc c = true ∨ 9 ≤ c := by
    match c with
    | 0 => exact Or.inl zd_gc0
    | 1 => exact Or.inl zd_gc1
    | 2 => exact Or.inl zd_gc2
    | 3 => exact Or.inl zd_gc3
    | 4 => exact Or.inl zd_gc4
    | 5 => exact Or.inl zd_gc5
    | 6 => exact Or.inl zd_gc6
    | 7 => exact Or.inl zd_gc7
    | 8 => exact Or.inl zd_gc8
    | c + 9 => exact Or.inr (by omega)
  rcases h0 with h0 | h0
  · exact h0
  · omega
theorem zd_len0 : (zd_of 0).all (fun t => decide (t.length ≤ 9)) = true := by decide +kernel
theorem zd_m0 : zt_m[0]?.map (fun m => m.2.1) = some code := rfl
theorem zd_g_law : zd_g 0 = true := by
  unfold zd_g
  split
  · next m t hm ht =>
    have h1 : m.2.1 = code := by
      have h2 := zd_m0
      rw [hm] at h2
      exact Option.some.inj h2
    have hl := zd_len0
    rw [ht] at hl
    have hl : t.length ≤ 9 := by simpa using hl
    refine List.all_eq_true.mpr fun l hmem => ?_
    obtain ⟨c, hc⟩ := List.mem_iff_getElem?.mp hmem
    have h3 := zd_gcall c (Nat.lt_of_lt_of_le (List.getElem?_eq_some_iff.mp hc).1 hl)
    unfold zd_gc at h3
    rw [ht] at h3
    dsimp only at h3
    rw [hc] at h3
    rw [h1]
    exact h3
  · rfl

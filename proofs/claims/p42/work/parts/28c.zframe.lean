/-! ===== how large, and what stays ===== -/
section ZFR
def zM (h : zx_H) : Nat := zx_sz h + 12 * h.length
/-- g goes on from h: only the places from a below b may differ, and g has k more at most -/
def zG (k a b : Nat) (h g : zx_H) : Prop := h.length ≤ g.length ∧ zM g ≤ zM h + k ∧ ∀ p, p < h.length → (p < a ∨ b ≤ p) → g[p]? = h[p]?
variable {k k' a a' b b' : Nat} {h g j : zx_H} {q : Nat} {c c' : zx_E}
theorem zG.refl : zG 0 a b h h := ⟨Nat.le_refl _, Nat.le_refl _, fun _ _ _ => rfl⟩
theorem zG.w (x : zG k a b h g) (hk : k ≤ k') (ha : a' ≤ a) (hb : b ≤ b') : zG k' a' b' h g := ⟨x.1, by have := x.2.1; omega, fun p hp hq => x.2.2 p hp (by omega)⟩
theorem zG.t (x : zG k a b h g) (y : zG k' a b g j) : zG (k + k') a b h j := ⟨Nat.le_trans x.1 y.1, by have := x.2.1; have := y.2.1; omega, fun p hp hq => (y.2.2 p (Nat.lt_of_lt_of_le hp x.1) hq).trans (x.2.2 p hp hq)⟩
theorem zlt_of (e : h[q]? = some c) : q < h.length := by
  rcases Nat.lt_or_ge q h.length with h2 | h2
  · exact h2
  · rw [List.getElem?_eq_none h2] at e; cases e
theorem zG.gt (x : zG k a b h g) (e : h[q]? = some c) (hq : q < a ∨ b ≤ q) : g[q]? = some c := (x.2.2 q (zlt_of e) hq).trans e
theorem zG.m (x : zG k a b h g) : zM g ≤ zM h + k := x.2.1
theorem zG.l (x : zG k a b h g) : h.length ≤ g.length := x.1
theorem zG_set (e : h[q]? = some c) (hs : zx_sz1 c' = zx_sz1 c) (ha : a ≤ q) (hb : q < b) : zG 0 a b h (h.set q c') := by
  refine ⟨by rw [List.length_set]; exact Nat.le_refl _, ?_, fun p _ hp => zh_set_n (by omega)⟩
  unfold zM
  rw [zh_set_sz e hs, List.length_set]
  exact Nat.le_refl _
theorem zM_app : zM (h ++ [c]) = zM h + (12 + zx_sz1 c) := by
  unfold zM zx_sz
  rw [List.map_append, List.sum_append, List.length_append]
  show (h.map zx_sz1).sum + (zx_sz1 c + 0) + 12 * (h.length + 1) = _
  omega
theorem zG_app : zG (12 + zx_sz1 c) a b h (h ++ [c]) := ⟨by rw [List.length_append]; omega, by rw [zM_app]; omega, fun p hp _ => List.getElem?_append_left hp⟩
theorem zG_end : (h ++ [c])[h.length]? = some c := by rw [List.getElem?_append_right (Nat.le_refl _), Nat.sub_self]; rfl
theorem zM_l : 12 * h.length ≤ zM h := by unfold zM; omega
theorem zG_U {n : Nat} (x : zU q n h g) (ha : a ≤ q) (hb : q + n ≤ b) : zG 0 a b h g := ⟨by rw [x.1]; exact Nat.le_refl _, by unfold zM; rw [x.1, x.2.1]; exact Nat.le_refl _, fun p _ hp => x.2.2 p (by omega)⟩
/-- an exception's object -/
theorem zG_exc {ci : Nat} : zG 20 a b h (h ++ [.inr (ci, [])]) := by
  refine zG.w (zG_app (c := .inr (ci, []))) ?_ (Nat.le_refl _) (Nat.le_refl _)
  show 12 + zt_sz.getD ci 0 ≤ 20
  have : ∀ c, c < 17 → zt_sz.getD c 0 ≤ 8 := by decide
  rcases Nat.lt_or_ge ci 17 with h1 | h1
  · have := this ci h1; omega
  · rw [List.getD_eq_getElem?_getD, List.getElem?_eq_none (show zt_sz.length ≤ ci from h1)]
    decide
/-- there is room -/
theorem zlen (hm : zM h ≤ 7200000) : h.length ≤ 600000 := by have := zM_l (h := h); omega
theorem zlim (hm : zM h ≤ 7200000) : h.length < zx_lim := by have := zlen hm; show h.length < 1000000; omega
end ZFR

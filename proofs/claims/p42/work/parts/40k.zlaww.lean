/-! ===== the law's world, while it makes a text ===== -/
section ZLW
variable {h g j : zx_H} {now : Nat} {ver : Nat → Nat → zT} {tx : List Nat} {pr : Nat × (Nat → Nat) × (Nat → Int32)} {gr : zT × Nat × Nat × (Nat → Int64) × (Nat → Nat → Bool)} {q pt a m a' m' a2 m2 k k' : Nat} {w s : List Nat} {c : Nat}
/-- r, the object, the builder (at q, its bytes at a), the number of tests (at pt) -/
def zLw (h : zx_H) (now : Nat) (ver : Nat → Nat → zT) (tx : List Nat) (pr : Nat × (Nat → Nat) × (Nat → Int32)) (gr : zT × Nat × Nat × (Nat → Int64) × (Nat → Nat → Bool)) (q a m : Nat) (w : List Nat) (pt c : Nat) : Prop := zR h ∧ zWd h now ver tx pr gr ∧ zSB h q a m w ∧ (∃ f, h[pt]? = some (.inl (1, 1, .inl f)) ∧ f 0 = nI c) ∧ 177 ≤ q ∧ 177 ≤ a ∧ 177 ≤ pt ∧ pt ≠ q ∧ pt ≠ a
/-- what may have changed -/
def zLf (k q pt a m a' m' : Nat) (h g : zx_H) : Prop := h.length ≤ g.length ∧ zM g + 2 * m ≤ zM h + 2 * m' + k ∧ m ≤ m' ∧ (a' = a ∨ h.length ≤ a') ∧ ∀ p, p < h.length → p ≠ 0 → p ≠ q → p ≠ a → p ≠ pt → g[p]? = h[p]?
theorem zLf.r : zLf 0 q pt a m a m h h := ⟨Nat.le_refl _, Nat.le_refl _, Nat.le_refl _, Or.inl rfl, fun _ _ _ _ _ _ => rfl⟩
theorem zLf.t (x : zLf k q pt a m a' m' h g) (y : zLf k' q pt a' m' a2 m2 g j) : zLf (k + k') q pt a m a2 m2 h j := by
  obtain ⟨x1, x2, x3, x4, x5⟩ := x
  obtain ⟨y1, y2, y3, y4, y5⟩ := y
  exact ⟨by omega, by omega, by omega, by omega, fun p h1 h2 h3 h4 h5 => (y5 p (by omega) h2 h3 (by omega) h5).trans (x5 p h1 h2 h3 h4 h5)⟩
theorem zLf.wk (x : zLf k q pt a m a' m' h g) (hk : k ≤ k') : zLf k' q pt a m a' m' h g := by
  obtain ⟨x1, x2, x3, x4, x5⟩ := x
  exact ⟨x1, by omega, x3, x4, x5⟩
theorem zSB.keep (x : zSB h q a m w) (e1 : g[q]? = h[q]?) (e2 : g[a]? = h[a]?) : zSB g q a m w := by
  obtain ⟨ml, f, c1, c2, h1⟩ := x
  exact ⟨ml, f, e1.trans c1, e2.trans c2, h1⟩
/-- a step that touches the drawn numbers alone, and makes new cells -/
theorem zLw.G (x : zLw h now ver tx pr gr q a m w pt c) (G : zG k 0 1 h g) (hR : zR g) : zLw g now ver tx pr gr q a m w pt c ∧ zLf k q pt a m a m h g := by
  obtain ⟨r, wd, sb, ⟨f, e1, e2⟩, h1, h2, h3, h4, h5⟩ := x
  have sb' := sb
  obtain ⟨ml, f2, c1, c2, _⟩ := sb'
  refine ⟨⟨hR, wd.G G (Or.inr (Nat.le_refl _)), sb.keep ((G.gt c1 (Or.inr (by omega))).trans c1.symm) ((G.gt c2 (Or.inr (by omega))).trans c2.symm), ⟨f, G.gt e1 (Or.inr (by omega)), e2⟩, h1, h2, h3, h4, h5⟩, G.1, by have := G.2.1; omega, Nat.le_refl _, Or.inl rfl, fun p hp h0 _ _ _ => G.2.2 p hp (Or.inr (by omega))⟩
/-- letters put behind -/
theorem zLw.app (x : zLw h now ver tx pr gr q a m w pt c) (sb : zSB g q a' m' s) (st : zSt h g q a a' m m') : zLw g now ver tx pr gr q a' m' s pt c ∧ zLf 10 q pt a m a' m' h g := by
  obtain ⟨r, wd, sb0, ⟨f, e1, e2⟩, h1, h2, h3, h4, h5⟩ := x
  obtain ⟨s1, s2, s3, s4, s5⟩ := st
  have hl := wd.len
  have hp := zlt_of e1
  have G : zG (2 * m' + 10) 177 h.length h g := ⟨s1, by omega, fun p hp hq => s3 p hp (by omega) (by omega)⟩
  refine ⟨⟨r.G G (Or.inl (by decide)), wd.G G (Or.inl (Nat.le_refl _)), sb, ⟨f, (s3 pt hp h4 h5).trans e1, e2⟩, h1, by omega, h3, h4, by omega⟩, s1, s2, s5, s4, fun p hp _ hq ha _ => s3 p hp hq ha⟩
/-- a test more -/
theorem zLw.test (x : zLw h now ver tx pr gr q a m w pt c) (hB : zM h ≤ 7200000) : ∃ g, zf_ldI pt (0 : Int32) h = some (nI c) ∧ zf_stI pt (0 : Int32) (nI c + (1 : Int32)) h = some g ∧ zLw g now ver tx pr gr q a m w pt (c + 1) ∧ zLf 0 q pt a m a m h g := by
  obtain ⟨r, wd, sb, ⟨f, e1, e2⟩, h1, h2, h3, h4, h5⟩ := x
  have hl := zlen hB
  have hp := zlt_of e1
  have l1 : zf_ldI pt (nI 0) h = some (f 0) := zh_ldI (by show pt ≠ 1000000; omega) e1 (by decide) (by decide)
  have r1 : zf_stI pt (nI 0) (nI (c + 1)) h = some (h.set pt (.inl (1, 1, .inl (upd f 0 (nI (c + 1)))))) := zh_stI e1 (by decide) (by decide)
  have u : zU pt 1 h (h.set pt (.inl (1, 1, .inl (upd f 0 (nI (c + 1)))))) := zU_s e1 rfl (by omega)
  have G := zG_U u (a := pt) (b := pt + 1) (Nat.le_refl _) (Nat.le_refl _)
  refine ⟨_, l1.trans (congrArg some e2), ?_, ⟨r.G G (Or.inl (by omega)), wd.G G (Or.inl h3), sb.keep (u.2.2 q (by omega)) (u.2.2 a (by omega)), ⟨_, zh_set_s e1, pk_us⟩, h1, h2, h3, h4, h5⟩, G.1, by have := G.2.1; omega, Nat.le_refl _, Or.inl rfl, fun p _ _ _ _ h6 => u.2.2 p (by omega)⟩
  rw [nI_1]
  exact r1
end ZLW

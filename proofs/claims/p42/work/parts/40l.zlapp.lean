/-! ===== appending in the law's world ===== -/
section ZLA
theorem zl_600 : zLit (zx_lim + 1 + 600) [35] := ⟨0, rfl, rfl, by decide, by decide, by decide⟩
theorem zl_602 : zLit (zx_lim + 1 + 602) [32] := ⟨1, rfl, rfl, by decide, by decide, by decide⟩
theorem zl_604 : zLit (zx_lim + 1 + 604) [] := ⟨2, rfl, rfl, by decide, by decide, by decide⟩
theorem zl_606 : zLit (zx_lim + 1 + 606) [60] := ⟨3, rfl, rfl, by decide, by decide, by decide⟩
theorem zl_608 : zLit (zx_lim + 1 + 608) [62] := ⟨4, rfl, rfl, by decide, by decide, by decide⟩
theorem zl_610 : zLit (zx_lim + 1 + 610) [61] := ⟨5, rfl, rfl, by decide, by decide, by decide⟩
theorem zl_612 : zLit (zx_lim + 1 + 612) [116, 111] := ⟨6, rfl, rfl, by decide, by decide, by decide⟩
theorem zl_614 : zLit (zx_lim + 1 + 614) [105, 110] := ⟨7, rfl, rfl, by decide, by decide, by decide⟩
theorem zl_616 : zLit (zx_lim + 1 + 616) [109, 105, 115, 115, 105, 110, 103] := ⟨8, rfl, rfl, by decide, by decide, by decide⟩
theorem zl_618 : zLit (zx_lim + 1 + 618) [33] := ⟨9, rfl, rfl, by decide, by decide, by decide⟩
theorem zl_620 : zLit (zx_lim + 1 + 620) [33, 32] := ⟨10, rfl, rfl, by decide, by decide, by decide⟩
theorem zl_622 : zLit (zx_lim + 1 + 622) [40] := ⟨11, rfl, rfl, by decide, by decide, by decide⟩
theorem zl_624 : zLit (zx_lim + 1 + 624) [41] := ⟨12, rfl, rfl, by decide, by decide, by decide⟩
theorem zl_626 : zLit (zx_lim + 1 + 626) [124] := ⟨13, rfl, rfl, by decide, by decide, by decide⟩
theorem zl_628 : zLit (zx_lim + 1 + 628) [32, 124, 32] := ⟨14, rfl, rfl, by decide, by decide, by decide⟩
theorem zl_630 : zLit (zx_lim + 1 + 630) [38] := ⟨15, rfl, rfl, by decide, by decide, by decide⟩
theorem zl_632 : zLit (zx_lim + 1 + 632) [32, 38, 32] := ⟨16, rfl, rfl, by decide, by decide, by decide⟩
theorem zl_634 : zLit (zx_lim + 1 + 634) [33, 40] := ⟨17, rfl, rfl, by decide, by decide, by decide⟩
theorem zl_636 : zLit (zx_lim + 1 + 636) [35, 48, 32, 60, 32] := ⟨18, rfl, rfl, by decide, by decide, by decide⟩
theorem zl_638 : zLit (zx_lim + 1 + 638) [35, 48, 32, 61, 32, 53, 32] := ⟨19, rfl, rfl, by decide, by decide, by decide⟩
theorem zl_640 : zLit (zx_lim + 1 + 640) [35, 48, 32] := ⟨20, rfl, rfl, by decide, by decide, by decide⟩
theorem zl_642 : zLit (zx_lim + 1 + 642) [35, 48, 32, 116, 111, 32, 49, 32] := ⟨21, rfl, rfl, by decide, by decide, by decide⟩
theorem zl_644 : zLit (zx_lim + 1 + 644) [35, 48, 32, 105, 110, 32, 49, 32, 50, 32, 51, 32, 52, 32, 53, 32, 54, 32] := ⟨22, rfl, rfl, by decide, by decide, by decide⟩
theorem zl_646 : zLit (zx_lim + 1 + 646) [33, 33, 33] := ⟨23, rfl, rfl, by decide, by decide, by decide⟩
theorem zl_648 : zLit (zx_lim + 1 + 648) [40, 40, 40, 40, 40, 40] := ⟨24, rfl, rfl, by decide, by decide, by decide⟩
theorem zl_650 : zLit (zx_lim + 1 + 650) [35, 48, 32, 61, 32] := ⟨25, rfl, rfl, by decide, by decide, by decide⟩
theorem zl_652 : zLit (zx_lim + 1 + 652) [35, 48, 32, 60, 32, 53, 32, 38, 32] := ⟨26, rfl, rfl, by decide, by decide, by decide⟩
theorem zl_654 : zLit (zx_lim + 1 + 654) [40, 35, 48, 32, 109, 105, 115, 115, 105, 110, 103] := ⟨27, rfl, rfl, by decide, by decide, by decide⟩
theorem zl_656 : zLit (zx_lim + 1 + 656) [35, 48, 32, 62, 32, 45] := ⟨28, rfl, rfl, by decide, by decide, by decide⟩
theorem zl_658 : zLit (zx_lim + 1 + 658) [35, 48, 32, 109, 105, 115, 115, 105, 110, 103, 32] := ⟨29, rfl, rfl, by decide, by decide, by decide⟩
theorem zl_660 : zLit (zx_lim + 1 + 660) [35, 48, 32, 61, 32, 53, 32, 124, 32] := ⟨30, rfl, rfl, by decide, by decide, by decide⟩
theorem zl_662 : zLit (zx_lim + 1 + 662) [53] := ⟨31, rfl, rfl, by decide, by decide, by decide⟩
theorem zl_664 : zLit (zx_lim + 1 + 664) [109, 105, 115, 115, 105, 110] := ⟨32, rfl, rfl, by decide, by decide, by decide⟩
theorem zl_666 : zLit (zx_lim + 1 + 666) [120] := ⟨33, rfl, rfl, by decide, by decide, by decide⟩
theorem zl_668 : zLit (zx_lim + 1 + 668) [55] := ⟨34, rfl, rfl, by decide, by decide, by decide⟩
theorem zl_670 : zLit (zx_lim + 1 + 670) [33, 35, 48, 61, 49] := ⟨35, rfl, rfl, by decide, by decide, by decide⟩
theorem zl_672 : zLit (zx_lim + 1 + 672) [40, 35, 48, 61, 49] := ⟨36, rfl, rfl, by decide, by decide, by decide⟩
theorem zl_674 : zLit (zx_lim + 1 + 674) [97, 98, 99, 100, 101, 102, 103, 104] := ⟨37, rfl, rfl, by decide, by decide, by decide⟩
theorem zl_676 : zLit (zx_lim + 1 + 676) [53, 45] := ⟨38, rfl, rfl, by decide, by decide, by decide⟩
theorem zl_678 : zLit (zx_lim + 1 + 678) [61, 49] := ⟨39, rfl, rfl, by decide, by decide, by decide⟩
theorem zl_680 : zLit (zx_lim + 1 + 680) [35, 49, 32, 61, 32, 53] := ⟨40, rfl, rfl, by decide, by decide, by decide⟩
theorem zl_682 : zLit (zx_lim + 1 + 682) [35, 48, 32, 61, 32, 102, 105, 118, 101] := ⟨41, rfl, rfl, by decide, by decide, by decide⟩
variable {h g : zx_H} {now : Nat} {ver : Nat → Nat → zT} {tx : List Nat} {pr : Nat × (Nat → Nat) × (Nat → Int32)} {gr : zT × Nat × Nat × (Nat → Int64) × (Nat → Nat → Bool)} {q pt a m p c : Nat} {w u : List Nat}
theorem zLw.lit (x : zLw h now ver tx pr gr q a m w pt c) (l : zLit p u) (hw : w.length + u.length ≤ 9000) (hB : zM h ≤ 7000000) : ∃ g a' m', f_StringBuilder_appendq3 q p h = some (q, g) ∧ zLw g now ver tx pr gr q a' m' (w ++ u) pt c ∧ zLf 10 q pt a m a' m' h g ∧ (m' ≤ m ∨ m' ≤ 2 * (w.length + u.length)) := by
  obtain ⟨g, a', m', e, sb, st, hm⟩ := zSB_str x.2.2.1 (fun g _ hg _ => l.tx (zlen (h := g) (by omega))) hw hB
  obtain ⟨x2, f2⟩ := x.app sb st
  exact ⟨g, a', m', e, x2, f2, hm⟩
theorem zStr.keep {g : zx_H} (s : zStr h p u) (hq : ∀ r, r < h.length → r ≠ q → r ≠ a → g[r]? = h[r]?) (hp : p ≠ q ∧ p ≠ a) (ha : ∀ b x y, h[p]? = some (.inr (0, [.ref b, .int 0, x, y])) → b ≠ q ∧ b ≠ a) : zStr g p u := by
  obtain ⟨b, x, y, f, e1, e2, h1⟩ := s
  have hb := ha b x y e1
  exact ⟨b, x, y, f, (hq p (zlt_of e1) hp.1 hp.2).trans e1, (hq b (zlt_of e2) hb.1 hb.2).trans e2, h1⟩
/-- a text that isn't the builder's own -/
theorem zLw.str (x : zLw h now ver tx pr gr q a m w pt c) (l : zStr h p u) (hw : w.length + u.length ≤ 9000) (hB : zM h ≤ 7000000) (hp : p ≠ q ∧ p ≠ a) (ha : ∀ b x y, h[p]? = some (.inr (0, [.ref b, .int 0, x, y])) → b ≠ q ∧ b ≠ a) : ∃ g a' m', f_StringBuilder_appendq3 q p h = some (q, g) ∧ zLw g now ver tx pr gr q a' m' (w ++ u) pt c ∧ zLf 10 q pt a m a' m' h g ∧ (m' ≤ m ∨ m' ≤ 2 * (w.length + u.length)) := by
  obtain ⟨g, a', m', e, sb, st, hm⟩ := zSB_str x.2.2.1 (fun g _ hg hk => (l.keep hk hp ha).tx (zlen (h := g) (by omega))) hw hB
  obtain ⟨x2, f2⟩ := x.app sb st
  exact ⟨g, a', m', e, x2, f2, hm⟩
theorem zLw.int (x : zLw h now ver tx pr gr q a m w pt c) {n : Nat} (hn : n < 10 ^ 8) (hw : w.length < 8900) (hB : zM h ≤ 7000000) : ∃ g a' m' ds, f_StringBuilder_appendq2 q (nI n) h = some (q, g) ∧ zLw g now ver tx pr gr q a' m' (w ++ ds) pt c ∧ zLf 10 q pt a m a' m' h g ∧ (m' ≤ m ∨ m' ≤ 2 * (w.length + 9)) ∧ (∀ c ∈ ds, 48 ≤ c ∧ c ≤ 57) ∧ ds ≠ [] ∧ zvf ds 0 = n ∧ ds.length ≤ 8 := by
  obtain ⟨g, a', m', ds, e, sb, st, hm, r⟩ := zSB_int x.2.2.1 (neg := false) hn (fun y => absurd y (by decide)) hw hB
  obtain ⟨x2, f2⟩ := x.app sb st
  exact ⟨g, a', m', ds, e, x2, f2, hm, r⟩
end ZLA

/-! ===== the object made, whole ===== -/
section ZIP
variable {h g j : zx_H} {c0 c1 : zx_E} {q i n : Nat}
def zch0 (q : Nat) : zx_H := .inr (2, [.ref (q + 1), .ref (q + 5), .ref (q + 12)]) :: ((zS_cells (q + 1) ++ zgr0 (q + 5)) ++ [.inl (2, 40, .inr (.inl fun _ => 0))])
theorem zch_i (hl : g.length < 300000) : f_Checks_init g.length (g ++ [.inr (2, zx_def 2)]) = some ((), g ++ zch0 g.length) := by
  rw [zd_2]
  unfold f_Checks_init
  obtain ⟨e1, e2⟩ := zsheet_in (g := g) (x := .inr (2, [.null, .null, .null])) (by omega)
  have hlen : (g ++ .inr (2, [.ref (g.length + 1), .null, .null]) :: zS_cells (g.length + 1)).length = g.length + 5 := List.length_append
  have e3 := zh_new (g := g ++ .inr (2, [.ref (g.length + 1), .null, .null]) :: zS_cells (g.length + 1)) (ci := 5) (by omega)
  have e4 := zgr_i (g := g ++ .inr (2, [.ref (g.length + 1), .null, .null]) :: zS_cells (g.length + 1)) (by omega)
  rw [hlen] at e3 e4
  have e5 : zf_put 2 0 g.length (.ref (g.length + 1)) (g ++ .inr (2, [.null, .null, .null]) :: zS_cells (g.length + 1)) = some (g ++ .inr (2, [.ref (g.length + 1), .null, .null]) :: zS_cells (g.length + 1)) := zh_putE (by show _ < 3; decide)
  have e6 : zf_put 2 1 g.length (.ref (g.length + 5)) (g ++ .inr (2, [.ref (g.length + 1), .null, .null]) :: (zS_cells (g.length + 1) ++ zgr0 (g.length + 5))) = some (g ++ .inr (2, [.ref (g.length + 1), .ref (g.length + 5), .null]) :: (zS_cells (g.length + 1) ++ zgr0 (g.length + 5))) := zh_putE (by show _ < 3; decide)
  have e4 : f_Groups_init (g.length + 5) ((g ++ .inr (2, [.ref (g.length + 1), .null, .null]) :: zS_cells (g.length + 1)) ++ [.inr (5, zx_def 5)]) = some ((), g ++ .inr (2, [.ref (g.length + 1), .null, .null]) :: (zS_cells (g.length + 1) ++ zgr0 (g.length + 5))) := by
    have x := e4
    rw [List.append_assoc g _ (zgr0 (g.length + 5)), List.cons_append] at x
    exact x
  rw [ze_b2 e1, ze_b2 e2, ze_b e5, ze_b2 e3, ze_b2 e4, ze_b e6, show (40 : Int32) = nI 40 from rfl, ze_b2 (zh_newJ (by show _ + 12 < _; omega) (by decide)), List.cons_append, ze_b (zh_putE (by show _ < 3; decide))]
  rfl
/-- a part of the object made, and put into it -/
theorem zstg {cells : zx_H} {fs : List Value} {k : Nat} {v : Value} (e1 : g[1]? = some (.inr (12, fs))) (hk : k < fs.length) : ∃ g', zf_put 12 k 1 v (g ++ cells) = some g' ∧ g'[1]? = some (.inr (12, fs.set k v)) ∧ g'.length = g.length + cells.length ∧ zM g' = zM g + zM cells ∧ (∀ p, p < g.length → p ≠ 1 → g'[p]? = g[p]?) ∧ ∀ i, i < cells.length → g'[g.length + i]? = cells[i]? := by
  have h1 := zlt_of e1
  have e2 : (g ++ cells)[1]? = some (.inr (12, fs)) := (List.getElem?_append_left h1).trans e1
  refine ⟨_, zh_put e2 hk, zh_set_s e2, by rw [List.length_set, List.length_append], ?_, fun p hp h1 => ?_, fun i hi => ?_⟩
  · have x := zM_apl2 g cells
    have y : zM ((g ++ cells).set 1 (.inr (12, fs.set k v))) = zM (g ++ cells) := by
      unfold zM
      rw [List.length_set, zh_set_sz (c' := .inr (12, fs.set k v)) e2 rfl]
    omega
  · rw [zh_set_n (by omega), List.getElem?_append_left hp]
  · rw [zh_set_n (by omega), List.getElem?_append_right (by omega), Nat.add_sub_cancel_left]
def zE : zT := zMk 0 0 (fun _ => 0) (fun _ _ => 0) (fun p => p) (fun _ => false)
theorem zS0.ts (s : zS0 h q) (hq : q + 4 ≤ 600) : TS h q zE := ⟨⟨_, _, _, s, fun c hc => absurd hc (Nat.not_lt_zero _), fun c r hc _ => absurd hc (Nat.not_lt_zero _), fun p hp => absurd hp (Nat.not_lt_zero _)⟩, hq⟩
theorem zE_wf : zWF zE := ⟨by decide, by decide, fun c hc => absurd hc (Nat.not_lt_zero _), fun c r hc _ => absurd hc (Nat.not_lt_zero _), ⟨fun i hi => absurd hi (Nat.not_lt_zero _), fun i j _ hj => absurd hj (Nat.not_lt_zero _)⟩⟩
theorem zinit {f : Nat → Int32} : ∃ g, f_ColumnVault_init 1 [.inl (1, 2, .inl f), .inr (12, zx_def 12)] = some ((), g) ∧ zR g ∧ zWd g 0 (fun _ _ => zE) [] (0, (fun _ => 0), (fun _ => 0)) (zE, 0, 0, (fun _ => 0), fun _ _ => false) ∧ zM g ≤ 30000 := by
  rw [zd_12]
  have n1 : zf_new 6 [(.inl (1, 2, .inl f) : zx_E), .inr (12, [.null, .null, .null, .null, .null, .null])] = some (2, [.inl (1, 2, .inl f), .inr (12, [.null, .null, .null, .null, .null, .null]), .inr (6, zx_def 6)]) := zh_new (g := [(.inl (1, 2, .inl f) : zx_E), .inr (12, [.null, .null, .null, .null, .null, .null])]) (by show 2 < 600000; decide)
  obtain ⟨g1, e1, l1, a0, a1, a2, ⟨F, a3, hF⟩, aS, m1⟩ := zhinit (c0 := .inl (1, 2, .inl f)) (c1 := .inr (12, [.null, .null, .null, .null, .null, .null]))
  have mc : zM [(.inl (1, 2, .inl f) : zx_E), .inr (12, [.null, .null, .null, .null, .null, .null])] ≤ 100 := (by decide : zM [(.inl (1, 2, .inl fun _ => 0) : zx_E), .inr (12, [.null, .null, .null, .null, .null, .null])] ≤ 100)
  have l1 : g1.length = 148 := l1
  -- the history
  obtain ⟨g2, e2, b2, l2, m2, k2, -⟩ := zstg (g := g1) (cells := []) (k := 0) (v := .ref 2) a1 (by show 0 < 6; decide)
  rw [List.append_nil] at e2
  have l2 : g2.length = 148 := l2.trans l1
  have m2 : zM g2 = zM g1 := m2
  -- the text
  have n3 := zh_new (g := g2) (ci := 4) (by omega)
  have i3 := zft_i (g := g2) (by omega)
  obtain ⟨g3, e3, b3, l3, m3, k3, c3⟩ := zstg (g := g2) (cells := zft g2.length) (k := 1) (v := .ref g2.length) b2 (by show 1 < 6; decide)
  have l3 : g3.length = g2.length + 2 := l3
  have x3 : zM (zft g2.length) ≤ 300 := (by decide : zM (zft 0) ≤ 300)
  -- the tokens
  have n4 := zh_new (g := g3) (ci := 11) (by omega)
  have i4 := ztk_i (g := g3) (by omega)
  obtain ⟨g4, e4, b4, l4, m4, k4, c4⟩ := zstg (g := g3) (cells := ztk0 g3.length) (k := 2) (v := .ref g3.length) b3 (by show 2 < 6; decide)
  have l4 : g4.length = g3.length + 4 := l4
  have x4 : zM (ztk0 g3.length) ≤ 1000 := (by decide : zM (ztk0 0) ≤ 1000)
  -- the pairs
  have n5 := zh_new (g := g4) (ci := 9) (by omega)
  have i5 := zpa_i (g := g4) (by omega)
  obtain ⟨g5, e5, b5, l5, m5, k5, c5⟩ := zstg (g := g4) (cells := zpa0 g4.length) (k := 3) (v := .ref g4.length) b4 (by show 3 < 6; decide)
  have l5 : g5.length = g4.length + 3 := l5
  have x5 : zM (zpa0 g4.length) ≤ 4000 := (by decide : zM (zpa0 0) ≤ 4000)
  -- the groups
  have n6 := zh_new (g := g5) (ci := 5) (by omega)
  have i6 := zgr_i (g := g5) (by omega)
  obtain ⟨g6, e6, b6, l6, m6, k6, c6⟩ := zstg (g := g5) (cells := zgr0 g5.length) (k := 4) (v := .ref g5.length) b5 (by show 4 < 6; decide)
  have l6 : g6.length = g5.length + 7 := l6
  have x6 : zM (zgr0 g5.length) ≤ 1000 := (by decide : zM (zgr0 0) ≤ 1000)
  -- the checks
  have n7 := zh_new (g := g6) (ci := 2) (by omega)
  have i7 := zch_i (g := g6) (by omega)
  obtain ⟨g7, e7, b7, l7, m7, k7, c7⟩ := zstg (g := g6) (cells := zch0 g6.length) (k := 5) (v := .ref g6.length) b6 (by show 5 < 6; decide)
  have l7 : g7.length = g6.length + 13 := l7
  have x7 : zM (zch0 g6.length) ≤ 2000 := (by decide : zM (zch0 0) ≤ 2000)
  have h2 : g2.length = 148 := by omega
  have h3 : g3.length = 150 := by omega
  have h4 : g4.length = 154 := by omega
  have h5 : g5.length = 157 := by omega
  have h6 : g6.length = 164 := by omega
  have h7 : g7.length = 177 := by omega
  rw [h2] at n3 i3 e3 b3 c3 k3
  rw [h3] at n4 i4 e4 b4 c4 k4
  rw [h4] at n5 i5 e5 b5 c5 k5
  rw [h5] at n6 i6 e6 b6 c6 k6
  rw [h6] at n7 i7 e7 b7 c7 k7
  rw [h2, h3, h4, h5] at b7
  have p1 : ∀ p, p < 148 → p ≠ 1 → g7[p]? = g1[p]? := fun p hp h1 => by rw [k7 p (by omega) h1, k6 p (by omega) h1, k5 p (by omega) h1, k4 p (by omega) h1, k3 p (by omega) h1, k2 p (by omega) h1]
  have p3 : ∀ i, i < 2 → g7[148 + i]? = (zft 148)[i]? := fun i hi => by rw [k7 _ (by omega) (by omega), k6 _ (by omega) (by omega), k5 _ (by omega) (by omega), k4 _ (by omega) (by omega), c3 i hi]
  have p4 : ∀ i, i < 4 → g7[150 + i]? = (ztk0 150)[i]? := fun i hi => by rw [k7 _ (by omega) (by omega), k6 _ (by omega) (by omega), k5 _ (by omega) (by omega), c4 i hi]
  have p5 : ∀ i, i < 3 → g7[154 + i]? = (zpa0 154)[i]? := fun i hi => by rw [k7 _ (by omega) (by omega), k6 _ (by omega) (by omega), c5 i hi]
  have p6 : ∀ i, i < 7 → g7[157 + i]? = (zgr0 157)[i]? := fun i hi => by rw [k7 _ (by omega) (by omega), c6 i hi]
  have p7 : ∀ i, i < 13 → g7[164 + i]? = (zch0 164)[i]? := c7
  have sh : ∀ s, s < 36 → zS0 g7 (4 + 4 * s) := fun s hs => zS0_k (aS s hs) fun p hp hp2 => p1 p (by omega) (by omega)
  have sh158 : zS0 g7 158 := ⟨p6 1 (by decide), p6 2 (by decide), p6 3 (by decide), p6 4 (by decide), by decide, by decide⟩
  have sh165 : zS0 g7 165 := ⟨p7 1 (by decide), p7 2 (by decide), p7 3 (by decide), p7 4 (by decide), by decide, by decide⟩
  have sh170 : zS0 g7 170 := ⟨p7 6 (by decide), p7 7 (by decide), p7 8 (by decide), p7 9 (by decide), by decide, by decide⟩
  have hzq : ∀ v t, t < 3 → zq v t = 4 + 4 * (v % 12 * 3 + t) ∧ v % 12 * 3 + t < 36 := fun v t ht => by
    have : v % 12 < 12 := Nat.mod_lt _ (by decide)
    exact ⟨rfl, by omega⟩
  have hts : ∀ v t, t < 3 → TS g7 (zq v t) zE := fun v t ht => by
    obtain ⟨z1, z2⟩ := hzq v t ht
    rw [z1]
    exact (sh _ z2).ts (by omega)
  refine ⟨g7, ?_, ⟨f, (p1 0 (by decide) (by decide)).trans a0⟩, ⟨b7, ⟨(p1 2 (by decide) (by decide)).trans a2, ⟨F, (p1 3 (by decide) (by decide)).trans a3, hF⟩, fun v t ht => (hts v t ht).sh, fun v t _ _ ht => ⟨hts v t ht, zE_wf⟩, Nat.zero_le _⟩, ⟨p3 0 (by decide), ⟨_, p3 1 (by decide), fun i hi => absurd hi (Nat.not_lt_zero _)⟩, Nat.zero_le _, fun c hc => absurd hc List.not_mem_nil⟩, ⟨⟨_, p4 0 (by decide)⟩, ⟨_, p4 1 (by decide)⟩, ⟨_, p4 2 (by decide)⟩, ⟨_, p4 3 (by decide)⟩⟩, ⟨p5 0 (by decide), ⟨_, p5 1 (by decide), fun i hi => absurd hi (Nat.not_lt_zero _)⟩, ⟨_, p5 2 (by decide), fun i hi => absurd hi (Nat.not_lt_zero _)⟩, Nat.zero_le _⟩, ⟨p6 0 (by decide), sh158.ts (by decide), zE_wf, ⟨_, p6 5 (by decide), fun i hi => absurd hi (Nat.not_lt_zero _)⟩, ⟨_, p6 6 (by decide), fun i hi => absurd hi (Nat.not_lt_zero _)⟩, Nat.zero_le _⟩, ⟨p7 0 (by decide), (sh165.ts (by decide)).sh, ⟨⟨_, _, p7 5 (by decide)⟩, (sh170.ts (by decide)).sh, ⟨_, p7 10 (by decide)⟩, ⟨_, p7 11 (by decide)⟩⟩, ⟨_, p7 12 (by decide)⟩⟩⟩, by omega⟩
  unfold f_ColumnVault_init
  rw [ze_b2 n1, ze_b2 e1, ze_b e2, ze_b2 n3, ze_b2 i3, ze_b e3, ze_b2 n4, ze_b2 i4, ze_b e4, ze_b2 n5, ze_b2 i5, ze_b e5, ze_b2 n6, ze_b2 i6, ze_b e6, ze_b2 n7, ze_b2 i7, ze_b e7]
end ZIP

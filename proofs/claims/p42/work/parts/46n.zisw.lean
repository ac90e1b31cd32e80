/-! ===== isWrong, whole ===== -/
section ZWC
variable {h g j : zx_H} {now : Nat} {ver : Nat → Nat → zT} {tx : List Nat} {pr : Nat × (Nat → Nat) × (Nat → Int32)} {gr : zT × Nat × Nat × (Nat → Int64) × (Nat → Nat → Bool)} {q pt a m k t p n i : Nat} {w s u u1 u2 : List Nat} {T : zT}
theorem zFt_of {kd : Nat} {pl : Int32} (wT : zWF T) (h1 : 1 ≤ T.nc) (h0 : T.kd 0 = 0) (hz : ∀ n, n < 5 → ∀ a, a < 2 → ∀ b, b < 2 → ∀ c, c < 2 → 1 ≤ n → zchk (zsh (zpW (ztk u) (zT0 n a b c))) kd pl = true) : zFt T u kd pl := zfaultC wT h1 h0 fun n hn a ha b hb c hc hx _ _ => hz n hn a ha b hb c hc hx
theorem zh_newI0 (hB : zM h ≤ 7000000) : zf_newa .int 1 (15 : Int32) h = some (h.length, h ++ [.inl (1, 15, .inl fun _ => 0)]) := by
  have hn := zh_newI (g := h) (r := []) (n := 15) (by show h.length + 0 < 600000; have := zM_l (h := h); omega) (by decide)
  rw [List.append_nil] at hn
  exact hn
theorem zgtU {e : zx_E} (x : h[p]? = some e) (U : zU q 1 h g) (hp : p < q ∨ q + 1 ≤ p) : g[p]? = some e := (U.2.2 p hp).trans x
theorem zst1 {P : Option ((Int32 ⊕ Nat) × zx_H) → Prop} {K : zx_H → Option ((Int32 ⊕ Nat) × zx_H)} {F : Nat → Option Nat} {c : Nat} (hl : h.length ≤ 600000) (e : g[q]? = some (.inl (6, 15, .inr (.inr (.inr (.inr F)))))) (U : zU q 1 h g) (hz : zLit c u) (hi : i < 15) (hP : ∀ j, j[q]? = some (.inl (6, 15, .inr (.inr (.inr (.inr (va_up F i (some c))))))) → zU q 1 h j → P (K j)) : P (zf_b (zf_stA q (nI i) c g) K) := by
  obtain ⟨j, e1, z1, U1⟩ := zh_stA (i := i) e (Or.inl hz : zSo g c u) hi (by rw [U.1]; exact hl)
  rw [ze_b e1]
  exact hP j z1 (zU_t U U1)
theorem zst2 {P : Option ((Int32 ⊕ Nat) × zx_H) → Prop} {K : zx_H → Option ((Int32 ⊕ Nat) × zx_H)} {f : Nat → Int32} (i x : Nat) (e : g[q]? = some (.inl (1, 15, .inl f))) (U : zU q 1 h g) (hi : i < 15) (hP : ∀ j, j[q]? = some (.inl (1, 15, .inl (upd f i (nI x)))) → zU q 1 h j → P (K j)) : P (zf_b (zf_stI q (nI i) (nI x) g) K) := by
  have e1 := zh_stI (j := i) (x := nI x) e hi (by decide)
  rw [ze_b e1]
  exact hP _ (zh_set_s e) (zU_t U (zU_s e rfl (by omega)))
theorem zwr27 (r : zR h) (w : zWd h now ver tx pr gr) (ht : t < 3) (h1 : 1 ≤ (ver now t).nc) (h0 : (ver now t).kd 0 = 0) (hn : (ver now t).nc = n) {p4 : Int32} (hp4 : ¬ p4 = 0 → 1 < n ∧ (ver now t).kd 1 = 1) (hB : zM h ≤ 6600000) : zWr now ver pr gr h 10000 (f_ColumnVaultLaw_isWrong_27 1 0 (nI t) (nI n) p4 h) := by
  have wT := w.F ht
  have h4 := wT.c4
  have hwl := w.len
  obtain ⟨x, g1, hx, e1, r1, w1, G1⟩ := zdrawW r w (n := 2) (by decide) (by decide)
  obtain ⟨y, g2, hy, e2, r2, w2, G2⟩ := zdrawW r1 w1 (n := 1000000) (by decide) (by decide)
  have hxy : x * y ≤ 1 * 999999 := Nat.mul_le_mul (by omega) (by omega)
  have m1 := G1.m
  have m2 := G2.m
  have l1 := G1.l
  have l2 := G2.l
  unfold f_ColumnVaultLaw_isWrong_27
  rw [show (2 : Int32) = nI 2 from rfl, ze_b2 e1, show (1000000 : Int32) = nI 1000000 from rfl, ze_b2 e2, show (1000001 : Int32) = nI 1000001 from rfl, pk_mul, nI_add]
  generalize hN : 1000001 + x * y = N
  have n3 := zh_newR (h := g2) (zlim (by omega))
  have G3 : zG 27 0 0 g2 (g2 ++ [.inl (6, 15, .inr (.inr (.inr (.inr fun _ => none))))]) := zG_app (c := .inl (6, 15, .inr (.inr (.inr (.inr fun _ => none)))))
  have i3 : (g2 ++ [(.inl (6, 15, .inr (.inr (.inr (.inr fun _ => none)))) : zx_E)])[g2.length]? = some (.inl (6, 15, .inr (.inr (.inr (.inr fun _ => none))))) := zG_end
  have l3 : (g2 ++ [(.inl (6, 15, .inr (.inr (.inr (.inr fun _ => none)))) : zx_E)]).length = g2.length + 1 := List.length_append
  rw [ze_b2 n3]
  generalize g2 ++ [(.inl (6, 15, .inr (.inr (.inr (.inr fun _ => none)))) : zx_E)] = g3 at G3 i3 l3
  have m3 := G3.m
  have hl0 : g3.length ≤ 600000 := zlen (by omega)
  refine zst1 (P := zWr now ver pr gr h 10000) (i := 0) hl0 i3 zU_r zl_604 (by decide) fun g4 i4 U4 => ?_
  refine zst1 (P := zWr now ver pr gr h 10000) (i := 1) hl0 i4 U4 zl_636 (by decide) fun g4 i4 U4 => ?_
  refine zst1 (P := zWr now ver pr gr h 10000) (i := 2) hl0 i4 U4 zl_638 (by decide) fun g4 i4 U4 => ?_
  refine zst1 (P := zWr now ver pr gr h 10000) (i := 3) hl0 i4 U4 zl_640 (by decide) fun g4 i4 U4 => ?_
  refine zst1 (P := zWr now ver pr gr h 10000) (i := 4) hl0 i4 U4 zl_600 (by decide) fun g4 i4 U4 => ?_
  refine zst1 (P := zWr now ver pr gr h 10000) (i := 5) hl0 i4 U4 zl_642 (by decide) fun g4 i4 U4 => ?_
  refine zst1 (P := zWr now ver pr gr h 10000) (i := 6) hl0 i4 U4 zl_644 (by decide) fun g4 i4 U4 => ?_
  refine zst1 (P := zWr now ver pr gr h 10000) (i := 7) hl0 i4 U4 zl_646 (by decide) fun g4 i4 U4 => ?_
  refine zst1 (P := zWr now ver pr gr h 10000) (i := 8) hl0 i4 U4 zl_648 (by decide) fun g4 i4 U4 => ?_
  refine zst1 (P := zWr now ver pr gr h 10000) (i := 9) hl0 i4 U4 zl_650 (by decide) fun g4 i4 U4 => ?_
  refine zst1 (P := zWr now ver pr gr h 10000) (i := 10) hl0 i4 U4 zl_652 (by decide) fun g4 i4 U4 => ?_
  refine zst1 (P := zWr now ver pr gr h 10000) (i := 11) hl0 i4 U4 zl_654 (by decide) fun g4 i4 U4 => ?_
  refine zst1 (P := zWr now ver pr gr h 10000) (i := 12) hl0 i4 U4 zl_656 (by decide) fun g4 i4 U4 => ?_
  refine zst1 (P := zWr now ver pr gr h 10000) (i := 13) hl0 i4 U4 zl_658 (by decide) fun g4 i4 U4 => ?_
  refine zst1 (P := zWr now ver pr gr h 10000) (i := 14) hl0 i4 U4 zl_660 (by decide) fun g4 i4 U4 => ?_
  have m4 : zM g4 = zM g3 := by unfold zM; rw [U4.1, U4.2.1]
  have l4 := U4.1
  have n5 := zh_newR (h := g4) (zlim (by omega))
  have G5 : zG 27 0 0 g4 (g4 ++ [.inl (6, 15, .inr (.inr (.inr (.inr fun _ => none))))]) := zG_app (c := .inl (6, 15, .inr (.inr (.inr (.inr fun _ => none)))))
  have i5 : (g4 ++ [(.inl (6, 15, .inr (.inr (.inr (.inr fun _ => none)))) : zx_E)])[g4.length]? = some (.inl (6, 15, .inr (.inr (.inr (.inr fun _ => none))))) := zG_end
  have l5 : (g4 ++ [(.inl (6, 15, .inr (.inr (.inr (.inr fun _ => none)))) : zx_E)]).length = g4.length + 1 := List.length_append
  rw [ze_b2 n5]
  generalize g4 ++ [(.inl (6, 15, .inr (.inr (.inr (.inr fun _ => none)))) : zx_E)] = g5 at G5 i5 l5
  have m5 := G5.m
  have hl0 : g5.length ≤ 600000 := zlen (by omega)
  refine zst1 (P := zWr now ver pr gr h 10000) (i := 0) hl0 i5 zU_r zl_604 (by decide) fun g6 i6 U6 => ?_
  have m6 : zM g6 = zM g5 := by unfold zM; rw [U6.1, U6.2.1]
  have l6 := U6.1
  obtain ⟨g7, v33, ds, hK, s7, d1, d2, d3, d4, G7⟩ := zwt_num (h := g6) (n := N) (by omega) (by omega)
  have m7 := G7.m
  have l7 := G7.l
  have i7 := G7.gt i6 (Or.inr (Nat.zero_le _))
  rw [hK]
  obtain ⟨g8, e8, i8, U8⟩ := zh_stA (i := 1) i7 (Or.inr s7 : zSo g7 v33 ds) (by decide) (zlen (by omega))
  have e8 : zf_stA g4.length (1 : Int32) v33 g7 = some g8 := e8
  have m8 : zM g8 = zM g7 := by unfold zM; rw [U8.1, U8.2.1]
  have l8 := U8.1
  have s8 := s7.U i7 (by decide) U8
  rw [ze_b e8]
  have hl0 : g8.length ≤ 600000 := zlen (by omega)
  refine zst1 (P := zWr now ver pr gr h 10000) (i := 2) hl0 i8 zU_r zl_662 (by decide) fun g9 i9 U9 => ?_
  refine zst1 (P := zWr now ver pr gr h 10000) (i := 3) hl0 i9 U9 zl_664 (by decide) fun g9 i9 U9 => ?_
  refine zst1 (P := zWr now ver pr gr h 10000) (i := 4) hl0 i9 U9 zl_666 (by decide) fun g9 i9 U9 => ?_
  refine zst1 (P := zWr now ver pr gr h 10000) (i := 5) hl0 i9 U9 zl_604 (by decide) fun g9 i9 U9 => ?_
  refine zst1 (P := zWr now ver pr gr h 10000) (i := 6) hl0 i9 U9 zl_668 (by decide) fun g9 i9 U9 => ?_
  refine zst1 (P := zWr now ver pr gr h 10000) (i := 7) hl0 i9 U9 zl_670 (by decide) fun g9 i9 U9 => ?_
  refine zst1 (P := zWr now ver pr gr h 10000) (i := 8) hl0 i9 U9 zl_672 (by decide) fun g9 i9 U9 => ?_
  refine zst1 (P := zWr now ver pr gr h 10000) (i := 9) hl0 i9 U9 zl_674 (by decide) fun g9 i9 U9 => ?_
  refine zst1 (P := zWr now ver pr gr h 10000) (i := 10) hl0 i9 U9 zl_626 (by decide) fun g9 i9 U9 => ?_
  refine zst1 (P := zWr now ver pr gr h 10000) (i := 11) hl0 i9 U9 zl_604 (by decide) fun g9 i9 U9 => ?_
  refine zst1 (P := zWr now ver pr gr h 10000) (i := 12) hl0 i9 U9 zl_676 (by decide) fun g9 i9 U9 => ?_
  refine zst1 (P := zWr now ver pr gr h 10000) (i := 13) hl0 i9 U9 zl_624 (by decide) fun g9 i9 U9 => ?_
  have m9 : zM g9 = zM g8 := by unfold zM; rw [U9.1, U9.2.1]
  have l9 := U9.1
  have s9 := s8.U i8 (by decide) U9
  obtain ⟨g10, v58, hK2, s10, G10⟩ := zwt_col (h := g9) (n := n) (by omega) (by omega)
  have m10 := G10.m
  have l10 := G10.l
  have i10 := G10.gt i9 (Or.inr (Nat.zero_le _))
  have t10 := s9.G0 G10
  rw [hK2]
  obtain ⟨g11, e11, i11, U11⟩ := zh_stA (i := 14) i10 (Or.inr s10 : zSo g10 v58 _) (by decide) (zlen (by omega))
  have e11 : zf_stA g4.length (14 : Int32) v58 g10 = some g11 := e11
  have m11 : zM g11 = zM g10 := by unfold zM; rw [U11.1, U11.2.1]
  have l11 := U11.1
  have s11 := s10.U i10 (by decide) U11
  have t11 := t10.U i10 (by decide) U11
  rw [ze_b e11]
  have n12 := zh_newI0 (h := g11) (by omega)
  have G12 : zG 27 0 0 g11 (g11 ++ [.inl (1, 15, .inl fun _ => 0)]) := zG_app (c := .inl (1, 15, .inl fun _ => 0))
  have i12 : (g11 ++ [(.inl (1, 15, .inl fun _ => 0) : zx_E)])[g11.length]? = some (.inl (1, 15, .inl fun _ => 0)) := zG_end
  have l12 : (g11 ++ [(.inl (1, 15, .inl fun _ => 0) : zx_E)]).length = g11.length + 1 := List.length_append
  rw [ze_b2 n12]
  generalize g11 ++ [(.inl (1, 15, .inl fun _ => 0) : zx_E)] = g12 at G12 i12 l12
  have m12 := G12.m
  have s12 := s11.G0 G12
  have t12 := t11.G0 G12
  refine zst2 (P := zWr now ver pr gr h 10000) 0 1 i12 zU_r (by decide) fun g13 i13 U13 => ?_
  refine zst2 (P := zWr now ver pr gr h 10000) 1 2 i13 U13 (by decide) fun g13 i13 U13 => ?_
  refine zst2 (P := zWr now ver pr gr h 10000) 2 1 i13 U13 (by decide) fun g13 i13 U13 => ?_
  refine zst2 (P := zWr now ver pr gr h 10000) 3 1 i13 U13 (by decide) fun g13 i13 U13 => ?_
  refine zst2 (P := zWr now ver pr gr h 10000) 4 1 i13 U13 (by decide) fun g13 i13 U13 => ?_
  refine zst2 (P := zWr now ver pr gr h 10000) 5 1 i13 U13 (by decide) fun g13 i13 U13 => ?_
  refine zst2 (P := zWr now ver pr gr h 10000) 6 2 i13 U13 (by decide) fun g13 i13 U13 => ?_
  refine zst2 (P := zWr now ver pr gr h 10000) 7 2 i13 U13 (by decide) fun g13 i13 U13 => ?_
  refine zst2 (P := zWr now ver pr gr h 10000) 8 2 i13 U13 (by decide) fun g13 i13 U13 => ?_
  refine zst2 (P := zWr now ver pr gr h 10000) 9 2 i13 U13 (by decide) fun g13 i13 U13 => ?_
  refine zst2 (P := zWr now ver pr gr h 10000) 10 1 i13 U13 (by decide) fun g13 i13 U13 => ?_
  refine zst2 (P := zWr now ver pr gr h 10000) 11 1 i13 U13 (by decide) fun g13 i13 U13 => ?_
  refine zst2 (P := zWr now ver pr gr h 10000) 12 1 i13 U13 (by decide) fun g13 i13 U13 => ?_
  refine zst2 (P := zWr now ver pr gr h 10000) 13 1 i13 U13 (by decide) fun g13 i13 U13 => ?_
  refine zst2 (P := zWr now ver pr gr h 10000) 14 2 i13 U13 (by decide) fun g13 i13 U13 => ?_
  have m13 : zM g13 = zM g12 := by unfold zM; rw [U13.1, U13.2.1]
  have l13 := U13.1
  have s13 := s12.U i12 (by decide) U13
  have t13 := t12.U i12 (by decide) U13
  have n14 := zh_newI0 (h := g13) (by omega)
  have G14 : zG 27 0 0 g13 (g13 ++ [.inl (1, 15, .inl fun _ => 0)]) := zG_app (c := .inl (1, 15, .inl fun _ => 0))
  have i14 : (g13 ++ [(.inl (1, 15, .inl fun _ => 0) : zx_E)])[g13.length]? = some (.inl (1, 15, .inl fun _ => 0)) := zG_end
  have l14 : (g13 ++ [(.inl (1, 15, .inl fun _ => 0) : zx_E)]).length = g13.length + 1 := List.length_append
  rw [ze_b2 n14]
  generalize g13 ++ [(.inl (1, 15, .inl fun _ => 0) : zx_E)] = g14 at G14 i14 l14
  have m14 := G14.m
  have s14 := s13.G0 G14
  have t14 := t13.G0 G14
  refine zst2 (P := zWr now ver pr gr h 10000) 0 0 i14 zU_r (by decide) fun g15 i15 U15 => ?_
  refine zst2 (P := zWr now ver pr gr h 10000) 1 5 i15 U15 (by decide) fun g15 i15 U15 => ?_
  refine zst2 (P := zWr now ver pr gr h 10000) 2 7 i15 U15 (by decide) fun g15 i15 U15 => ?_
  refine zst2 (P := zWr now ver pr gr h 10000) 3 3 i15 U15 (by decide) fun g15 i15 U15 => ?_
  refine zst2 (P := zWr now ver pr gr h 10000) 4 1 i15 U15 (by decide) fun g15 i15 U15 => ?_
  refine zst2 (P := zWr now ver pr gr h 10000) 5 8 i15 U15 (by decide) fun g15 i15 U15 => ?_
  refine zst2 (P := zWr now ver pr gr h 10000) 6 18 i15 U15 (by decide) fun g15 i15 U15 => ?_
  refine zst2 (P := zWr now ver pr gr h 10000) 7 3 i15 U15 (by decide) fun g15 i15 U15 => ?_
  refine zst2 (P := zWr now ver pr gr h 10000) 8 6 i15 U15 (by decide) fun g15 i15 U15 => ?_
  refine zst2 (P := zWr now ver pr gr h 10000) 9 5 i15 U15 (by decide) fun g15 i15 U15 => ?_
  refine zst2 (P := zWr now ver pr gr h 10000) 10 9 i15 U15 (by decide) fun g15 i15 U15 => ?_
  refine zst2 (P := zWr now ver pr gr h 10000) 11 11 i15 U15 (by decide) fun g15 i15 U15 => ?_
  refine zst2 (P := zWr now ver pr gr h 10000) 12 7 i15 U15 (by decide) fun g15 i15 U15 => ?_
  refine zst2 (P := zWr now ver pr gr h 10000) 13 11 i15 U15 (by decide) fun g15 i15 U15 => ?_
  refine zst2 (P := zWr now ver pr gr h 10000) 14 9 i15 U15 (by decide) fun g15 i15 U15 => ?_
  have m15 : zM g15 = zM g14 := by unfold zM; rw [U15.1, U15.2.1]
  have l15 := U15.1
  have s15 := s14.U i14 (by decide) U15
  have t15 := t14.U i14 (by decide) U15
  -- the cells at the end
  have A1 := zgtU (G14.gt (zgtU (G12.gt (zgtU (G10.gt (zgtU (zgtU (G7.gt (zgtU (G5.gt i4 (Or.inr (Nat.zero_le _))) U6 (by omega)) (Or.inr (Nat.zero_le _))) U8 (by omega)) U9 (by omega)) (Or.inr (Nat.zero_le _))) U11 (by omega)) (Or.inr (Nat.zero_le _))) U13 (by omega)) (Or.inr (Nat.zero_le _))) U15 (by omega)
  have A2 := zgtU (G14.gt (zgtU (G12.gt i11 (Or.inr (Nat.zero_le _))) U13 (by omega)) (Or.inr (Nat.zero_le _))) U15 (by omega)
  have A3 := zgtU (G14.gt i13 (Or.inr (Nat.zero_le _))) U15 (by omega)
  have F5 : ∀ {x : Nat} {a b : zx_H} {e : zx_E}, zU x 1 a b → 177 ≤ x → zG 0 x (x + 1) a b := fun U _ => zG_U U (Nat.le_refl _) (Nat.le_refl _)
  have r15 : zR g15 := ((((((((((((r2.G G3 (Or.inr rfl)).G (F5 (e := .inr (13, [])) U4 (by omega)) (Or.inl (by omega))).G G5 (Or.inr rfl)).G (F5 (e := .inr (13, [])) U6 (by omega)) (Or.inl (by omega))).G G7 (Or.inr rfl)).G (F5 (e := .inr (13, [])) U8 (by omega)) (Or.inl (by omega))).G (F5 (e := .inr (13, [])) U9 (by omega)) (Or.inl (by omega))).G G10 (Or.inr rfl)).G (F5 (e := .inr (13, [])) U11 (by omega)) (Or.inl (by omega))).G G12 (Or.inr rfl)).G (F5 (e := .inr (13, [])) U13 (by omega)) (Or.inl (by omega))).G G14 (Or.inr rfl)).G (F5 (e := .inr (13, [])) U15 (by omega)) (Or.inl (by omega))
  have w15 : zWd g15 now ver tx pr gr := ((((((((((((w2.G G3 (Or.inr (by decide))).G (F5 (e := .inr (13, [])) U4 (by omega)) (Or.inl (by omega))).G G5 (Or.inr (by decide))).G (F5 (e := .inr (13, [])) U6 (by omega)) (Or.inl (by omega))).G G7 (Or.inr (by decide))).G (F5 (e := .inr (13, [])) U8 (by omega)) (Or.inl (by omega))).G (F5 (e := .inr (13, [])) U9 (by omega)) (Or.inl (by omega))).G G10 (Or.inr (by decide))).G (F5 (e := .inr (13, [])) U11 (by omega)) (Or.inl (by omega))).G G12 (Or.inr (by decide))).G (F5 (e := .inr (13, [])) U13 (by omega)) (Or.inl (by omega))).G G14 (Or.inr (by decide))).G (F5 (e := .inr (13, [])) U15 (by omega)) (Or.inl (by omega))
  obtain ⟨i, g16, hi, e16, r16, w16, G16⟩ := zdrawW r15 w15 (n := 15) (by decide) (by decide)
  have m16 := G16.m
  have B1 := G16.gt A1 (Or.inr (by omega))
  have B2 := G16.gt A2 (Or.inr (by omega))
  have B3 := G16.gt A3 (Or.inr (by omega))
  have B4 := G16.gt i15 (Or.inr (by omega))
  have q33 : zStr g16 v33 ds := by
    obtain ⟨b, x', y', f, c1, c2, c3⟩ := t15
    have n1 : v33 ≠ 0 := fun z => by
      obtain ⟨f0, z0⟩ := r15
      rw [z, z0] at c1; cases c1
    have n2 : b ≠ 0 := fun z => by
      obtain ⟨f0, z0⟩ := r15
      rw [z, z0] at c2; cases c2
    exact ⟨b, x', y', f, G16.gt c1 (Or.inr (by omega)), G16.gt c2 (Or.inr (by omega)), c3⟩
  have q58 : zStr g16 v58 [35, 48 + n, 61, 49] := by
    obtain ⟨b, x', y', f, c1, c2, c3⟩ := s15
    have n1 : v58 ≠ 0 := fun z => by
      obtain ⟨f0, z0⟩ := r15
      rw [z, z0] at c1; cases c1
    have n2 : b ≠ 0 := fun z => by
      obtain ⟨f0, z0⟩ := r15
      rw [z, z0] at c2; cases c2
    exact ⟨b, x', y', f, G16.gt c1 (Or.inr (by omega)), G16.gt c2 (Or.inr (by omega)), c3⟩
  have hz0 : zFt (ver now t) [35, 48, 32, 61, 32, 102, 105, 118, 101] 3 5 := zFt_of wT h1 h0 zw_16
  have hz1 : ¬ p4 = 0 → zFt (ver now t) [35, 49, 32, 61, 32, 53] 3 5 := fun hp => by
    obtain ⟨c1, c2⟩ := hp4 hp
    refine zfaultC wT h1 h0 fun n' hn' a' ha b hb c hc _ e1' e2' => ?_
    have : a' = 1 := by rw [← c2]; exact e2' (by omega)
    subst this
    exact zw_15 n' hn' b hb c hc (by omega)
  have fin : zWr now ver pr gr h 10000 (f_ColumnVaultLaw_isWrong_475 1 (nI t) p4 g2.length g4.length g11.length g13.length (nI i) g16) := by
    have go := fun (p1 p2 kd : Nat) (pl : Int32) (u1 u2 : List Nat) (j1 : _ = some p1) (j2 : _ = some p2) (j3 : _ = nI kd) (j4 : _ = pl) (s1 : zSo g16 p1 u1) (s2 : zSo g16 p2 u2) (hl1 : u1.length ≤ 30) (hl2 : u2.length ≤ 30) (hc : ∀ c ∈ u1 ++ u2, 1 ≤ c) (hz : zFt (ver now t) (u1 ++ u2) kd pl) => zWr_m (h := h) (k := 10000) (zwr475 r16 w16 ht hi B1 B2 B3 B4 (by omega) (by omega) j1 j2 j3 j4 s1 s2 hl1 hl2 hc hz hz0 hz1 (by omega)) (by omega)
    match i, hi, go with
    | 0, _, go => exact go _ _ _ _ _ _ rfl rfl rfl rfl (Or.inl zl_604) (Or.inl zl_604) (by decide) (by decide) (by decide) (zFt_of wT h1 h0 zw_0)
    | 1, _, go => exact go _ _ _ _ _ _ rfl rfl rfl rfl (Or.inl zl_636) (Or.inr q33) (by decide) (by omega) (fun c hc => by
      rcases List.mem_append.mp hc with x | x
      · exact (by decide : ∀ c ∈ [35, 48, 32, 60, 32], 1 ≤ c) c x
      · have := d1 c x; omega) (zfaultC wT h1 h0 fun n' hn' a' ha b hb c hc hx _ _ => by
        rw [ztk_far d1 d2 d3 (by omega) d4]
        exact zw_1 (by omega) n' hn' a' ha b hb c hc hx)
    | 2, _, go => exact go _ _ _ _ _ _ rfl rfl rfl rfl (Or.inl zl_638) (Or.inl zl_662) (by decide) (by decide) (by decide) (zFt_of wT h1 h0 zw_2)
    | 3, _, go => exact go _ _ _ _ _ _ rfl rfl rfl rfl (Or.inl zl_640) (Or.inl zl_664) (by decide) (by decide) (by decide) (zFt_of wT h1 h0 zw_3)
    | 4, _, go => exact go _ _ _ _ _ _ rfl rfl rfl rfl (Or.inl zl_600) (Or.inl zl_666) (by decide) (by decide) (by decide) (zFt_of wT h1 h0 zw_4)
    | 5, _, go => exact go _ _ _ _ _ _ rfl rfl rfl rfl (Or.inl zl_642) (Or.inl zl_604) (by decide) (by decide) (by decide) (zFt_of wT h1 h0 zw_5)
    | 6, _, go => exact go _ _ _ _ _ _ rfl rfl rfl rfl (Or.inl zl_644) (Or.inl zl_668) (by decide) (by decide) (by decide) (zFt_of wT h1 h0 zw_6)
    | 7, _, go => exact go _ _ _ _ _ _ rfl rfl rfl rfl (Or.inl zl_646) (Or.inl zl_670) (by decide) (by decide) (by decide) (zFt_of wT h1 h0 zw_7)
    | 8, _, go => exact go _ _ _ _ _ _ rfl rfl rfl rfl (Or.inl zl_648) (Or.inl zl_672) (by decide) (by decide) (by decide) (zFt_of wT h1 h0 zw_8)
    | 9, _, go => exact go _ _ _ _ _ _ rfl rfl rfl rfl (Or.inl zl_650) (Or.inl zl_674) (by decide) (by decide) (by decide) (zFt_of wT h1 h0 zw_9)
    | 10, _, go => exact go _ _ _ _ _ _ rfl rfl rfl rfl (Or.inl zl_652) (Or.inl zl_626) (by decide) (by decide) (by decide) (zFt_of wT h1 h0 zw_10)
    | 11, _, go => exact go _ _ _ _ _ _ rfl rfl rfl rfl (Or.inl zl_654) (Or.inl zl_604) (by decide) (by decide) (by decide) (zFt_of wT h1 h0 zw_11)
    | 12, _, go => exact go _ _ _ _ _ _ rfl rfl rfl rfl (Or.inl zl_656) (Or.inl zl_676) (by decide) (by decide) (by decide) (zFt_of wT h1 h0 zw_12)
    | 13, _, go => exact go _ _ _ _ _ _ rfl rfl rfl rfl (Or.inl zl_658) (Or.inl zl_624) (by decide) (by decide) (by decide) (zFt_of wT h1 h0 zw_13)
    | 14, _, go => exact go _ _ _ _ _ _ rfl rfl rfl rfl (Or.inl zl_660) (Or.inr q58) (by decide) (by show 4 ≤ 30; decide) (fun c hc => by
      rcases List.mem_append.mp hc with x | x
      · exact (by decide : ∀ c ∈ [35, 48, 32, 61, 32, 53, 32, 124, 32], 1 ≤ c) c x
      · rcases List.mem_cons.mp x with x | x
        · omega
        · rcases List.mem_cons.mp x with x | x
          · omega
          · exact (by decide : ∀ c ∈ [61, 49], 1 ≤ c) c x) (zfaultC wT h1 h0 fun n' hn' a' ha b hb c hc hx en _ => by
        have : n' = n := by rw [en, hn]
        subst this
        exact zw_14 n' hn' a' ha b hb c hc hx)
    | i + 15, hi, _ => omega
  rw [show (15 : Int32) = nI 15 from rfl, ze_b2 e16]
  by_cases h14 : i = 14
  · rw [if_neg (fun z => z (by rw [h14]; rfl)), if_pos (show nI n ≤ (9 : Int32) from nI_le (b := 9) (by omega) (by decide))]
    exact fin
  · rw [if_pos (show ¬ nI i = (14 : Int32) from fun z => h14 ((nI_eq (b := 14) (by omega) (by decide)).mp z))]
    exact fin
theorem zisWrong (r : zR h) (w : zWd h now ver tx pr gr) (ht : t < 3) (h1 : 1 ≤ (ver now t).nc) (h0 : (ver now t).kd 0 = 0) (hB : zM h ≤ 6600000) : zWr now ver pr gr h 10000 (f_ColumnVaultLaw_isWrong 1 0 (nI t) h) := by
  have h4 := (w.F ht).c4
  unfold f_ColumnVaultLaw_isWrong
  rw [ze_b w.is, ze_b3 (w.size1 ht)]
  by_cases hc : (ver now t).nc ≤ 1
  · rw [if_pos (show nI (ver now t).nc ≤ (1 : Int32) from nI_le (b := 1) hc (by decide))]
    exact zwr27 r w ht h1 h0 rfl (fun z => absurd rfl z) hB
  · have k1 := (w.F ht).k1 (c := 1) (by omega)
    have ek := w.kind ht (c := 1) (by omega)
    have ek : f_ColumnVault_kind 1 (nI t) (1 : Int32) h = _ := ek
    rw [if_neg (show ¬ nI (ver now t).nc ≤ (1 : Int32) from nI_ge (a := 1) (by omega) (by omega)), ze_b w.is, ze_b3 ek]
    by_cases hk : (ver now t).kd 1 = 1
    · rw [if_neg (fun z => z (by rw [hk]; rfl))]
      exact zwr27 r w ht h1 h0 rfl (fun _ => ⟨by omega, hk⟩) hB
    · rw [if_pos (show ¬ nI ((ver now t).kd 1) = (1 : Int32) from fun z => hk ((nI_eq (b := 1) (by omega) (by decide)).mp z))]
      exact zwr27 r w ht h1 h0 rfl (fun z => absurd rfl z) hB
end ZWC

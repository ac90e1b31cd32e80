/-! ===== isFilter ===== -/
section ZFG
variable {h g j : zx_H} {now : Nat} {ver : Nat → Nat → zT} {tx : List Nat} {pr : Nat × (Nat → Nat) × (Nat → Int32)} {gr : zT × Nat × Nat × (Nat → Int64) × (Nat → Nat → Bool)} {q pt a m k t p how N b0 b1 : Nat} {w s u : List Nat} {ts : List (Nat × Int64)} {T : zT} {S A : Nat → Bool}
theorem zSB.length {w : List Nat} (s : zSB h q a m w) : f_StringBuilder_length q h = some (nI w.length, h) := by
  obtain ⟨ml, f, e1, _⟩ := s
  unfold f_StringBuilder_length f_AbstractStringBuilder_length
  rw [ze_b (zh_is e1)]
  refine ze_b2 (a := nI w.length) (g := h) ?_
  rw [ze_b (zh_I e1 rfl)]
theorem zSB.G {x y : Nat} {w : List Nat} (s : zSB h q a m w) (G : zG k x y h g) (hq : q < x ∨ y ≤ q) (ha : a < x ∨ y ≤ a) : zSB g q a m w := by
  obtain ⟨_, _, c1, c2, _⟩ := id s
  exact s.keep (G.2.2 q (zlt_of c1) hq) (G.2.2 a (zlt_of c2) ha)
theorem zff169 (r : zR h) (w : zWd h now ver s pr gr) (ht : t < 3) (hNow : now < 90000) (sb : zSB h q a m s) (hq : 177 ≤ q) (ha : 177 ≤ a) (hs : s.length ≤ 155) (hc : ∀ c ∈ s, 1 ≤ c) (hm : m ≤ 18100) (z0 : zBa h b0 (ver now t).nr S) (hb0 : 177 ≤ b0) (lx : zLx s ts) (F : zFi (ver now t) 2 7 ts S k) (hk : k ≤ 64) (hB : zM h ≤ 6400000) : zFq t now ver pr gr h 46000 (f_ColumnVaultLaw_isFilter_169 1 0 (nI t) q b0 h) := by
  have h40 := (w.T ht).r40
  have hwl := w.len
  obtain ⟨g1, e1, z1, G1, l1⟩ := w.choice ht (by omega)
  have m1 := G1.m
  have r1 := r.G G1 (Or.inr rfl)
  have w1 := w.G G1 (Or.inr (by decide))
  have z01 := z0.G G1 (Or.inr (Nat.zero_le _))
  have sb1 := sb.G G1 (Or.inr (Nat.zero_le _)) (Or.inr (Nat.zero_le _))
  obtain ⟨how, g2, hh, e2, r2, w2, G2⟩ := zdrawW r1 w1 (n := 4) (by decide) (by decide)
  have m2 := G2.m
  have z02 := z01.G G2 (Or.inr (by omega))
  have z2 := z1.G G2 (Or.inr (by omega))
  have sb2 := sb1.G G2 (Or.inr (by omega)) (Or.inr (by omega))
  have hb : b0 < h.length := zlt_of z0.choose_spec.1
  have hlen := zlen (h := h) (by omega)
  unfold f_ColumnVaultLaw_isFilter_169
  rw [ze_b3 e1, show (4 : Int32) = nI 4 from rfl, ze_b2 e2, ze_b w2.is, ze_b2 w2.version, ← nI_0]
  refine zf192 (Q := zFq t now ver pr gr h 46000) (N := (ver now t).nr) (S := S) (A := (ver now t).ch) (b0 := b0) (b1 := h.length) h40 (by omega) (by omega) hh zF 0 g2 (Nat.zero_le _) (by unfold zF; omega) z02 (zBa_c z2 fun r _ => (if_neg (Nat.not_lt_zero r)).symm) fun m' g z U => ?_
  have G3 := zG_U U (a := h.length) (b := h.length + 1) (Nat.le_refl _) (Nat.le_refl _)
  have m3 := G3.m
  have hq1 : q < h.length := by
    obtain ⟨_, _, c1, c2, _⟩ := id sb
    exact zlt_of c1
  have ha1 : a < h.length := by
    obtain ⟨_, _, c1, c2, _⟩ := id sb
    exact zlt_of c2
  exact zFq_m (zffE (r2.G G3 (Or.inl (by omega))) (w2.G G3 (Or.inl (by omega))) rfl ht hNow (sb2.G G3 (Or.inl hq1) (Or.inl ha1)) hq ha hs hc hm (z02.G G3 (Or.inl hb)) z hb0 (by omega) hh lx F hk (by omega) m') (by omega)
theorem zff19 (r : zR h) (w : zWd h now ver tx pr gr) (ht : t < 3) (h1 : 1 ≤ (ver now t).nc) (hNow : now < 90000) (hq : 177 ≤ q) (e : h[q]? = some (.inr (1, zx_def 1))) {lit : Nat} {l : List Nat} (hl : zLit lit l) (hll : l.length ≤ 1) (hly : zLy l []) (hlc : ∀ c ∈ l, 1 ≤ c) (hB : zM h ≤ 4900000) : zFq t now ver pr gr h 1499000 (f_ColumnVaultLaw_isFilter_19 1 0 (nI t) q q lit h) := by
  have wT := w.F ht
  have h40 := (w.T ht).r40
  have hwl := w.len
  have hqh := zlt_of e
  obtain ⟨g1, a1, e1, s1, c1, c2, c3, c4⟩ := zSB_of hl (by omega) e (by omega)
  have G1 : zG 60 q (q + 1) h g1 := ⟨c2, c3, fun r hr hx => c4 r hr (by omega)⟩
  have r1 := r.G G1 (Or.inl (by omega))
  have w1 := w.G G1 (Or.inl (by omega))
  have m1 := G1.m
  have ha1 : a1 < g1.length := by
    obtain ⟨_, _, d1, d2, _⟩ := id s1
    exact zlt_of d2
  have hn := zh_newI (g := g1) (r := []) (n := 1) (by show g1.length + 0 < 600000; have := zM_l (h := g1); omega) (by decide)
  rw [List.append_nil] at hn
  have hn : zf_newa .int 1 (1 : Int32) g1 = some (g1.length, g1 ++ [.inl (1, 1, .inl fun _ => 0)]) := hn
  have G2 : zG 13 0 0 g1 (g1 ++ [.inl (1, 1, .inl fun _ => 0)]) := zG_app (c := .inl (1, 1, .inl fun _ => 0))
  have i2 : (g1 ++ [(.inl (1, 1, .inl fun _ => 0) : zx_E)])[g1.length]? = some (.inl (1, 1, .inl fun _ => 0)) := zG_end
  generalize g1 ++ [(.inl (1, 1, .inl fun _ => 0) : zx_E)] = g2 at hn G2 i2
  have m2 := G2.m
  have l2 := G2.l
  have st := zh_stI (q := g1.length) (j := 0) (x := (0 : Int32)) i2 (by decide) (by decide)
  have st : zf_stI g1.length (0 : Int32) (0 : Int32) g2 = _ := st
  generalize hg3 : g2.set g1.length (.inl (1, 1, .inl (upd (fun _ => 0) 0 0))) = g3 at st
  have i3 : g3[g1.length]? = some (.inl (1, 1, .inl (upd (fun _ => 0) 0 0))) := by rw [← hg3]; exact zh_set_s i2
  have U3 : zU g1.length 1 g2 g3 := by rw [← hg3]; exact zU_s i2 rfl (by omega)
  have G3 := zG_U U3 (a := g1.length) (b := g1.length + 1) (Nat.le_refl _) (Nat.le_refl _)
  have m3 := G3.m
  have l3 := U3.1
  have r3 := (r1.G G2 (Or.inr rfl)).G G3 (Or.inl (by omega))
  have w3 := (w1.G G2 (Or.inr (by decide))).G G3 (Or.inl (by omega))
  have s3 := (s1.G G2 (Or.inr (Nat.zero_le _)) (Or.inr (Nat.zero_le _))).G G3 (Or.inl (by omega)) (Or.inl ha1)
  have x3 : zLw g3 now ver tx pr gr q a1 (l.length + 16) l g1.length 0 := ⟨r3, w3, s3, ⟨_, i3, rfl⟩, hq, by omega, by omega, by omega, by omega⟩
  obtain ⟨g4, a4, m4, b, s, ts, S, n, e4, x4, f4, z4, c5, lx, hd, ch, ls, o1, o2, P, k16, k18⟩ := zfilter0 (T := ver now t) rfl wT ht h1 g3 a1 (l.length + 16) 0 l x3 (by omega) (by omega) (by omega) (by omega)
  have e4 : f_ColumnVaultLaw_filter (f_ColumnVaultLaw_piece 20) 0 1 (nI t) q (0 : Int32) g1.length g3 = some (.inl b, g4) := e4
  obtain ⟨r4, w4, s4, ⟨fp, ip, hp⟩, q1, q2, q3, q4, q5⟩ := id x4
  have l34 := f4.1
  have q34 := f4.2.1
  have hlen : (l ++ s).length = l.length + s.length := List.length_append
  have hn64 : 20900 * n ≤ 20900 * 64 := Nat.mul_le_mul_left _ o2
  have m4 : zM g4 ≤ zM h + 1380000 := by omega
  unfold f_ColumnVaultLaw_isFilter_19
  rw [ze_b2 e1, ze_b2 hn, ze_b st, ze_b3 e4, ze_b s4.is, ze_b2 s4.length]
  by_cases h155 : (l ++ s).length ≤ 155
  · rw [if_pos (show nI (l ++ s).length ≤ (155 : Int32) from nI_le (b := 155) h155 (by decide))]
    have lx2 : zLx (l ++ s) ts := zLyx hly lx
    have hc2 : ∀ c ∈ l ++ s, 1 ≤ c := fun c hc => by
      rcases List.mem_append.mp hc with x | x
      · exact hlc c x
      · exact ch c x
    have hsc : ∀ c ∈ l ++ s, c < 128 := by
      obtain ⟨_, _, _, _, _, _, _, _, x⟩ := id s4
      exact x
    obtain ⟨g5, e5, w5, G5⟩ := w4.says (p := q) (s := l ++ s) (fun g' G' => by
      have mm := G'.m
      exact (s4.G G' (Or.inr (by omega)) (Or.inr (by omega))).cq (zlen (h := g') (by omega))) (by omega) (fun c hc => ⟨hc2 c hc, by have := hsc c hc; omega⟩)
    have m5 := G5.m
    have r5 := r4.G G5 (Or.inl (by decide))
    have z5 := z4.G G5 (Or.inr (by omega))
    have s5 := s4.G G5 (Or.inr (by omega)) (Or.inr (by omega))
    have ip5 := G5.gt ip (Or.inr (by omega))
    obtain ⟨t1, t2⟩ := ztk_at lx2 (by omega)
    obtain ⟨wd, p', S', e0, ag, hw0⟩ := P.whole (by decide) t1 t2
    have hwd : wd ≤ 448 := by omega
    obtain ⟨g6, e6, w6, G6⟩ := w5.errorKind ht (by rw [e0]; show zM g5 + 20 * wd ≤ _; omega)
    rw [e0] at e6 G6
    have e6 : f_ColumnVault_errorKind 1 (nI t) g5 = some (.inl 0, g6) := e6
    have G6 : zG (20 * wd + 100) 150 154 g5 g6 := G6
    have m6 := G6.m
    obtain ⟨g7, e7, w7, G7⟩ := w6.errorPlace ht (by rw [e0]; show zM g6 + 20 * wd ≤ _; omega)
    rw [e0] at e7 G7
    have e7 : f_ColumnVault_errorPlace 1 (nI t) g6 = some (.inl (-1), g7) := e7
    have G7 : zG (20 * wd + 100) 150 154 g6 g7 := G7
    have m7 := G7.m
    obtain ⟨g8, e8, w8, G8⟩ := w7.count ht e0 (by omega)
    have m8 := G8.m
    have ct : fb_ct S' (ver now t).nr = fb_ct S (ver now t).nr := fb_ct_cong ag
    rw [ct] at e8
    have z8 := ((z5.G G6 (Or.inr (by omega))).G G7 (Or.inr (by omega))).G G8 (Or.inr (by omega))
    have hb : b ≤ 600000 := by
      have := zlen (h := g8) (by omega)
      have := zlt_of z8.choose_spec.1
      omega
    obtain ⟨x, g9, e9, k1, k2, w9, G9⟩ := w8.reads ht 0 e0 (by omega)
    have m9 := G9.m
    obtain ⟨y, g10, e10, k3, k4, w10, G10⟩ := w9.reads ht 1 e0 (by omega)
    have m10 := G10.m
    have G6' := (((G6.t G7).t G8).t G9).t G10
    have r10 := r5.G G6' (Or.inl (by decide))
    have z10 := z5.G G6' (Or.inr (by omega))
    have s10 := s5.G G6' (Or.inr (by omega)) (Or.inr (by omega))
    have ip10 := G6'.gt ip5 (Or.inr (by omega))
    have hne : g1.length ≠ zx_lim := by
      have := zlen (h := g1) (by omega)
      show g1.length ≠ 1000000
      omega
    have ld : zf_ldI g1.length (0 : Int32) g10 = some (nI n) := by
      have := zh_ldI (j := 0) hne ip10 (by decide) (by decide)
      rw [hp, Nat.zero_add] at this
      exact this
    have hnn : n * (ver now t).nr ≤ 64 * 40 := Nat.mul_le_mul o2 h40
    have lb := z10.len hb
    have fin : zFq t now ver pr gr h 1499000 (f_ColumnVaultLaw_isFilter_169 1 0 (nI t) q b g10) := zFq_m (zff169 r10 w10 ht hNow s10 hq (by omega) h155 hc2 k18 z10 (by omega) lx2 P o2 (by omega)) (by omega)
    rw [ze_b2 e5, ze_b w5.is, ze_b3 e6, if_neg (fun x => x rfl), ze_b w6.is, ze_b3 e7, if_neg (fun x => x rfl), ze_b w7.is, ze_b3 e8, ze_b2 (z8.size h40 hb), if_pos rfl, ze_b w8.is, ze_b3 e9, ze_b w9.is, ze_b3 e10, ze_b lb, if_neg (nI_nlt k1 (by omega)), ze_b ld, ze_b lb, pk_mul, if_neg (nI_nlt k2 (by omega)), ze_b lb, if_neg (nI_nlt k3 (by omega)), ze_b ld, ze_b lb, pk_mul, if_neg (nI_nlt k4 (by omega)), ze_b ld]
    by_cases hn1 : n = 1
    · rw [if_neg (fun y => y (by rw [hn1]; rfl)), ze_b lb, if_pos (by rw [show x = (ver now t).nr by rw [hn1] at k2; omega])]
      exact fin
    · rw [if_pos (show ¬ nI n = 1 from fun y => hn1 ((nI_eq (b := 1) (by omega) (by decide)).mp y))]
      exact fin
  · rw [if_neg (show ¬ nI (l ++ s).length ≤ (155 : Int32) from nI_ge (a := 155) (by omega) (by omega))]
    exact ⟨g4, now, ver, tx, rfl, r4, w4, ⟨Nat.le_refl _, by omega, by omega, fun _ _ => rfl⟩, rfl, rfl, rfl⟩
theorem zisFilter (r : zR h) (w : zWd h now ver tx pr gr) (ht : t < 3) (h1 : 1 ≤ (ver now t).nc) (hNow : now < 90000) (hB : zM h ≤ 4800000) : zFq t now ver pr gr h 1500000 (f_ColumnVaultLaw_isFilter 1 0 (nI t) h) := by
  have hwl := w.len
  have hn := zh_newO (ci := 1) (h := h) (zlim (by omega))
  have G1 : zG 16 0 0 h (h ++ [.inr (1, zx_def 1)]) := zG_app (c := .inr (1, zx_def 1))
  have i1 : (h ++ [(.inr (1, zx_def 1) : zx_E)])[h.length]? = some (.inr (1, zx_def 1)) := zG_end
  generalize h ++ [(.inr (1, zx_def 1) : zx_E)] = g1 at hn G1 i1
  have m1 := G1.m
  obtain ⟨v, g2, hv, e2, r2, w2, G2⟩ := zdrawW (r.G G1 (Or.inr rfl)) (w.G G1 (Or.inr (by decide))) (n := 3) (by decide) (by decide)
  have m2 := G2.m
  have i2 := G2.gt i1 (Or.inr (by omega))
  unfold f_ColumnVaultLaw_isFilter
  rw [ze_b2 hn, show (3 : Int32) = nI 3 from rfl, ze_b2 e2]
  by_cases hv0 : v = 0
  · rw [if_neg (fun y => y (by rw [hv0]; rfl))]
    exact zFq_m (zff19 r2 w2 ht h1 hNow hwl i2 zl_602 (by decide) zLy_sp (by decide) (by omega)) (by omega)
  · rw [if_pos (nI_ne0 (by omega) (by omega))]
    exact zFq_m (zff19 r2 w2 ht h1 hNow hwl i2 zl_604 (by decide) zLy_nil (fun c hc => absurd hc List.not_mem_nil) (by omega)) (by omega)
end ZFG

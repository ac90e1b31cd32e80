/-! ===== a part of a drawn filter ===== -/
section ZPD
variable {h g j : zx_H} {now : Nat} {ver : Nat → Nat → zT} {tx : List Nat} {pr : Nat × (Nat → Nat) × (Nat → Int32)} {gr : zT × Nat × Nat × (Nat → Int64) × (Nat → Nat → Bool)} {q pt a m a' m' p c k b0 t d e L N B : Nat} {w u : List Nat} {T : zT} {M : zKp1} {A : Nat → Bool}
def zPcOK (M : zKp1) (now : Nat) (ver : Nat → Nat → zT) (tx : List Nat) (pr : Nat × (Nat → Nat) × (Nat → Int32)) (gr : zT × Nat × Nat × (Nat → Int64) × (Nat → Nat → Bool)) (q pt t : Nat) (T : zT) (d : Nat) (P : List (Nat × Int64) → (Nat → Bool) → Nat → Prop) (L N B : Nat) : Prop := ∀ (h : zx_H) (a m k : Nat) (w : List Nat), zLw h now ver tx pr gr q a m w pt k → 16 ≤ m → m ≤ 18100 → w.length + L * N + 120 ≤ 8700 → zM h + 60000 + B * N ≤ 6400000 + 2 * m → zOut now ver tx pr gr q pt a m w k T P L N B h (M 0 1 (nI t) q (nI d) pt h)
theorem zLg_c {b : Nat} (u : zU b 1 h g) : zLg b 0 q pt a m a m h g := ⟨by rw [u.1]; exact Nat.le_refl _, by unfold zM; rw [u.1, u.2.1]; omega, Nat.le_refl _, Or.inl rfl, fun p _ _ _ _ _ hp => u.2.2 p (by omega)⟩
theorem zhd_app {s u : List Nat} (a : zhd s) (b : zhd u) : zhd (s ++ u) := by
  rcases a with rfl | ⟨c, s2, rfl, h1, h2⟩
  · exact b
  · exact Or.inr ⟨c, s2 ++ u, rfl, h1, h2⟩
theorem zLy_amp : zLy [32, 38, 32] [(38, -1)] := zLyy zLy_sp (zLyy (s := [38]) (s' := [32]) (ts := [(38, -1)]) (ts' := []) (zLy_sg (by decide)) zLy_sp)
theorem zLy_bar : zLy [32, 124, 32] [(124, -1)] := zLyy zLy_sp (zLyy (s := [124]) (s' := [32]) (ts := [(124, -1)]) (ts' := []) (zLy_sg (by decide)) zLy_sp)
theorem zmul_le {x n N : Nat} (h : n ≤ N) : x * n ≤ x * N := Nat.mul_le_mul_left _ h
theorem zprt (hP : zPcOK M now ver tx pr gr q pt t T d (zPi T e c) L N B) {K : zK24} {p7 p8 : Int32} (h40 : T.nr ≤ 40) (x : zLw h now ver tx pr gr q a m w pt k) (h16 : 16 ≤ m) (hm : m ≤ 18100) (z0 : zBa h b0 T.nr A) (hb0 : 177 ≤ b0) (hw : w.length + 2 * (L * N) + 130 ≤ 8700) (hB : zM h + 60200 + 2 * (B * N) ≤ 6400000 + 2 * m) : ∃ g a' m' s ts S n, f_ColumnVaultLaw_filter_58 M K 0 1 (nI t) q (nI d) pt b0 p7 p8 h = K 0 1 (nI t) q (nI d) pt b0 p7 (p8 + (1 : Int32)) g ∧ zLw g now ver tx pr gr q a' m' (w ++ s) pt (k + n) ∧ zLg b0 ((B + 100) * n) q pt a m a' m' h g ∧ zBa g b0 T.nr (fun j => A j || S j) ∧ zLx s ts ∧ zhd s ∧ (∀ c ∈ s, 1 ≤ c) ∧ s.length ≤ (L + 3) * n ∧ 1 ≤ n ∧ n ≤ 2 * N ∧ zPt T e (c + 1) ts S n ∧ 16 ≤ m' ∧ m' ≤ 18100 := by
  obtain ⟨g1, a1, m1, b1, s1, ts1, S1, n1, e1, x1, f1, z1, l1, lx1, hd1, ch1, ls1, o1, t1, P1, k16, k18⟩ := hP h a m k w x h16 hm (by omega) (by omega)
  have hn1 := zmul_le (x := B) t1
  have hl1 := zmul_le (x := L) t1
  have hlN := zlen (h := h) (by omega)
  have q1 := f1.2.1
  have hb0l : b0 < h.length := zlt_of z0.choose_spec.1
  have z01 := z0.keep x f1
  obtain ⟨v, g2, hv, e2, r2, G2, -⟩ := zdraw x1.1 (n := 3) (by decide) (by decide)
  obtain ⟨x2, f2⟩ := x1.G G2 r2
  have m2 := G2.m
  have l2 := G2.l
  have z02 := z01.keep x1 f2
  have z12 := z1.keep x1 f2
  have f12 := f1.t f2
  have hl0 : b0 ≤ 600000 := by omega
  obtain ⟨n00, n01, n02, n03⟩ := x2.ne (p := b0) z02.choose_spec.1 ⟨by decide, by decide⟩
  unfold f_ColumnVaultLaw_filter_58
  rw [ze_b3 e1, show (3 : Int32) = nI 3 from rfl, ze_b2 e2]
  by_cases hz : v = 0
  · obtain ⟨v2, g3, hv2, e3, r3, G3, -⟩ := zdraw x2.1 (n := 2) (by decide) (by decide)
    obtain ⟨x3, f3⟩ := x2.G G3 r3
    have m3 := G3.m
    have l3 := G3.l
    have z03 := z02.keep x2 f3
    have z13 := z12.keep x2 f3
    have fin : ∀ (lit : Nat) (l : List Nat), zLit lit l → l.length ≤ 3 → zLy l [(38, -1)] → (∀ c ∈ l, 1 ≤ c) → zhd l → ∃ g a' m' s ts S n, f_ColumnVaultLaw_filter_97 M K 0 1 (nI t) q (nI d) pt b0 p7 p8 b1 q lit g3 = K 0 1 (nI t) q (nI d) pt b0 p7 (p8 + (1 : Int32)) g ∧ zLw g now ver tx pr gr q a' m' (w ++ s) pt (k + n) ∧ zLg b0 ((B + 100) * n) q pt a m a' m' h g ∧ zBa g b0 T.nr (fun j => A j || S j) ∧ zLx s ts ∧ zhd s ∧ (∀ c ∈ s, 1 ≤ c) ∧ s.length ≤ (L + 3) * n ∧ 1 ≤ n ∧ n ≤ 2 * N ∧ zPt T e (c + 1) ts S n ∧ 16 ≤ m' ∧ m' ≤ 18100 := by
      intro lit l hl hl3 hly hlc hlh
      have hws : (w ++ s1).length = w.length + s1.length := List.length_append
      obtain ⟨g4, a4, m4, e4, x4, f4, b4⟩ := x3.lit hl (by omega) (by omega)
      have hm4 : m4 ≤ 18100 := zm_le b4 k18 (by omega)
      have q4 := f4.2.1
      have q4' := f4.2.2.1
      have l4 := f4.1
      have hws2 : (w ++ s1 ++ l).length = w.length + s1.length + l.length := by rw [List.length_append, hws]
      obtain ⟨g5, a5, m5, b5, s5, ts5, S5, n5, e5, x5, f5, z5, l5, lx5, hd5, ch5, ls5, o5, t5, P5, j16, j18⟩ := hP g4 a4 m4 (k + n1) (w ++ s1 ++ l) x4 (by omega) hm4 (by omega) (by omega)
      have hn5 := zmul_le (x := B) t5
      have hl5 := zmul_le (x := L) t5
      have q5 := f5.2.1
      have l5' := f5.1
      have z05 := (z03.keep x3 f4).keep x4 f5
      have z15 := (z13.keep x3 f4).keep x4 f5
      obtain ⟨g6, e6, z6, G6, l6⟩ := znewZ (h := g5) (n := T.nr) h40 (by omega)
      obtain ⟨x6, f6⟩ := x5.fr G6
      have m6 := G6.m
      have z06 := z05.keep x5 f6
      have z16 := z15.keep x5 f6
      have z56 := z5.keep x5 f6
      have hb1l : b1 < g5.length := zlt_of z15.choose_spec.1
      have hb5l : b5 < g5.length := zlt_of z5.choose_spec.1
      have hb0l5 : b0 < g5.length := zlt_of z05.choose_spec.1
      obtain ⟨y0, y1, y2, y3⟩ := x6.ne (p := g5.length) z6.choose_spec.1 ⟨by decide, by decide⟩
      obtain ⟨g7, e7, z7, U7⟩ := z124 (M := M) (K := K) (p0 := 0) (p1 := 1) (p3 := q) (p5 := pt) (p2 := nI t) (p4 := nI d) (p7 := p7) (p8 := p8) (A := A) (B := S1) (C := S5) (b0 := b0) (b1 := b1) (b2 := b5) (q7 := g5.length) h40 (by omega) (by omega) (by omega) hl0 zF 0 g6 (Nat.zero_le _) (by unfold zF; omega) z06 z16 z56 (z6.p0 _)
      rw [nI_0] at e7
      have G7 := zG_U U7 (a := g5.length) (b := g5.length + 1) (Nat.le_refl _) (Nat.le_refl _)
      have hwl := x.2.1.len
      have x7 := x6.cell G7 (by omega) y1 y2 y3
      have f67 := zLf.of (q := q) (pt := pt) (a := a5) (m := m5) G6 G7 (Nat.le_refl _)
      have z07 := z06.U U7 (by omega)
      obtain ⟨g8, e8, z8, U8⟩ := z171 (M := M) (K := K) (p0 := 0) (p1 := 1) (p3 := q) (p5 := pt) (p2 := nI t) (p4 := nI d) (p7 := p7) (p8 := p8) (A := A) (B := fun j => S1 j && S5 j) (b0 := b0) (b1 := g5.length) h40 (by omega) hl0 zF 0 g7 (Nat.zero_le _) (by unfold zF; omega) (zBa_c z07 fun r _ => (if_neg (Nat.not_lt_zero r)).symm) z7
      rw [nI_0] at e8
      obtain ⟨y0', y1', y2', y3'⟩ := x7.ne (p := b0) z07.choose_spec.1 ⟨by decide, by decide⟩
      have G8 := zG_U U8 (a := b0) (b := b0 + 1) (Nat.le_refl _) (Nat.le_refl _)
      have x8 := x7.cell G8 hb0 y1' y2' y3'
      have lx : zLx (s1 ++ (l ++ s5)) (ts1 ++ (38, -1) :: ts5) := zLx_app lx1 (zLyx hly lx5) (zhd_app hlh hd5)
      refine ⟨g8, a5, m5, s1 ++ (l ++ s5), ts1 ++ (38, -1) :: ts5, fun r => S1 r && S5 r, n1 + n5, ?_, ?_, ((((((f12.t f3).t f4).t f5).t f67).g0).tr (zLg_c U8)).wk ?_, z8, lx, zhd_app hd1 (zhd_app hlh hd5), fun c hc => ?_, ?_, by omega, by omega, zPi.part2 P1 P5, j16, j18⟩
      · unfold f_ColumnVaultLaw_filter_97
        rw [ze_b x3.2.2.1.is, ze_b2 e4, ze_b3 e5, ze_b (z05.len hl0), ze_b2 e6, e7]
        exact e8
      · have ew : w ++ (s1 ++ (l ++ s5)) = w ++ s1 ++ l ++ s5 := by simp only [List.append_assoc]
        rw [ew, ← Nat.add_assoc]
        exact x8
      · rw [Nat.mul_add, Nat.add_mul, Nat.add_mul]
        omega
      · rcases List.mem_append.mp hc with hc | hc
        · exact ch1 c hc
        · rcases List.mem_append.mp hc with hc | hc
          · exact hlc c hc
          · exact ch5 c hc
      · rw [List.length_append, List.length_append, Nat.mul_add, Nat.add_mul, Nat.add_mul]
        omega
    rw [if_neg (fun y => y (by rw [hz]; rfl)), show (2 : Int32) = nI 2 from rfl, ze_b2 e3]
    by_cases hz2 : v2 = 0
    · rw [if_neg (fun y => y (by rw [hz2]; rfl))]
      exact fin _ _ zl_630 (by decide) (zLy_sg (by decide)) (by decide) (Or.inr ⟨38, [], rfl, by decide, by decide⟩)
    · rw [if_pos (nI_ne0 (by omega) (by omega))]
      exact fin _ _ zl_632 (by decide) zLy_amp (by decide) (Or.inr ⟨32, [38, 32], rfl, by decide, by decide⟩)
  · have hb1l : b1 < g2.length := zlt_of z12.choose_spec.1
    have hnb : b0 ≠ b1 := by omega
    obtain ⟨g8, e8, z8, U8⟩ := z171 (M := M) (K := K) (p0 := 0) (p1 := 1) (p3 := q) (p5 := pt) (p2 := nI t) (p4 := nI d) (p7 := p7) (p8 := p8) (A := A) (B := S1) (b0 := b0) (b1 := b1) h40 hnb hl0 zF 0 g2 (Nat.zero_le _) (by unfold zF; omega) (zBa_c z02 fun r _ => (if_neg (Nat.not_lt_zero r)).symm) z12
    rw [nI_0] at e8
    have G8 := zG_U U8 (a := b0) (b := b0 + 1) (Nat.le_refl _) (Nat.le_refl _)
    have x8 := x2.cell G8 hb0 n01 n02 n03
    rw [if_pos (nI_ne0 (by omega) (by omega))]
    refine ⟨g8, a1, m1, s1, ts1, S1, n1, e8, x8, ((f12.g0).tr (zLg_c U8)).wk ?_, z8, lx1, hd1, ch1, ?_, o1, by omega, P1.part, k16, k18⟩
    · rw [Nat.add_mul]; omega
    · rw [Nat.add_mul]; omega
end ZPD

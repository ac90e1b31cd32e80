/-! ===== filter and piece ===== -/
section ZPE
variable {h g j : zx_H} {now : Nat} {ver : Nat → Nat → zT} {tx : List Nat} {pr : Nat × (Nat → Nat) × (Nat → Int32)} {gr : zT × Nat × Nat × (Nat → Int64) × (Nat → Nat → Bool)} {q pt a m a' m' p c k b0 t d e L N B L' N' B' : Nat} {w u : List Nat} {T : zT} {M : zKp1} {A : Nat → Bool}
theorem zPcOK_m {P P' : List (Nat × Int64) → (Nat → Bool) → Nat → Prop} (hP : zPcOK M now ver tx pr gr q pt t T d P L N B) (h1 : ∀ ts S n, P ts S n → P' ts S n) : zPcOK M now ver tx pr gr q pt t T d P' L N B := fun h a m k w x h16 hm hw hB => by
  obtain ⟨g, a', m', b, s, ts, S, n, e, x1, f1, z, c1, c2, c3, c4, c5, c6, c7, c8, c9⟩ := hP h a m k w x h16 hm hw hB
  exact ⟨g, a', m', b, s, ts, S, n, e, x1, f1, z, c1, c2, c3, c4, c5, c6, c7, h1 ts S n c8, c9⟩
def zFlOK (M : zKp1) (now : Nat) (ver : Nat → Nat → zT) (tx : List Nat) (pr : Nat × (Nat → Nat) × (Nat → Int32)) (gr : zT × Nat × Nat × (Nat → Int64) × (Nat → Nat → Bool)) (q pt t : Nat) (T : zT) (d : Nat) (P : List (Nat × Int64) → (Nat → Bool) → Nat → Prop) (L N B : Nat) : Prop := zPcOK (fun p0 p1 p2 p3 p4 p5 h => f_ColumnVaultLaw_filter M p0 p1 p2 p3 p4 p5 h) now ver tx pr gr q pt t T d P L N B
theorem zflt (hP : zPcOK M now ver tx pr gr q pt t T d (zPi T e c) L N B) (hT : ver now t = T) (wT : zWF T) (ht : t < 3) (hN : 1 ≤ N) : zFlOK M now ver tx pr gr q pt t T d (zFi T e (c + 2)) (L + 6) (4 * N) (B + 300) := by
  intro h a m k w x h16 hm hw hB
  have h40 := wT.r40
  have eL : (L + 6) * (4 * N) = 4 * (L * N) + 24 * N := by rw [Nat.add_mul, Nat.mul_left_comm]; omega
  have eB : (B + 300) * (4 * N) = 4 * (B * N) + 1200 * N := by rw [Nat.add_mul, Nat.mul_left_comm]; omega
  rw [eL] at hw
  rw [eB] at hB
  have hwl := x.2.1.len
  have hlN := zlen (h := h) (by omega)
  have sz := x.2.1.size0 ht
  rw [hT] at sz
  obtain ⟨g1, e1, z1, G1, l1⟩ := znewZ (h := h) (n := T.nr) h40 (by omega)
  obtain ⟨x1, f1⟩ := x.fr G1
  have m1 := G1.m
  obtain ⟨v, g2, hv, e2, r2, G2, -⟩ := zdraw x1.1 (n := 5) (by decide) (by decide)
  obtain ⟨x2, f2⟩ := x1.G G2 r2
  have m2 := G2.m
  have l2 := G2.l
  have z2 := z1.keep x1 f2
  show zOut now ver tx pr gr q pt a m w k T (zFi T e (c + 2)) (L + 6) (4 * N) (B + 300) h (f_ColumnVaultLaw_filter M 0 1 (nI t) q (nI d) pt h)
  unfold f_ColumnVaultLaw_filter
  have ep : (1 : Int32) + nI v / (3 : Int32) = nI (1 + v / 3) := by
    rw [show (3 : Int32) = nI 3 from rfl, pk_div (by omega) (by decide) (by decide), show (1 : Int32) = nI 1 from rfl, nI_add]
  rw [ze_b x.2.1.is, ze_b3 sz, ze_b2 e1, show (5 : Int32) = nI 5 from rfl, ze_b2 e2, ep, show zF = 4999 + 1 from rfl, f_ColumnVaultLaw_filter_24, if_neg (nI_nle (by omega) (by omega)), if_pos (by decide)]
  obtain ⟨g3, a3, m3, s3, ts3, S3, n3, e3, x3, f3, z3, lx3, hd3, ch3, ls3, o3, t3, P3, k16, k18⟩ := zprt (K := f_ColumnVaultLaw_filter_24 M 4999) (p7 := nI (1 + v / 3)) (p8 := 0) hP h40 x2 h16 hm z2 hwl (by omega) (by omega)
  have q3 := f3.2.1
  have l3 := f3.1
  have hn3 := zmul_le (x := B + 100) t3
  have eB2 : (B + 100) * (2 * N) = 2 * (B * N) + 200 * N := by rw [Nat.add_mul, Nat.mul_left_comm]; omega
  have hl3 := zmul_le (x := L + 3) t3
  have eL2 : (L + 3) * (2 * N) = 2 * (L * N) + 6 * N := by rw [Nat.add_mul, Nat.mul_left_comm]; omega
  rw [e3, show 4999 = 4998 + 1 from rfl, f_ColumnVaultLaw_filter_24]
  have f12 := f1.t f2
  by_cases hv3 : v / 3 = 0
  · rw [hv3, if_pos (by decide)]
    refine ⟨g3, a3, m3, h.length, s3, ts3, S3, n3, rfl, x3, (f12.tg f3 (Nat.le_refl _)).wk ?_, zBa_c z3 fun r _ => Bool.false_or _, Nat.le_refl _, lx3, hd3, ch3, ?_, o3, by omega, P3.filt, k16, k18⟩
    · rw [Nat.add_mul] at f3 ⊢
      rw [Nat.add_mul]
      omega
    · rw [Nat.add_mul] at ls3 ⊢
      omega
  · have hv1 : v / 3 = 1 := by omega
    rw [hv1]
    rw [if_neg (by decide), if_neg (by decide)]
    obtain ⟨v4, g4, hv4, e4, r4, G4, -⟩ := zdraw x3.1 (n := 2) (by decide) (by decide)
    obtain ⟨x4, f4⟩ := x3.G G4 r4
    have m4 := G4.m
    have l4 := G4.l
    have z4 := z3.keep x3 f4
    have fin : ∀ (lit : Nat) (l : List Nat), zLit lit l → l.length ≤ 3 → zLy l [(124, -1)] → (∀ c ∈ l, 1 ≤ c) → zhd l → zOut now ver tx pr gr q pt a m w k T (zFi T e (c + 2)) (L + 6) (4 * N) (B + 300) h (zf_b (zf_is 1 q g4) fun _ => zf_b2 (f_StringBuilder_appendq3 q lit g4) fun _ h4 => f_ColumnVaultLaw_filter_58 M (f_ColumnVaultLaw_filter_24 M 4998) 0 1 (nI t) q (nI d) pt h.length (nI (1 + 1)) ((0 : Int32) + 1) h4) := by
      intro lit l hl hll hly hlc hlh
      have hws : (w ++ s3).length = w.length + s3.length := List.length_append
      obtain ⟨g5, a5, m5, e5, x5, f5, b5⟩ := x4.lit hl (by omega) (by omega)
      have hm5 : m5 ≤ 18100 := zm_le b5 k18 (by omega)
      have q5 := f5.2.1
      have q5' := f5.2.2.1
      have l5 := f5.1
      have z5 := z4.keep x4 f5
      have hws2 : (w ++ s3 ++ l).length = w.length + s3.length + l.length := by rw [List.length_append, hws]
      obtain ⟨g6, a6, m6, s6, ts6, S6, n6, e6, x6, f6, z6, lx6, hd6, ch6, ls6, o6, t6, P6, j16, j18⟩ := zprt (K := f_ColumnVaultLaw_filter_24 M 4998) (p7 := nI (1 + 1)) (p8 := (0 : Int32) + 1) hP h40 x5 (by omega) hm5 z5 hwl (by omega) (by omega)
      have q6 := f6.2.1
      have l6 := f6.1
      refine ⟨g6, a6, m6, h.length, s3 ++ (l ++ s6), ts3 ++ (124, -1) :: ts6, fun r => S3 r || S6 r, n3 + n6, ?_, ?_, (f12.tg (((f3.tr f4.g0).tr f5.g0).tr f6) (Nat.le_refl _)).wk ?_, zBa_c z6 fun r _ => by rw [Bool.false_or], Nat.le_refl _, zLx_app lx3 (zLyx hly lx6) (zhd_app hlh hd6), zhd_app hd3 (zhd_app hlh hd6), fun c hc => ?_, ?_, by omega, by omega, zPt.filt2 P3 P6, j16, j18⟩
      · rw [ze_b x4.2.2.1.is, ze_b2 e5, e6, show 4998 = 4997 + 1 from rfl, f_ColumnVaultLaw_filter_24, if_pos (by decide)]
      · have ew : w ++ (s3 ++ (l ++ s6)) = w ++ s3 ++ l ++ s6 := by simp only [List.append_assoc]
        rw [ew, ← Nat.add_assoc]
        exact x6
      · rw [Nat.mul_add, Nat.add_mul, Nat.add_mul, Nat.add_mul, Nat.add_mul]
        omega
      · rcases List.mem_append.mp hc with hc | hc
        · exact ch3 c hc
        · rcases List.mem_append.mp hc with hc | hc
          · exact hlc c hc
          · exact ch6 c hc
      · rw [List.length_append, List.length_append, Nat.mul_add, Nat.add_mul, Nat.add_mul]
        rw [Nat.add_mul] at ls3 ls6
        omega
    rw [show (2 : Int32) = nI 2 from rfl, ze_b2 e4]
    by_cases hz2 : v4 = 0
    · rw [if_neg (fun y => y (by rw [hz2]; rfl))]
      exact fin _ _ zl_626 (by decide) (zLy_sg (by decide)) (by decide) (Or.inr ⟨124, [], rfl, by decide, by decide⟩)
    · rw [if_pos (nI_ne0 (by omega) (by omega))]
      exact fin _ _ zl_628 (by decide) zLy_bar (by decide) (Or.inr ⟨32, [124, 32], rfl, by decide, by decide⟩)
/-- a piece at depth d -/
def zPp (T : zT) (d : Nat) (ts : List (Nat × Int64)) (S : Nat → Bool) (n : Nat) : Prop := ∃ j ts0 S0, ts = List.replicate j (33, -1) ++ ts0 ∧ S = zflip j S0 ∧ j ≤ 3 - d ∧ zCo T (2 - d) (1 + 2 * (2 - d)) ts0 S0 n
theorem zPp.pi {ts : List (Nat × Int64)} {S : Nat → Bool} {n : Nat} (x : zPp T d ts S n) : zPi T (2 - d) (1 + 2 * (2 - d)) ts S n := by
  obtain ⟨j, ts0, S0, e1, e2, h1, h2⟩ := x
  rw [e1, e2]
  exact h2.piece (by omega)
theorem zflip_s (j : Nat) (S : Nat → Bool) : (fun r => !zflip j S r) = zflip (j + 1) S := by
  funext r
  unfold zflip
  by_cases c : j % 2 = 1
  · rw [if_pos c, if_neg (by omega), Bool.not_not]
  · rw [if_neg c, if_pos (by omega)]
theorem zPp.not {ts : List (Nat × Int64)} {S : Nat → Bool} {n : Nat} (x : zPp T (d + 1) ts S n) (hd : d < 3) : zPp T d ((33, -1) :: ts) (fun r => !S r) n := by
  obtain ⟨j, ts0, S0, e1, e2, h1, h2⟩ := x
  refine ⟨j + 1, ts0, S0, ?_, ?_, by omega, h2.w (by omega) (by omega)⟩
  · rw [e1]; rfl
  · rw [e2, ← zflip_s]
theorem zCo.pp {ts : List (Nat × Int64)} {S : Nat → Bool} {n : Nat} (x : zCo T (2 - d) (1 + 2 * (2 - d)) ts S n) : zPp T d ts S n := by
  refine ⟨0, ts, S, rfl, ?_, Nat.zero_le _, x⟩
  funext r
  unfold zflip
  rw [if_neg (by decide)]
/-- the opposite of a piece -/
theorem zp35 (hP : zPcOK M now ver tx pr gr q pt t T (d + 1) (zPp T (d + 1)) L' N' B') (hT : ver now t = T) (wT : zWF T) (hd : d < 3) (hN0 : 1 ≤ N') (x : zLw h now ver tx pr gr q a m w pt k) (h16 : 16 ≤ m) (hm : m ≤ 18100) {lit : Nat} {l : List Nat} (hl : zLit lit l) (hll : l.length ≤ 2) (hly : zLy l [(33, -1)]) (hlc : ∀ c ∈ l, 1 ≤ c) (hlh : zhd l) (hw : w.length + L' * N' + 124 ≤ 8700) (hB : zM h + 60100 + B' * N' ≤ 6400000 + 2 * m) : zOut now ver tx pr gr q pt a m w k T (zPp T d) (L' + 2) N' (B' + 100) h (f_ColumnVaultLaw_piece_35 M 0 1 (nI t) q (nI d) pt q lit h) := by
  have h40 := wT.r40
  obtain ⟨g1, a1, m1, e1, x1, f1, b1⟩ := x.lit hl (by omega) (by omega)
  have hm1 : m1 ≤ 18100 := zm_le b1 hm (by omega)
  have q1 := f1.2.1
  have q1' := f1.2.2.1
  have l1 := f1.1
  have hws : (w ++ l).length = w.length + l.length := List.length_append
  obtain ⟨g2, a2, m2, b2, s2, ts2, S2, n2, e2, x2, f2, z2, c1, lx2, hd2, ch2, ls2, o2, t2, P2, k16, k18⟩ := hP g1 a1 m1 k (w ++ l) x1 (by omega) hm1 (by omega) (by omega)
  have hn2 := zmul_le (x := B') t2
  have q2 := f2.2.1
  have l2 := f2.1
  have hlN := zlen (h := g2) (by omega)
  have hb2 : b2 < g2.length := zlt_of z2.choose_spec.1
  obtain ⟨g3, e3, z3, G3, l3⟩ := znewZ (h := g2) (n := T.nr) h40 (by omega)
  obtain ⟨x3, f3⟩ := x2.fr G3
  have m3 := G3.m
  have z23 := z2.keep x2 f3
  obtain ⟨y0, y1, y2, y3⟩ := x3.ne (p := g2.length) z3.choose_spec.1 ⟨by decide, by decide⟩
  obtain ⟨g4, e4, z4, U4⟩ := z64 (M := M) (b1 := b2) (q7 := g2.length) (B := S2) h40 (by omega) (by omega) zF 0 g3 (Nat.zero_le _) (by unfold zF; omega) z23 (z3.p0 _)
  rw [nI_0] at e4
  have G4 := zG_U U4 (a := g2.length) (b := g2.length + 1) (Nat.le_refl _) (Nat.le_refl _)
  have hwl := x.2.1.len
  have x4 := x3.cell G4 (by omega) y1 y2 y3
  have f34 := zLf.of (q := q) (pt := pt) (a := a2) (m := m2) G3 G4 (Nat.le_refl _)
  refine ⟨g4, a2, m2, g2.length, l ++ s2, (33, -1) :: ts2, fun r => !S2 r, n2, ?_, ?_, ((f1.t f2).t f34).wk ?_, z4, by omega, zLyx hly lx2, zhd_app hlh hd2, fun c hc => ?_, ?_, o2, t2, P2.not hd, k16, k18⟩
  · unfold f_ColumnVaultLaw_piece_35
    rw [ze_b x.2.2.1.is, ze_b2 e1, nI_1, ze_b3 e2, ze_b (z2.len (by omega)), ze_b2 e3]
    exact e4
  · rw [← List.append_assoc]
    exact x4
  · rw [Nat.add_mul]; omega
  · rcases List.mem_append.mp hc with hc | hc
    · exact hlc c hc
    · exact ch2 c hc
  · rw [List.length_append, Nat.add_mul]; omega
theorem zOut_m {P P' : List (Nat × Int64) → (Nat → Bool) → Nat → Prop} {x : Option ((Nat ⊕ Nat) × zx_H)} (o : zOut now ver tx pr gr q pt a m w k T P L' N' B' h x) (h1 : ∀ ts S n, P ts S n → P' ts S n) (hL : L' ≤ L) (hN : N' ≤ N) (hB : B' ≤ B) : zOut now ver tx pr gr q pt a m w k T P' L N B h x := by
  obtain ⟨j, a', m', b, s, ts, S, n, e, x1, f1, z, c1, c2, c3, c4, c5, c6, c7, c8, c9⟩ := o
  exact ⟨j, a', m', b, s, ts, S, n, e, x1, f1.wk (Nat.mul_le_mul_right _ hB), z, c1, c2, c3, c4, Nat.le_trans c5 (Nat.mul_le_mul_right _ hL), c6, Nat.le_trans c7 hN, h1 ts S n c8, c9⟩
/-- brackets round a filter -/
theorem zp99 (hF : zFlOK M now ver tx pr gr q pt t T (d + 1) (zFi T (2 - (d + 1)) (1 + 2 * (2 - (d + 1)) + 2)) L' N' B') (hd : d < 2) (x : zLw h now ver tx pr gr q a m w pt k) (h16 : 16 ≤ m) (hm : m ≤ 18100) (hw : w.length + L' * N' + 124 ≤ 8700) (hB : zM h + 60100 + B' * N' ≤ 6400000 + 2 * m) : zOut now ver tx pr gr q pt a m w k T (zPp T d) (L' + 2) N' (B' + 20) h (f_ColumnVaultLaw_piece_99 M 0 1 (nI t) q (nI d) pt (1 : Int32) h) := by
  obtain ⟨g1, a1, m1, e1, x1, f1, b1⟩ := x.lit zl_622 (by show w.length + 1 ≤ _; omega) (by omega)
  have hm1 : m1 ≤ 18100 := zm_le b1 hm (by show w.length + 1 ≤ _; omega)
  have q1 := f1.2.1
  have q1' := f1.2.2.1
  have l1 := f1.1
  have hws : (w ++ [40]).length = w.length + 1 := List.length_append
  obtain ⟨g2, a2, m2, b2, s2, ts2, S2, n2, e2, x2, f2, z2, c1, lx2, hd2, ch2, ls2, o2, t2, P2, k16, k18⟩ := hF g1 a1 m1 k (w ++ [40]) x1 (by omega) hm1 (by omega) (by omega)
  have hn2 := zmul_le (x := B') t2
  have hln2 := zmul_le (x := L') t2
  have q2 := f2.2.1
  have l2 := f2.1
  have hws2 : (w ++ [40] ++ s2).length = w.length + 1 + s2.length := by rw [List.length_append, hws]
  obtain ⟨g3, a3, m3, e3, x3, f3, b3⟩ := x2.lit zl_624 (by show _ + 1 ≤ _; omega) (by omega)
  have hm3 : m3 ≤ 18100 := zm_le b3 k18 (by show _ + 1 ≤ _; omega)
  have q3' := f3.2.2.1
  have e2 : f_ColumnVaultLaw_filter M 0 1 (nI t) q (nI (d + 1)) pt g1 = some (.inl b2, g2) := e2
  refine ⟨g3, a3, m3, b2, [40] ++ (s2 ++ [41]), (40, -1) :: (ts2 ++ [(41, -1)]), S2, n2, ?_, ?_, ((f1.t f2).t f3).wk ?_, z2.keep x2 f3, by omega, ?_, Or.inr ⟨40, s2 ++ [41], rfl, by decide, by decide⟩, fun c hc => ?_, ?_, o2, t2, ?_, by omega, hm3⟩
  · unfold f_ColumnVaultLaw_piece_99
    rw [if_neg (fun z => z rfl), if_neg (show ¬ (2 : Int32) ≤ nI d from nI_ge (b := 2) hd (by decide)), ze_b x.2.2.1.is, ze_b2 e1, nI_1, ze_b3 e2, ze_b x2.2.2.1.is, ze_b2 e3]
  · have ew : w ++ ([40] ++ (s2 ++ [41])) = w ++ [40] ++ s2 ++ [41] := by simp only [List.append_assoc]
    rw [ew]
    exact x3
  · rw [Nat.add_mul]; omega
  · exact zLyx (s := [40]) (ts := [(40, -1)]) (zLy_sg (by decide)) (zLx_app lx2 (zLx_sg (by decide)) (Or.inr ⟨41, [], rfl, by decide, by decide⟩))
  · rcases List.mem_append.mp hc with hc | hc
    · rw [List.mem_singleton.mp hc]; decide
    · rcases List.mem_append.mp hc with hc | hc
      · exact ch2 c hc
      · rw [List.mem_singleton.mp hc]; decide
  · rw [List.length_append, List.length_append, Nat.add_mul]
    show 1 + (_ + 1) ≤ _
    omega
  · have := zFi.core P2
    refine zCo.pp (this.w (by omega) (by omega))
theorem zpieceb (hT : ver now t = T) (wT : zWF T) (ht : t < 3) (h1 : 1 ≤ T.nc) {L1 N1 B1 L2 N2 B2 : Nat} (hd : d ≤ 3) (hP : d < 3 → zPcOK M now ver tx pr gr q pt t T (d + 1) (zPp T (d + 1)) L1 N1 B1) (hF : d < 2 → zFlOK M now ver tx pr gr q pt t T (d + 1) (zFi T (2 - (d + 1)) (1 + 2 * (2 - (d + 1)) + 2)) L2 N2 B2) (n1 : 1 ≤ N1) (a1 : 82 ≤ L) (a2 : 1 ≤ N) (a3 : 19500 ≤ B) (b1 : d < 3 → L1 + 2 ≤ L ∧ N1 ≤ N ∧ B1 + 110 ≤ B ∧ L1 * N1 + 4 ≤ L * N ∧ B1 * N1 + 110 ≤ B * N) (b2 : d < 2 → L2 + 2 ≤ L ∧ N2 ≤ N ∧ B2 + 30 ≤ B ∧ L2 * N2 + 4 ≤ L * N ∧ B2 * N2 + 110 ≤ B * N) : zPcOK (fun p0 p1 p2 p3 p4 p5 h => f_ColumnVaultLaw_pieceb M p0 p1 p2 p3 p4 p5 h) now ver tx pr gr q pt t T d (zPp T d) L N B := by
  intro h a m k w x h16 hm hw hB
  have hBN : B ≤ B * N := Nat.le_mul_of_pos_right _ a2
  have hLN : L ≤ L * N := Nat.le_mul_of_pos_right _ a2
  obtain ⟨v, g1, hv, e1, r1, G1, -⟩ := zdraw x.1 (n := 6) (by decide) (by decide)
  obtain ⟨x1, f1⟩ := x.G G1 r1
  have m1 := G1.m
  show zOut now ver tx pr gr q pt a m w k T (zPp T d) L N B h (f_ColumnVaultLaw_pieceb M 0 1 (nI t) q (nI d) pt h)
  unfold f_ColumnVaultLaw_pieceb
  rw [show (6 : Int32) = nI 6 from rfl, ze_b2 e1]
  -- a test
  have test : ∀ p6 : Int32, (¬ p6 = 1 ∨ 2 ≤ d) → zOut now ver tx pr gr q pt a m w k T (zPp T d) L N B h (f_ColumnVaultLaw_piece_99 M 0 1 (nI t) q (nI d) pt p6 g1) := by
    intro p6 hp
    have o := zttest (q := q) (a := a) (w := w) hT wT ht h1 x1 h16 hm (by omega) (by omega)
    have o2 : zOut now ver tx pr gr q pt a m w k T (zPp T d) 82 1 19400 g1 (f_ColumnVaultLaw_piece_99 M 0 1 (nI t) q (nI d) pt p6 g1) := by
      obtain ⟨j, a', m', b, s, ts, S, n, e, r⟩ := o
      refine ⟨j, a', m', b, s, ts, S, n, ?_, r.1, r.2.1, r.2.2.1, r.2.2.2.1, r.2.2.2.2.1, r.2.2.2.2.2.1, r.2.2.2.2.2.2.1, r.2.2.2.2.2.2.2.1, r.2.2.2.2.2.2.2.2.1, r.2.2.2.2.2.2.2.2.2.1, zCo.pp (r.2.2.2.2.2.2.2.2.2.2.1.w (Nat.zero_le _) (by omega)), r.2.2.2.2.2.2.2.2.2.2.2.1, r.2.2.2.2.2.2.2.2.2.2.2.2⟩
      unfold f_ColumnVaultLaw_piece_99
      rcases hp with hp | hp
      · rw [if_pos hp, ze_b3 e]
      · by_cases hp1 : p6 = 1
        · rw [if_neg (fun z => z hp1), if_pos (show (2 : Int32) ≤ nI d from nI_le (a := 2) hp (by omega)), ze_b3 e]
        · rw [if_pos hp1, ze_b3 e]
    exact zOut_m (zOut_f f1 o2 (B' := 19500) (by omega)) (fun _ _ _ y => y) a1 a2 a3
  -- a piece that is no opposite
  have p99 : zOut now ver tx pr gr q pt a m w k T (zPp T d) L N B h (f_ColumnVaultLaw_piece_99 M 0 1 (nI t) q (nI d) pt (nI v) g1) := by
    by_cases hv1 : v = 1
    · by_cases hd2 : d < 2
      · obtain ⟨c1, c2, c3, c4, c5⟩ := b2 hd2
        rw [hv1]
        exact zOut_m (zOut_f f1 (zp99 (hF hd2) hd2 x1 h16 hm (by omega) (by omega)) (B' := B2 + 30) (by omega)) (fun _ _ _ y => y) c1 c2 c3
      · exact test _ (Or.inr (by omega))
    · exact test _ (Or.inl (fun z => hv1 ((nI_eq (b := 1) (by omega) (by decide)).mp z)))
  by_cases hv0 : v = 0
  · rw [if_neg (fun y => y (by rw [hv0]; rfl))]
    by_cases hd3 : d < 3
    · obtain ⟨c1, c2, c3, c4, c5⟩ := b1 hd3
      obtain ⟨u, g2, hu, e2, r2, G2, -⟩ := zdraw x1.1 (n := 2) (by decide) (by decide)
      obtain ⟨x2, f2⟩ := x1.G G2 r2
      have m2 := G2.m
      rw [if_neg (show ¬ (3 : Int32) ≤ nI d from nI_ge (b := 3) hd3 (by decide)), show (2 : Int32) = nI 2 from rfl, ze_b2 e2]
      by_cases hu0 : u = 0
      · rw [if_neg (fun y => y (by rw [hu0]; rfl))]
        exact zOut_m (zOut_f (f1.t f2) (zp35 (hP hd3) hT wT hd3 n1 x2 h16 hm zl_618 (by decide) (zLy_sg (by decide)) (by decide) (Or.inr ⟨33, [], rfl, by decide, by decide⟩) (by omega) (by omega)) (B' := B1 + 110) (by omega)) (fun _ _ _ y => y) c1 c2 c3
      · rw [if_pos (nI_ne0 (by omega) (by omega))]
        exact zOut_m (zOut_f (f1.t f2) (zp35 (hP hd3) hT wT hd3 n1 x2 h16 hm zl_620 (by decide) (zLyy (s := [33]) (s' := [32]) (ts := [(33, -1)]) (ts' := []) (zLy_sg (by decide)) zLy_sp) (by decide) (Or.inr ⟨33, [32], rfl, by decide, by decide⟩) (by omega) (by omega)) (B' := B1 + 110) (by omega)) (fun _ _ _ y => y) c1 c2 c3
    · rw [if_pos (show (3 : Int32) ≤ nI d from nI_le (a := 3) (by omega) (by omega))]
      exact p99
  · rw [if_pos (nI_ne0 (by omega) (by omega))]
    exact p99
/-- a drawn filter -/
theorem zfilter0 (hT : ver now t = T) (wT : zWF T) (ht : t < 3) (h1 : 1 ≤ T.nc) : zFlOK (f_ColumnVaultLaw_piece 20) now ver tx pr gr q pt t T 0 (zFi T 2 7) 108 64 20900 := by
  have P3 : zPcOK (f_ColumnVaultLaw_piece 17) now ver tx pr gr q pt t T 3 (zPp T 3) 82 1 19500 := zpieceb (M := f_ColumnVaultLaw_piece 16) (L1 := 0) (N1 := 1) (B1 := 0) (L2 := 0) (N2 := 0) (B2 := 0) hT wT ht h1 (by decide) (fun x => absurd x (by decide)) (fun x => absurd x (by decide)) (by decide) (by decide) (by decide) (by decide) (fun x => absurd x (by decide)) (fun x => absurd x (by decide))
  have P2 : zPcOK (f_ColumnVaultLaw_piece 18) now ver tx pr gr q pt t T 2 (zPp T 2) 86 1 19650 := zpieceb (M := f_ColumnVaultLaw_piece 17) (L2 := 0) (N2 := 0) (B2 := 0) hT wT ht h1 (by decide) (fun _ => P3) (fun x => absurd x (by decide)) (by decide) (by decide) (by decide) (by decide) (fun _ => by decide) (fun x => absurd x (by decide))
  have F2 := zflt (zPcOK_m P2 fun _ _ _ => zPp.pi) hT wT ht (by decide)
  have P1 : zPcOK (f_ColumnVaultLaw_piece 19) now ver tx pr gr q pt t T 1 (zPp T 1) 94 4 20000 := zpieceb (M := f_ColumnVaultLaw_piece 18) hT wT ht h1 (by decide) (fun _ => P2) (fun _ => F2) (by decide) (by decide) (by decide) (by decide) (fun _ => by decide) (fun _ => by decide)
  have F1 := zflt (zPcOK_m P1 fun _ _ _ => zPp.pi) hT wT ht (by decide)
  have P0 : zPcOK (f_ColumnVaultLaw_piece 20) now ver tx pr gr q pt t T 0 (zPp T 0) 102 16 20400 := zpieceb (M := f_ColumnVaultLaw_piece 19) hT wT ht h1 (by decide) (fun _ => P1) (fun _ => F1) (by decide) (by decide) (by decide) (by decide) (fun _ => by decide) (fun _ => by decide)
  have F0 := zflt (zPcOK_m P0 fun _ _ _ => zPp.pi) hT wT ht (by decide)
  intro h a m k w x h16 hm hw hB
  exact zOut_m (F0 h a m k w x h16 hm (by omega) (by omega)) (fun _ _ _ y => y) (by decide) (by decide) (by decide)
end ZPE

/-! ===== test ===== -/
section ZTW
variable {h g j : zx_H} {now : Nat} {ver : Nat → Nat → zT} {tx : List Nat} {pr : Nat × (Nat → Nat) × (Nat → Int32)} {gr : zT × Nat × Nat × (Nat → Int64) × (Nat → Nat → Bool)} {q pt a m a' m' p c k b t op col : Nat} {w u : List Nat} {ks : List Int64} {T : zT}
/-- the signs and words -/
theorem zQ_op {kd : Nat} (h6 : op < 6) : ∃ opl, zQ op kd opl [] ∧ opl.length ≤ 7 ∧ ((op = 0 ∧ zLit (zx_lim + 1 + 606) opl) ∨ (op = 1 ∧ zLit (zx_lim + 1 + 608) opl) ∨ (op = 2 ∧ zLit (zx_lim + 1 + 610) opl) ∨ (op = 3 ∧ zLit (zx_lim + 1 + 612) opl) ∨ (op = 4 ∧ zLit (zx_lim + 1 + 614) opl) ∨ (op = 5 ∧ zLit (zx_lim + 1 + 616) opl)) := by
  have : op = 0 ∨ op = 1 ∨ op = 2 ∨ op = 3 ∨ op = 4 ∨ op = 5 := by omega
  rcases this with rfl | rfl | rfl | rfl | rfl | rfl
  · have y : zLy [60] [zopt (zaop 0)] := zLy_sg (c := 60) (by decide)
    exact ⟨[60], ⟨y.x, fun _ _ => y, by decide⟩, by decide, Or.inl ⟨rfl, zl_606⟩⟩
  · have y : zLy [62] [zopt (zaop 1)] := zLy_sg (c := 62) (by decide)
    exact ⟨[62], ⟨y.x, fun _ _ => y, by decide⟩, by decide, Or.inr (Or.inl ⟨rfl, zl_608⟩)⟩
  · have y : zLy [61] [zopt (zaop 2)] := zLy_sg (c := 61) (by decide)
    exact ⟨[61], ⟨y.x, fun _ _ => y, by decide⟩, by decide, Or.inr (Or.inr (Or.inl ⟨rfl, zl_610⟩))⟩
  · have y := zLx_word (w := [116, 111]) (by decide) (by decide) (by decide)
    rw [show lN (zwl [116, 111] 0) = (29807 : Int64) from by decide +kernel] at y
    exact ⟨[116, 111], ⟨y, fun z => absurd z (by decide), by decide⟩, by decide, Or.inr (Or.inr (Or.inr (Or.inl ⟨rfl, zl_612⟩)))⟩
  · have y := zLx_word (w := [105, 110]) (by decide) (by decide) (by decide)
    rw [show lN (zwl [105, 110] 0) = (26990 : Int64) from by decide +kernel] at y
    exact ⟨[105, 110], ⟨y, fun z => absurd z (by decide), by decide⟩, by decide, Or.inr (Or.inr (Or.inr (Or.inr (Or.inl ⟨rfl, zl_614⟩))))⟩
  · have y := zLx_word (w := [109, 105, 115, 115, 105, 110, 103]) (by decide) (by decide) (by decide)
    rw [show lN (zwl [109, 105, 115, 115, 105, 110, 103] 0) = (30796717039906407 : Int64) from by decide +kernel] at y
    exact ⟨[109, 105, 115, 115, 105, 110, 103], ⟨y, fun z => absurd z (by decide), by decide⟩, by decide, Or.inr (Or.inr (Or.inr (Or.inr (Or.inr ⟨rfl, zl_616⟩))))⟩
theorem zar3 {x : Nat} (h : x ≤ 6) : 10 + 10 + (500 * (x - 0) + 16100) ≤ 19200 := by omega
theorem zt109 (hT : ver now t = T) (wT : zWF T) (ht : t < 3) (hc : col < T.nc) (h6 : op < 6) {many p8 : Nat} (hmany : many ≤ 6) (hlen : ∀ ks : List Int64, ks.length = many → zln1 op ks) (hp8 : 177 ≤ p8) {lit : Nat} {l : List Nat} (hl : zLit lit l) (hll : l.length ≤ 1) (x : zLw h now ver tx pr gr q a m w pt k) (h16 : 16 ≤ m) (hm : m ≤ 18100) (zk : zKa h p8 (T.kd col) many []) (hw : w.length + 100 ≤ 8700) (hB : zM h + 58000 ≤ 6400000 + 2 * m) : ∃ g a' m' b R' ks', f_ColumnVaultLaw_test_109 0 1 (nI t) q (nI col) (nI (T.kd col)) (nI op) (nI many) p8 q lit h = some (.inl b, g) ∧ zLw g now ver tx pr gr q a' m' ((w ++ l) ++ R') pt k ∧ zLg p8 19200 q pt a m a' m' h g ∧ zBa g b T.nr (zrt T col (zaop op) ks') ∧ h.length ≤ b ∧ zln1 op ks' ∧ zoks (T.kd col) ks' ∧ zQ op (T.kd col) R' ks' ∧ R'.length ≤ 79 ∧ 16 ≤ m' ∧ m' ≤ 18100 := by
  obtain ⟨g1, a1, m1, e1, x1, f1, b1⟩ := x.lit hl (by omega) (by omega)
  have hm1 : m1 ≤ 18100 := zm_le b1 hm (by omega)
  have q1 := f1.2.2.1
  have q2 := f1.2.1
  have l1 := f1.1
  have zk1 := zk.keep x f1
  have hwl : (w ++ l).length = w.length + l.length := List.length_append
  obtain ⟨opl, hQ, ho7, hop⟩ := zQ_op (kd := T.kd col) h6
  have fin : ∀ ol, zLit ol opl → ∃ g a' m' b R' ks', (zf_b (zf_is 1 q g1) fun _ => zf_b2 (f_StringBuilder_appendq3 q ol g1) fun _ h4 => f_ColumnVaultLaw_test_175 zF 0 1 (nI t) q (nI col) (nI (T.kd col)) (nI op) (nI many) p8 (0 : Int32) h4) = some (.inl b, g) ∧ zLw g now ver tx pr gr q a' m' ((w ++ l) ++ R') pt k ∧ zLg p8 19200 q pt a m a' m' h g ∧ zBa g b T.nr (zrt T col (zaop op) ks') ∧ h.length ≤ b ∧ zln1 op ks' ∧ zoks (T.kd col) ks' ∧ zQ op (T.kd col) R' ks' ∧ R'.length ≤ 79 ∧ 16 ≤ m' ∧ m' ≤ 18100 := by
    intro ol hol
    obtain ⟨g2, a2, m2, e2, x2, f2, b2⟩ := x1.lit hol (by omega) (by omega)
    have hm2 : m2 ≤ 18100 := zm_le b2 hm1 (by omega)
    have q3 := f2.2.2.1
    have q4 := f2.2.1
    have l2 := f2.1
    have hwl2 : (w ++ l ++ opl).length = w.length + l.length + opl.length := by rw [List.length_append, hwl]
    obtain ⟨g3, a3, m3, b, R', ks', e3, x3, f3, z3, c1, c2, c3, c4, c5, c6, c7⟩ := zt175 (many := many) (p8 := p8) (w0 := w ++ l) hT wT ht hc h6 hmany hlen hp8 zF [] opl a2 m2 g2 (Nat.zero_le _) (by unfold zF; omega) x2 (by omega) hm2 (fun z hz => absurd hz List.not_mem_nil) (zk1.keep x1 f2) hQ (by rw [hwl2]; show _ + 12 * (many - 0) ≤ _; omega) (by show _ + 500 * (many - 0) + 17000 ≤ _; omega)
    have e3 : f_ColumnVaultLaw_test_175 zF 0 1 (nI t) q (nI col) (nI (T.kd col)) (nI op) (nI many) p8 (0 : Int32) g2 = some (.inl b, g3) := e3
    have c5 : R'.length ≤ opl.length + 12 * (many - 0) := c5
    have f3 : zLg p8 (500 * (many - 0) + 16100) q pt a2 m2 a3 m3 g2 g3 := f3
    refine ⟨g3, a3, m3, b, R', ks', ?_, x3, ((f1.g0.tr f2.g0).tr f3).wk (zar3 hmany), z3, by omega, c2, c3, c4, by omega, c6, c7⟩
    rw [ze_b x1.2.2.1.is, ze_b2 e2]
    exact e3
  have ne : ∀ i, i < 6 → op ≠ i → ¬ nI op = nI i := fun i hi x y => x ((nI_eq (by omega) (by omega)).mp y)
  unfold f_ColumnVaultLaw_test_109
  rw [ze_b x.2.2.1.is, ze_b2 e1]
  rcases hop with ⟨rfl, z⟩ | ⟨rfl, z⟩ | ⟨rfl, z⟩ | ⟨rfl, z⟩ | ⟨rfl, z⟩ | ⟨rfl, z⟩
  · rw [if_neg (fun y => y rfl)]
    exact fin _ z
  · rw [if_pos (by decide), if_neg (fun y => y rfl)]
    exact fin _ z
  · rw [if_pos (by decide), if_pos (by decide), if_neg (fun y => y rfl)]
    exact fin _ z
  · rw [if_pos (by decide), if_pos (by decide), if_pos (by decide), if_neg (fun y => y rfl)]
    exact fin _ z
  · rw [if_pos (by decide), if_pos (by decide), if_pos (by decide), if_pos (by decide), if_neg (fun y => y rfl)]
    exact fin _ z
  · rw [if_pos (by decide), if_pos (by decide), if_pos (by decide), if_pos (by decide), if_pos (by decide)]
    exact fin _ z
theorem zmapk {kd : Nat} (hkd : kd ≤ 1) : ∀ {ks : List Int64}, zoks kd ks → (ks.map (ztd kd)).map (zkv kd) = ks
  | [], _ => rfl
  | x :: ks, h => by
    show zkv kd (ztd kd x) :: (ks.map (ztd kd)).map (zkv kd) = x :: ks
    rw [zkv_td (h x (List.mem_cons_self ..)).1 hkd, zmapk hkd fun z hz => h z (List.mem_cons_of_mem _ hz)]
theorem zCo_ks (wT : zWF T) (hc : col < T.nc) (h6 : op < 6) (hl : zln1 op ks) (hk : zoks (T.kd col) ks) : zCo T 0 1 ((35, lN col) :: zopt (zaop op) :: ztoks (T.kd col) ks) (zrt T col (zaop op) ks) 1 := by
  have e := zCo_test (a := zaop op) (vs := ks.map (ztd (T.kd col))) wT hc (by
    have : op = 0 ∨ op = 1 ∨ op = 2 ∨ op = 3 ∨ op = 4 ∨ op = 5 := by omega
    rcases this with rfl | rfl | rfl | rfl | rfl | rfl
    · exact Or.inl rfl
    · exact Or.inr (Or.inl rfl)
    · exact Or.inr (Or.inr (Or.inl rfl))
    · exact Or.inr (Or.inr (Or.inr (Or.inl rfl)))
    · exact Or.inr (Or.inr (Or.inr (Or.inr (Or.inl rfl))))
    · exact Or.inr (Or.inr (Or.inr (Or.inr (Or.inr rfl))))) (fun v hv => by
    obtain ⟨x, hx, rfl⟩ := List.mem_map.mp hv
    exact zokV_m (ztd_V (hk x hx).1 (hk x hx).2)) (by
    rw [List.length_map]
    rcases hl with ⟨h1, h2⟩ | ⟨h1, h2⟩ | ⟨h1, h2, h3⟩ | ⟨h1, h2⟩
    · have : op = 0 ∨ op = 1 ∨ op = 2 := by omega
      rcases this with rfl | rfl | rfl
      · exact Or.inr ⟨by decide, h2⟩
      · exact Or.inr ⟨by decide, h2⟩
      · exact Or.inr ⟨by decide, h2⟩
    · subst h1; exact Or.inr ⟨by decide, h2⟩
    · subst h1; exact Or.inl ⟨rfl, h2, h3⟩
    · subst h1; exact Or.inr ⟨by decide, h2⟩)
  rw [zmapk (wT.k1 hc) hk] at e
  exact e
/-- what a drawn text with its rows leaves: L letters and B cells a test, N tests at most -/
def zOut (now : Nat) (ver : Nat → Nat → zT) (tx : List Nat) (pr : Nat × (Nat → Nat) × (Nat → Int32)) (gr : zT × Nat × Nat × (Nat → Int64) × (Nat → Nat → Bool)) (q pt a m : Nat) (w : List Nat) (k : Nat) (T : zT) (P : List (Nat × Int64) → (Nat → Bool) → Nat → Prop) (L N B : Nat) (h : zx_H) (x : Option ((Nat ⊕ Nat) × zx_H)) : Prop := ∃ g a' m' b s ts S n, x = some (.inl b, g) ∧ zLw g now ver tx pr gr q a' m' (w ++ s) pt (k + n) ∧ zLf (B * n) q pt a m a' m' h g ∧ zBa g b T.nr S ∧ h.length ≤ b ∧ zLx s ts ∧ zhd s ∧ (∀ c ∈ s, 1 ≤ c) ∧ s.length ≤ L * n ∧ 1 ≤ n ∧ n ≤ N ∧ P ts S n ∧ 16 ≤ m' ∧ m' ≤ 18100
theorem zt75 (hT : ver now t = T) (wT : zWF T) (ht : t < 3) (hc : col < T.nc) (h6 : op < 6) {many : Nat} (hmany : many ≤ 6) (hlen : ∀ ks : List Int64, ks.length = many → zln1 op ks) (x : zLw h now ver tx pr gr q a m w pt (k + 1)) (h16 : 16 ≤ m) (hm : m ≤ 18100) (hw : w.length + 110 ≤ 8700) (hB : zM h + 58200 ≤ 6400000 + 2 * m) : zOut now ver tx pr gr q pt a m w k T (zCo T 0 1) 82 1 19400 h (f_ColumnVaultLaw_test_75 0 1 (nI t) q (nI col) (nI (T.kd col)) (nI op) (nI many) h) := by
  have h4 := wT.c4
  have hl := zlen (h := h) (by omega)
  have hwl := x.2.1.len
  have hn := zh_newJ (g := h) (r := []) (n := many) (by show h.length + 0 < 600000; have := zM_l (h := h); omega) (by omega)
  rw [List.append_nil] at hn
  have hn : zf_newa .long 2 (nI many) h = some (h.length, h ++ [.inl (2, many, .inr (.inl fun _ => 0))]) := hn
  have G1 : zG (12 + many) 0 0 h (h ++ [.inl (2, many, .inr (.inl fun _ => 0))]) := zG_app (c := .inl (2, many, .inr (.inl fun _ => 0)))
  have zk1 : zKa (h ++ [.inl (2, many, .inr (.inl fun _ => 0))]) h.length (T.kd col) many [] := ⟨_, zG_end, fun i hi => absurd hi (Nat.not_lt_zero _)⟩
  generalize h ++ [(.inl (2, many, .inr (.inl fun _ => 0)) : zx_E)] = g1 at hn G1 zk1
  obtain ⟨x1, f1⟩ := x.fr G1
  have m1 := G1.m
  obtain ⟨g2, a2, m2, e2, x2, f2, b2⟩ := x1.lit zl_600 (by show w.length + 1 ≤ _; omega) (by omega)
  have hm2 : m2 ≤ 18100 := zm_le b2 hm (by show w.length + 1 ≤ _; omega)
  have q2 := f2.2.2.1
  have q2' := f2.2.1
  have hwl2 : (w ++ [35]).length = w.length + 1 := List.length_append
  obtain ⟨g3, a3, m3, e3, x3, f3, b3⟩ := x2.dig (n := col) (by omega) (by omega) (by omega)
  have hm3 : m3 ≤ 18100 := zm_le b3 hm2 (by omega)
  have q3 := f3.2.2.1
  have q3' := f3.2.1
  have hwl3 : (w ++ [35] ++ [48 + col]).length = w.length + 2 := by rw [List.length_append, hwl2]; rfl
  obtain ⟨d, g4, hd, e4, r4, G4, -⟩ := zdraw x3.1 (n := 2) (by decide) (by decide)
  obtain ⟨x4, f4⟩ := x3.G G4 r4
  have m4 := G4.m
  have zk4 := ((zk1.keep x1 f2).keep x2 f3).keep x3 f4
  have l1 := f1.1
  have l2 := f2.1
  have l3 := f3.1
  have l4 := f4.1
  have fin : ∀ (lit : Nat) (l : List Nat), zLit lit l → l.length ≤ 1 → (l = [] ∨ l = [32]) → zOut now ver tx pr gr q pt a m w k T (zCo T 0 1) 82 1 19400 h (f_ColumnVaultLaw_test_109 0 1 (nI t) q (nI col) (nI (T.kd col)) (nI op) (nI many) h.length q lit g4) := by
    intro lit l hll hl1 hls
    obtain ⟨g5, a5, m5, b, R', ks', e5, x5, f5, z5, c1, c2, c3, c4, c5, c6, c7⟩ := zt109 (many := many) (p8 := h.length) hT wT ht hc h6 hmany hlen hwl hll hl1 x4 (by omega) hm3 zk4 (by omega) (by omega)
    refine ⟨g5, a5, m5, b, [35, 48 + col] ++ (l ++ R'), (35, lN col) :: zopt (zaop op) :: ztoks (T.kd col) ks', zrt T col (zaop op) ks', 1, e5, ?_, (((((f1.t f2).t f3).t f4).tg f5 (Nat.le_refl _)).wk (by omega)), z5, by omega, ?_, Or.inr ⟨35, [48 + col] ++ (l ++ R'), rfl, by decide, by decide⟩, fun c hc => ?_, ?_, Nat.le_refl _, Nat.le_refl _, zCo_ks wT hc h6 c2 c3, c6, c7⟩
    · have ew : w ++ ([35, 48 + col] ++ (l ++ R')) = w ++ [35] ++ [48 + col] ++ l ++ R' := by simp only [List.append_assoc]; rfl
      rw [ew]
      exact x5
    · have y1 := zLy_col (d := 48 + col) (by omega) (by omega)
      rw [show 48 + col - 48 = col by omega] at y1
      have y2 : zLx (l ++ R') ([] ++ (zopt (zaop op) :: ztoks (T.kd col) ks')) := by
        rcases hls with rfl | rfl
        · exact zLyx zLy_nil c4.1
        · exact zLyx zLy_sp c4.1
      exact zLyx y1 y2
    · rcases List.mem_append.mp hc with hc | hc
      · rcases List.mem_cons.mp hc with hc | hc
        · omega
        · have := List.mem_singleton.mp hc; omega
      · rcases List.mem_append.mp hc with hc | hc
        · rcases hls with rfl | rfl
          · exact absurd hc List.not_mem_nil
          · rw [List.mem_singleton.mp hc]; decide
        · exact c4.2.2 c hc
    · rw [List.length_append, List.length_append]
      show 2 + _ ≤ 82 * 1
      omega
  unfold f_ColumnVaultLaw_test_75
  rw [ze_b2 hn, ze_b x1.2.2.1.is, ze_b2 e2, ze_b x2.2.2.1.is, ze_b2 e3, show (2 : Int32) = nI 2 from rfl, ze_b2 e4]
  by_cases hz : d = 0
  · rw [if_neg (fun z => z (by rw [hz]; rfl))]
    exact fin _ _ zl_602 (by decide) (Or.inr rfl)
  · rw [if_pos (nI_ne0 (by omega) (by omega))]
    exact fin _ _ zl_604 (by decide) (Or.inl rfl)
theorem zOut_f {P : List (Nat × Int64) → (Nat → Bool) → Nat → Prop} {L N B B' k' : Nat} {x : Option ((Nat ⊕ Nat) × zx_H)} (f : zLf k' q pt a m a m h g) (o : zOut now ver tx pr gr q pt a m w k T P L N B g x) (hB : k' + B ≤ B') : zOut now ver tx pr gr q pt a m w k T P L N B' h x := by
  obtain ⟨j, a', m', b, s, ts, S, n, e, x1, f1, z, c1, c2, c3, c4, c5, c6, c7, c8⟩ := o
  have l1 := f.1
  refine ⟨j, a', m', b, s, ts, S, n, e, x1, (f.t f1).wk ?_, z, by omega, c2, c3, c4, c5, c6, c7, c8⟩
  have h1 : (k' + B) * n ≤ B' * n := Nat.mul_le_mul_right _ hB
  have h2 : k' * 1 ≤ k' * n := Nat.mul_le_mul_left _ c6
  rw [Nat.add_mul] at h1
  omega
theorem zttest (hT : ver now t = T) (wT : zWF T) (ht : t < 3) (h1 : 1 ≤ T.nc) (x : zLw h now ver tx pr gr q a m w pt k) (h16 : 16 ≤ m) (hm : m ≤ 18100) (hw : w.length + 110 ≤ 8700) (hB : zM h + 58300 ≤ 6400000 + 2 * m) : zOut now ver tx pr gr q pt a m w k T (zCo T 0 1) 82 1 19400 h (f_ColumnVaultLaw_test 0 1 (nI t) q pt h) := by
  have h4 := wT.c4
  obtain ⟨g1, e1, e2, x1, f1⟩ := x.test (by omega)
  have sz := x1.2.1.size1 ht
  rw [hT] at sz
  obtain ⟨col, g2, hc, e3, r2, G2, -⟩ := zdraw x1.1 (n := T.nc) (by omega) (by omega)
  obtain ⟨x2, f2⟩ := x1.G G2 r2
  have kd := x2.2.1.kind ht (c := col) (by rw [hT]; exact hc)
  rw [hT] at kd
  obtain ⟨op, g3, ho, e4, r3, G3, -⟩ := zdraw x2.1 (n := 6) (by decide) (by decide)
  obtain ⟨x3, f3⟩ := x2.G G3 r3
  have q1 := f1.2.1
  have m2 := G2.m
  have m3 := G3.m
  have f123 := (f1.t f2).t f3
  unfold f_ColumnVaultLaw_test
  rw [ze_b e1, ze_b e2, ze_b x1.2.1.is, ze_b3 sz, ze_b2 e3, ze_b x2.2.1.is, ze_b3 kd, show (6 : Int32) = nI 6 from rfl, ze_b2 e4]
  by_cases h3 : op < 3
  · rw [if_neg (show ¬ (3 : Int32) ≤ nI op from nI_ge (b := 3) h3 (by decide))]
    exact zOut_f f123 (zt75 (many := 1) hT wT ht hc ho (by decide) (fun ks hk => Or.inl ⟨h3, hk⟩) x3 h16 hm hw (by omega)) (by decide)
  · rw [if_pos (show (3 : Int32) ≤ nI op from nI_le (a := 3) (by omega) (by omega))]
    have : op = 3 ∨ op = 4 ∨ op = 5 := by omega
    rcases this with rfl | rfl | rfl
    · rw [if_neg (fun z => z rfl)]
      exact zOut_f f123 (zt75 (many := 2) hT wT ht hc ho (by decide) (fun ks hk => Or.inr (Or.inl ⟨rfl, hk⟩)) x3 h16 hm hw (by omega)) (by decide)
    · obtain ⟨d, g4, hd, e5, r4, G4, -⟩ := zdraw x3.1 (n := 6) (by decide) (by decide)
      obtain ⟨x4, f4⟩ := x3.G G4 r4
      have m4 := G4.m
      rw [if_pos (by decide), if_neg (fun z => z rfl), ze_b2 e5, show (1 : Int32) + nI d = nI (1 + d) from nI_add 1 d]
      exact zOut_f (f123.t f4) (zt75 (many := 1 + d) hT wT ht hc ho (by omega) (fun ks hk => Or.inr (Or.inr (Or.inl ⟨rfl, by omega, by omega⟩))) x4 h16 hm hw (by omega)) (by decide)
    · rw [if_pos (by decide), if_pos (by decide)]
      exact zOut_f f123 (zt75 (many := 0) hT wT ht hc ho (by decide) (fun ks hk => Or.inr (Or.inr (Or.inr ⟨rfl, hk⟩))) x3 h16 hm hw (by omega)) (by decide)
end ZTW

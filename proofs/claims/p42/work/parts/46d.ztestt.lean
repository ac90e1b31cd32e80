/-! ===== a drawn test, with its text ===== -/
section ZTV
variable {h g j : zx_H} {now : Nat} {ver : Nat → Nat → zT} {tx : List Nat} {pr : Nat × (Nat → Nat) × (Nat → Int32)} {gr : zT × Nat × Nat × (Nat → Int64) × (Nat → Nat → Bool)} {q pt a m a' m' p c k b t op col : Nat} {w u : List Nat} {ks : List Int64} {T : zT}
/-- a cell that no step of the text touches -/
def zNk : zx_E → Prop
  | .inl (t, _) => t ≠ 1 ∧ t ≠ 3
  | .inr (ci, _) => ci ≠ 1
theorem zLw.ne (x : zLw h now ver tx pr gr q a m w pt c) {e : zx_E} (he : h[p]? = some e) (nk : zNk e) : p ≠ 0 ∧ p ≠ q ∧ p ≠ a ∧ p ≠ pt := by
  obtain ⟨⟨f0, e0⟩, -, ⟨ml, f, c1, c2, -⟩, ⟨f3, c3, -⟩, -⟩ := x
  refine ⟨fun z => ?_, fun z => ?_, fun z => ?_, fun z => ?_⟩
  · rw [z, e0] at he; cases he; exact nk.1 rfl
  · rw [z, c1] at he; cases he; exact nk rfl
  · rw [z, c2] at he; cases he; exact nk.2 rfl
  · rw [z, c3] at he; cases he; exact nk.1 rfl
theorem zLf.keep {k' : Nat} (x : zLw h now ver tx pr gr q a m w pt c) (f : zLf k' q pt a m a' m' h g) {e : zx_E} (he : h[p]? = some e) (nk : zNk e) : g[p]? = some e := by
  obtain ⟨n0, n1, n2, n3⟩ := x.ne he nk
  exact (f.2.2.2.2 p (zlt_of he) n0 n1 n2 n3).trans he
theorem zBa.keep {k' n : Nat} {S : Nat → Bool} (z : zBa h p n S) (x : zLw h now ver tx pr gr q a m w pt c) (f : zLf k' q pt a m a' m' h g) : zBa g p n S := by
  obtain ⟨f2, e, hf⟩ := z
  exact ⟨f2, f.keep x e ⟨by decide, by decide⟩, hf⟩
theorem zKa.keep {k' n kd : Nat} (z : zKa h p kd n ks) (x : zLw h now ver tx pr gr q a m w pt c) (f : zLf k' q pt a m a' m' h g) : zKa g p kd n ks := by
  obtain ⟨f2, e, hf⟩ := z
  exact ⟨f2, f.keep x e ⟨by decide, by decide⟩, hf⟩
/-- one cell changed that isn't the text's -/
theorem zLw.cell {k' : Nat} (x : zLw h now ver tx pr gr q a m w pt c) (G : zG k' b (b + 1) h g) (hb : 177 ≤ b) (h1 : b ≠ q) (h2 : b ≠ a) (h3 : b ≠ pt) : zLw g now ver tx pr gr q a m w pt c := by
  obtain ⟨r, wd, sb, ⟨f, e1, e2⟩, a1, a2, a3, a4, a5⟩ := x
  obtain ⟨ml, f2, c1, c2, hr⟩ := sb
  exact ⟨r.G G (Or.inl (by omega)), wd.G G (Or.inl hb), ⟨ml, f2, G.gt c1 (by omega), G.gt c2 (by omega), hr⟩, ⟨f, G.gt e1 (by omega), e2⟩, a1, a2, a3, a4, a5⟩
theorem zLf.of {k1 k2 : Nat} (G0 : zG k1 0 0 h g) (G1 : zG k2 b (b + 1) g j) (hb : h.length ≤ b) : zLf (k1 + k2) q pt a m a m h j := by
  have m0 := G0.m
  have m1 := G1.m
  have l0 := G0.l
  have l1 := G1.l
  exact ⟨by omega, by omega, Nat.le_refl _, Or.inl rfl, fun p hp _ _ _ _ => (G1.2.2 p (by omega) (Or.inl (by omega))).trans (G0.2.2 p hp (Or.inr (Nat.zero_le _)))⟩
/-- what may have changed, cell e too -/
def zLg (e k q pt a m a' m' : Nat) (h g : zx_H) : Prop := h.length ≤ g.length ∧ zM g + 2 * m ≤ zM h + 2 * m' + k ∧ m ≤ m' ∧ (a' = a ∨ h.length ≤ a') ∧ ∀ p, p < h.length → p ≠ 0 → p ≠ q → p ≠ a → p ≠ pt → p ≠ e → g[p]? = h[p]?
theorem zLf.g0 {e k' : Nat} (f : zLf k' q pt a m a' m' h g) : zLg e k' q pt a m a' m' h g := ⟨f.1, f.2.1, f.2.2.1, f.2.2.2.1, fun p h1 h2 h3 h4 h5 _ => f.2.2.2.2 p h1 h2 h3 h4 h5⟩
theorem zLg.tr {e k1 k2 a2 m2 : Nat} (x : zLg e k1 q pt a m a' m' h g) (y : zLg e k2 q pt a' m' a2 m2 g j) : zLg e (k1 + k2) q pt a m a2 m2 h j := by
  obtain ⟨x1, x2, x3, x4, x5⟩ := x
  obtain ⟨y1, y2, y3, y4, y5⟩ := y
  exact ⟨by omega, by omega, by omega, by omega, fun p h1 h2 h3 h4 h5 h6 => (y5 p (by omega) h2 h3 (by omega) h5 h6).trans (x5 p h1 h2 h3 h4 h5 h6)⟩
theorem zLg.wk {e k1 k2 : Nat} (x : zLg e k1 q pt a m a' m' h g) (hk : k1 ≤ k2) : zLg e k2 q pt a m a' m' h g := by
  obtain ⟨x1, x2, x3, x4, x5⟩ := x
  exact ⟨x1, by omega, x3, x4, x5⟩
theorem zLf.tg {e k1 k2 a2 m2 : Nat} (x : zLf k1 q pt a m a' m' h g) (y : zLg e k2 q pt a' m' a2 m2 g j) (he : h.length ≤ e) : zLf (k1 + k2) q pt a m a2 m2 h j := by
  obtain ⟨x1, x2, x3, x4, x5⟩ := x
  obtain ⟨y1, y2, y3, y4, y5⟩ := y
  exact ⟨by omega, by omega, by omega, by omega, fun p h1 h2 h3 h4 h5 => (y5 p (by omega) h2 h3 (by omega) h5 (by omega)).trans (x5 p h1 h2 h3 h4 h5)⟩
theorem zar2 {x y : Nat} (h : x < y) : 170 + 0 + 300 + (500 * (y - (x + 1)) + 16100) ≤ 500 * (y - x) + 16100 := by omega
theorem zm_le (hm : m' ≤ m ∨ m' ≤ 2 * k) (h1 : m ≤ 18100) (h2 : k ≤ 9000) : m' ≤ 18100 := by omega
/-- what stands of a test's values -/
def ztoks (kd : Nat) (ks : List Int64) : List (Nat × Int64) := (ks.map (ztd kd)).map fun v => (if kd = 1 then 97 else 48, v)
theorem ztoks_app {kd : Nat} {x : Int64} : ztoks kd (ks ++ [x]) = ztoks kd ks ++ [(if kd = 1 then 97 else 48, ztd kd x)] := by
  unfold ztoks
  rw [List.map_append, List.map_append]
  rfl
def zQ (op kd : Nat) (R : List Nat) (ks : List Int64) : Prop := zLx R (zopt (zaop op) :: ztoks kd ks) ∧ (op < 3 → ks = [] → zLy R [zopt (zaop op)]) ∧ ∀ c ∈ R, 1 ≤ c
abbrev zK175 : Type := Nat → Nat → Int32 → Nat → Int32 → Int32 → Int32 → Int32 → Nat → Int32 → zx_H → Option ((Nat ⊕ Nat) × zx_H)
/-- a value's text behind -/
theorem zt215 {K : zK175} (x : zLw h now ver tx pr gr q a m w pt k) (h16 : 16 ≤ m) (hm : m ≤ 18100) {lit : Nat} {l : List Nat} (hl : zLit lit l) (hll : l.length ≤ 1) {p8 n kd : Nat} {x0 : Int64} (zk : zKa h p8 kd n (ks ++ [x0])) (hi : ks.length < n) (hn : n ≤ 10) (hkd : kd ≤ 1) (ok : zokK kd x0) (ne : x0 ≠ -9000000000) {p2 p4 p6 p7 : Int32} (hw : w.length ≤ 8700) (hB : zM h + 36900 ≤ 6800000 + 2 * m) : ∃ g a' m' s, f_ColumnVaultLaw_test_215 K 0 1 p2 q p4 (nI kd) p6 p7 p8 (nI ks.length) q lit h = K 0 1 p2 q p4 (nI kd) p6 p7 p8 (nI (ks.length + 1)) g ∧ zLw g now ver tx pr gr q a' m' (w ++ (l ++ s)) pt k ∧ zLf 300 q pt a m a' m' h g ∧ zKa g p8 kd n (ks ++ [x0]) ∧ zVs kd (ztd kd x0) s ∧ 16 ≤ m' ∧ m' ≤ 18100 := by
  obtain ⟨g1, a1, m1, e1, x1, f1, b1⟩ := x.lit hl (by omega) (by omega)
  have hm1 : m1 ≤ 18100 := zm_le b1 hm (by omega)
  have q1 := f1.2.2.1
  have q2 := f1.2.1
  have zk1 := zk.keep x f1
  have hlen : ks.length < (ks ++ [x0]).length := by rw [List.length_append]; show _ < ks.length + 1; omega
  have hget : (ks ++ [x0]).getD ks.length 0 = x0 := zgdN ks x0
  have hwl : (w ++ l).length = w.length + l.length := List.length_append
  unfold f_ColumnVaultLaw_test_215
  rw [ze_b x.2.2.1.is, ze_b2 e1]
  rcases Nat.le_one_iff_eq_zero_or_eq_one.mp hkd with rfl | rfl
  · have hv : -1000000 ≤ x0.toInt ∧ x0.toInt ≤ 1000000 := by
      rcases ok with z | ⟨_, z⟩ | ⟨z, _⟩
      · exact absurd z ne
      · exact z
      · cases z
    obtain ⟨nn, neg, ev, hnn, hneg⟩ := zabs hv.1 hv.2
    obtain ⟨h2, h3, h4, h5, g2, r, s, y1, y2, y3, y4, y5, y6, y7, y8, y9, y10, y11, y12⟩ := zNstr (h := g1) (by omega) hnn hneg
    have ld := (zk1.G y5 (Or.inr (Nat.zero_le _))).ld hlen (by omega) hn
    rw [hget, ztd_0, ev] at ld
    obtain ⟨x2, f2⟩ := x1.fr y12
    have hs := y11.2.1
    have q3 := y12.m
    obtain ⟨g3, a3, m3, e3, x3, f3, b3⟩ := x2.str2 y10 (by omega) (by omega) (by omega) (by omega)
    have hm3 : m3 ≤ 18100 := zm_le b3 hm1 (by omega)
    have q4 := f3.2.2.1
    refine ⟨g3, a3, m3, s, ?_, by rw [← List.append_assoc]; exact x3, ((f1.t f2).t f3).wk (by omega), (zk1.keep x1 f2).keep x2 f3, by rw [ztd_0, ev]; exact y11, by omega, hm3⟩
    rw [if_pos (by decide), ze_b2 y1, ze_b2 y2, ze_b y3, ze_b2 y4, ze_b ld, ze_b y6, ze_b2 y7, ze_b y8, ze_b2 y9, ze_b x2.2.2.1.is, ze_b2 e3, nI_1]
  · obtain ⟨M, v, h1, h7, hz, ev⟩ : ∃ M v, 1 ≤ M ∧ M ≤ 7 ∧ zwd M v ∧ x0 = lN (zwk M v) := by
      rcases ok with z | ⟨z, _⟩ | ⟨_, z⟩
      · exact absurd z ne
      · cases z
      · exact z
    subst ev
    have et := ztd_w h1 h7 hz
    have ld := zk1.ld hlen (by omega) hn
    rw [hget, et] at ld
    obtain ⟨g2, r, y1, y2, y3, y4⟩ := zword (h := g1) h7 hz (by omega)
    obtain ⟨x2, f2⟩ := x1.fr y3
    have q3 := y3.m
    have hs : (zltr M v).length ≤ 9 := by rw [zltr_len]; omega
    obtain ⟨g3, a3, m3, e3, x3, f3, b3⟩ := x2.str2 y2 (by omega) (by omega) (by omega) (by omega)
    have hm3 : m3 ≤ 18100 := zm_le b3 hm1 (by omega)
    have q4 := f3.2.2.1
    refine ⟨g3, a3, m3, zltr M v, ?_, by rw [← List.append_assoc]; exact x3, ((f1.t f2).t f3).wk (by omega), (zk1.keep x1 f2).keep x2 f3, by rw [et]; exact zVs_word hz h1 h7, by omega, hm3⟩
    rw [if_neg (by decide), ze_b ld, ze_b2 y1, ze_b x2.2.2.1.is, ze_b2 e3, nI_1]
/-- all values, then the rows -/
theorem zt175 (hT : ver now t = T) (wT : zWF T) (ht : t < 3) (hc : col < T.nc) (h6 : op < 6) {many p8 : Nat} (hmany : many ≤ 6) (hlen : ∀ ks : List Int64, ks.length = many → zln1 op ks) (hp8 : 177 ≤ p8) {w0 : List Nat} : ∀ n (ks : List Int64) (R : List Nat) a m h, ks.length ≤ many → many - ks.length < n → zLw h now ver tx pr gr q a m (w0 ++ R) pt k → 16 ≤ m → m ≤ 18100 → zoks (T.kd col) ks → zKa h p8 (T.kd col) many ks → zQ op (T.kd col) R ks → (w0 ++ R).length + 12 * (many - ks.length) ≤ 8700 → zM h + 36900 + 500 * (many - ks.length) + 17000 ≤ 6400000 + 2 * m → ∃ g a' m' b R' ks', f_ColumnVaultLaw_test_175 n 0 1 (nI t) q (nI col) (nI (T.kd col)) (nI op) (nI many) p8 (nI ks.length) h = some (.inl b, g) ∧ zLw g now ver tx pr gr q a' m' (w0 ++ R') pt k ∧ zLg p8 (500 * (many - ks.length) + 16100) q pt a m a' m' h g ∧ zBa g b T.nr (zrt T col (zaop op) ks') ∧ h.length ≤ b ∧ zln1 op ks' ∧ zoks (T.kd col) ks' ∧ zQ op (T.kd col) R' ks' ∧ R'.length ≤ R.length + 12 * (many - ks.length) ∧ 16 ≤ m' ∧ m' ≤ 18100 := by
  have h40 := wT.r40
  have hkd := wT.k1 hc
  intro n
  induction n with
  | zero => intro ks _ _ _ _ _ hn; exact absurd hn (Nat.not_lt_zero _)
  | succ n ih =>
    intro ks R a m h hk hn x h16 hm hks zk hQ hw hB
    have hc' : col < (ver now t).nc := by rw [hT]; exact hc
    unfold f_ColumnVaultLaw_test_175
    rcases Nat.lt_or_ge ks.length many with hlt | hge
    · have hwl := x.2.1.len
      obtain ⟨g1, v, e1, ok, r1, G1⟩ := zvalue x.1 (by omega) (by omega) hkd
      obtain ⟨x1, f1⟩ := x.G G1 r1
      have m1 := G1.m
      obtain ⟨y, oky, ney, ey⟩ := zokV_k ok
      have zk1 := zk.keep x f1
      obtain ⟨f, ef, hf⟩ := zk1
      have st := zh_stJ (x := v) ef hlt (by omega)
      have U2 : zU p8 1 g1 (g1.set p8 (.inl (2, many, .inr (.inl (vp_updL f ks.length v))))) := zU_s ef rfl (by omega)
      have ec := zh_set_s (c' := .inl (2, many, .inr (.inl (vp_updL f ks.length v)))) ef
      generalize g1.set p8 (.inl (2, many, .inr (.inl (vp_updL f ks.length v)))) = g2 at st U2 ec
      have G2 := zG_U U2 (a := p8) (b := p8 + 1) (Nat.le_refl _) (Nat.le_refl _)
      have m2 := G2.m
      obtain ⟨n0, n1, n2, n3⟩ := x1.ne ef ⟨by decide, by decide⟩
      have x2 := x1.cell G2 hp8 n1 n2 n3
      have zk2 : zKa g2 p8 (T.kd col) many (ks ++ [y]) := ⟨_, ec, fun i hi => by
        rw [List.length_append] at hi
        have hi : i < ks.length + 1 := hi
        by_cases e : i = ks.length
        · rw [e, pk_uLs, zgdN, ey]
        · rw [pk_uLn e, hf i (by omega), zgdM ks y i (by omega)]⟩
      have hl2 : (ks ++ [y]).length = ks.length + 1 := List.length_append
      have hks2 : zoks (T.kd col) (ks ++ [y]) := fun z hz => by
        rcases List.mem_append.mp hz with hz | hz
        · exact hks z hz
        · rw [List.mem_singleton.mp hz]; exact ⟨oky, ney⟩
      have q1 := f1.2.1
      -- the text of the value, and on
      have go : ∀ (g3 : zx_H) (lit : Nat) (l : List Nat), zLit lit l → l.length ≤ 1 → (l = [] ∨ l = [32]) → (¬ op < 3 → l = [32]) → zLw g3 now ver tx pr gr q a m (w0 ++ R) pt k → zG 0 0 1 g2 g3 → ∃ g a' m' b R' ks', f_ColumnVaultLaw_test_215 (f_ColumnVaultLaw_test_175 n) 0 1 (nI t) q (nI col) (nI (T.kd col)) (nI op) (nI many) p8 (nI ks.length) q lit g3 = some (.inl b, g) ∧ zLw g now ver tx pr gr q a' m' (w0 ++ R') pt k ∧ zLg p8 (500 * (many - ks.length) + 16100) q pt a m a' m' h g ∧ zBa g b T.nr (zrt T col (zaop op) ks') ∧ h.length ≤ b ∧ zln1 op ks' ∧ zoks (T.kd col) ks' ∧ zQ op (T.kd col) R' ks' ∧ R'.length ≤ R.length + 12 * (many - ks.length) ∧ 16 ≤ m' ∧ m' ≤ 18100 := by
        intro g3 lit l hl hll hls hl3 x3 G3
        have m3 := G3.m
        have zk3 := zk2.G G3 (Or.inr (by omega))
        obtain ⟨g4, a4, m4, s, e4, x4, f4, zk4, hs, k16, k18⟩ := zt215 (K := f_ColumnVaultLaw_test_175 n) (p2 := nI t) (p4 := nI col) (p6 := nI op) (p7 := nI many) x3 h16 hm hl hll zk3 hlt (by omega) hkd oky ney (by omega) (by omega)
        have hs9 := hs.2.1
        rw [List.append_assoc] at x4
        have hRl : (R ++ (l ++ s)).length = R.length + (l.length + s.length) := by rw [List.length_append, List.length_append]
        have hwR : (w0 ++ (R ++ (l ++ s))).length = w0.length + (R.length + (l.length + s.length)) := by rw [List.length_append, hRl]
        have hwR0 : (w0 ++ R).length = w0.length + R.length := List.length_append
        have hchunk : zLx (l ++ s) [(if T.kd col = 1 then 97 else 48, ztd (T.kd col) y)] := by
          rcases hls with rfl | rfl
          · exact hs.1
          · exact zLyx zLy_sp hs.1
        have hQ2 : zQ op (T.kd col) (R ++ (l ++ s)) (ks ++ [y]) := by
          refine ⟨?_, fun _ z => absurd z (by intro z; exact absurd (congrArg List.length z) (by rw [hl2]; show ¬ ks.length + 1 = 0; omega)), fun c hc => ?_⟩
          · rw [ztoks_app]
            by_cases h3 : op < 3
            · have hk0 : ks = [] := by
                rcases hlen (ks ++ List.replicate (many - ks.length) 0) (by rw [List.length_append, List.length_replicate]; omega) with ⟨_, z⟩ | ⟨z, _⟩ | ⟨z, _⟩ | ⟨z, _⟩
                · rw [List.length_append, List.length_replicate] at z
                  exact List.length_eq_zero_iff.mp (by omega)
                · omega
                · omega
                · omega
              have := zLyx (hQ.2.1 h3 hk0) hchunk
              rw [hk0]
              exact this
            · have hd : zhd (l ++ s) := by
                rw [hl3 h3]
                exact Or.inr ⟨32, s, rfl, by decide, by decide⟩
              exact zLx_app hQ.1 hchunk hd
          · rcases List.mem_append.mp hc with hc | hc
            · exact hQ.2.2 c hc
            · rcases List.mem_append.mp hc with hc | hc
              · rcases hls with rfl | rfl
                · exact absurd hc List.not_mem_nil
                · rw [List.mem_singleton.mp hc]; decide
              · exact hs.2.2.2 c hc
        have q4 := f4.2.1
        have l4 := f4.1
        obtain ⟨g, a5, m5, b, R', ks', e5, x5, f5, z5, c1, c2, c3, c4, c5, c6, c7⟩ := ih (ks ++ [y]) (R ++ (l ++ s)) a4 m4 g4 (by omega) (by omega) x4 k16 k18 hks2 zk4 hQ2 (by omega) (by omega)
        rw [hl2] at e5 c5 f5
        have l1 := G1.l
        have l2 := G2.l
        have l3 := G3.l
        have f23 : zLg p8 0 q pt a m a m g1 g3 := ⟨by omega, by omega, Nat.le_refl _, Or.inl rfl, fun p hp p0 _ _ _ p8' => by rw [G3.2.2 p (by omega) (Or.inr (by omega)), G2.2.2 p hp (by omega)]⟩
        refine ⟨g, a5, m5, b, R', ks', ?_, x5, (((f1.g0.tr f23).tr f4.g0).tr f5).wk (zar2 hlt), z5, by omega, c2, c3, c4, by omega, c6, c7⟩
        rw [e4]
        exact e5
      have e1' : f_ColumnVaultLaw_value 0 (nI (T.kd col)) h = some (v, g1) := e1
      rw [if_neg (nI_ge hlt (by omega)), ze_b2 e1', ze_b st]
      by_cases h3 : op < 3
      · rw [if_neg (show ¬ (2 : Int32) < nI op from nI_nlt (a := 2) (by omega) (by decide))]
        obtain ⟨d, g3, hd, e3, r3, G3, -⟩ := zdraw x2.1 (n := 3) (by decide) (by decide)
        obtain ⟨x3, f3⟩ := x2.G G3 r3
        rw [show (3 : Int32) = nI 3 from rfl, ze_b2 e3]
        by_cases hz : d = 0
        · rw [if_neg (fun z => z (by rw [hz]; rfl))]
          exact go g3 _ _ zl_602 (by decide) (Or.inr rfl) (fun _ => rfl) x3 G3
        · rw [if_pos (nI_ne0 (by omega) (by omega))]
          exact go g3 _ _ zl_604 (by decide) (Or.inl rfl) (fun z => absurd h3 z) x3 G3
      · rw [if_pos (show (2 : Int32) < nI op from nI_lt (a := 2) (by omega) (by omega))]
        exact go g2 _ _ zl_602 (by decide) (Or.inr rfl) (fun _ => rfl) x2 zG.refl
    · have ek : ks.length = many := Nat.le_antisymm hk hge
      have hl := zlen (h := h) (by omega)
      have hwl := x.2.1.len
      have sz := x.2.1.size0 ht
      rw [hT] at sz
      have hn := zh_newZ (h := h) (n := T.nr) (by omega) (zlim (by omega))
      have G1 : zG (12 + T.nr) 0 0 h (h ++ [.inl (5, T.nr, .inl fun _ => 0)]) := zG_app (c := .inl (5, T.nr, .inl fun _ => 0))
      have z1 : zBp (h ++ [.inl (5, T.nr, .inl fun _ => 0)]) h.length T.nr 0 (zrt T col (zaop op) ks) := ⟨_, zG_end, fun j hj => absurd hj (Nat.not_lt_zero _)⟩
      generalize h ++ [(.inl (5, T.nr, .inl fun _ => 0) : zx_E)] = g1 at hn G1 z1
      obtain ⟨x1, f1⟩ := x.fr G1
      have m1 := G1.m
      have zk1 := zk.keep x f1
      rw [← ek] at zk1
      have hp8l : p8 < h.length := by
        obtain ⟨f, e, _⟩ := zk
        exact zlt_of e
      obtain ⟨g2, e2, z2, G2⟩ := zt281 (q := h.length) (p6 := p8) hT wT ht hc h6 (hlen ks ek) hks hwl hl (by omega) (fun r _ => rfl) zF 0 g1 (Nat.zero_le _) (by unfold zF; omega) x1.2.1 z1 zk1 (by omega)
      rw [nI_0] at e2
      obtain ⟨n0, n1, n2, n3⟩ := x1.ne (p := h.length) z1.choose_spec.1 ⟨by decide, by decide⟩
      have x2 := x1.cell G2 hwl n1 n2 n3
      have mm : T.nr * 400 ≤ 40 * 400 := Nat.mul_le_mul_right _ h40
      rw [if_pos (nI_le hge (by omega)), ze_b x.2.1.is, ze_b3 sz, ze_b2 hn, ← ek]
      exact ⟨g2, a, m, h.length, R, ks, e2, x2, ((zLf.of G1 G2 (Nat.le_refl _)).g0).wk (by omega), z2, Nat.le_refl _, hlen ks ek, hks, hQ, by omega, h16, hm⟩
end ZTV

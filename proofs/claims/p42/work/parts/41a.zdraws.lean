/-! ===== steps ===== -/
section ZSP
variable {h1 h2 h3 : zx_H} {n1 n2 n3 : Nat} {v1 v2 v3 : Nat → Nat → zT} {u a b k k' : Nat}
/-- from one state to the next: table u alone was changed, in a steps at most -/
def zSp (u a k : Nat) (h : zx_H) (now : Nat) (ver : Nat → Nat → zT) (g : zx_H) (now' : Nat) (ver' : Nat → Nat → zT) : Prop := now ≤ now' ∧ now' ≤ now + a ∧ zM g ≤ zM h + k ∧ ∀ t', t' ≠ u → ver' now' t' = ver now t'
theorem zU_m (U : zU 2 146 h1 h2) : zM h2 = zM h1 := by unfold zM; rw [U.1, U.2.1]
theorem zSp.r : zSp u 0 0 h1 n1 v1 h1 n1 v1 := ⟨Nat.le_refl _, Nat.le_refl _, Nat.le_refl _, fun _ _ => rfl⟩
theorem zSp.t (x : zSp u a k h1 n1 v1 h2 n2 v2) (y : zSp u b k' h2 n2 v2 h3 n3 v3) : zSp u (a + b) (k + k') h1 n1 v1 h3 n3 v3 := ⟨by have := x.1; have := y.1; omega, by have := x.2.1; have := y.2.1; omega, by have := x.2.2.1; have := y.2.2.1; omega, fun t' ht => (y.2.2.2 t' ht).trans (x.2.2.2 t' ht)⟩
theorem zSp.w (x : zSp u a k h1 n1 v1 h2 n2 v2) (ha : a ≤ b) (hk : k ≤ k') : zSp u b k' h1 n1 v1 h2 n2 v2 := ⟨x.1, by have := x.2.1; omega, by have := x.2.2.1; omega, x.2.2.2⟩
theorem zSp.c {T : zT} (U : zU 2 146 h1 h2) : zSp u 1 0 h1 n1 v1 h2 (n1 + 1) (zvc v1 n1 u T) := ⟨by omega, Nat.le_refl _, by rw [zU_m U]; exact Nat.le_refl _, fun t' ht => zvc_o ht⟩
theorem zSp.g {x y : Nat} (G : zG k x y h1 h2) : zSp u 0 k h1 n1 v1 h2 n1 v1 := ⟨Nat.le_refl _, Nat.le_refl _, G.m, fun _ _ => rfl⟩
end ZSP
/-! ===== the law's draws ===== -/
section ZDW
variable {h g j : zx_H} {now now' now2 : Nat} {ver ver' ver2 : Nat → Nat → zT} {tx : List Nat} {pr : Nat × (Nat → Nat) × (Nat → Int32)} {gr : zT × Nat × Nat × (Nat → Int64) × (Nat → Nat → Bool)} {t a b k k' : Nat}
theorem zdrawW (r : zR h) (w : zWd h now ver tx pr gr) {n : Nat} (h0 : 0 < n) (hn : n < 2 ^ 30) : ∃ v g, v < n ∧ f_ColumnVaultLaw_draw 0 (nI n) h = some (nI v, g) ∧ zR g ∧ zWd g now ver tx pr gr ∧ zG 0 0 1 h g := by
  obtain ⟨v, g, hv, e, r', G, _⟩ := zdraw r h0 hn
  exact ⟨v, g, hv, e, r', w.G G (Or.inr (Nat.le_refl _)), G⟩
theorem zR.U (r : zR h) (U : zU 2 146 h g) : zR g := r.G (zU_G U) (Or.inl (by decide))
/-- the values of a row -/
theorem zdw155 {nc row : Nat} (ht : t < 3) (hnc : nc ≤ 4) {p4 p5 : Int32} {K : Nat → Nat → Int32 → Int32 → Int32 → Int32 → zx_H → Option ((Unit ⊕ Nat) × zx_H)} : ∀ n c h now ver, c ≤ nc → nc - c < n → zR h → zWd h now ver tx pr gr → (ver now t).nc = nc → row < (ver now t).nr → now + (nc - c) < 100000 → zM h + 170 * (nc - c) ≤ 6700000 → ∃ g now' ver', zR g ∧ zWd g now' ver' tx pr gr ∧ zSp t (nc - c) (170 * (nc - c)) h now ver g now' ver' ∧ (ver' now' t).nc = nc ∧ (ver' now' t).nr = (ver now t).nr ∧ (ver' now' t).kd = (ver now t).kd ∧ (f_ColumnVaultLaw_draws_155 K n 1 0 (nI t) (nI nc) p4 p5 (nI row) (nI c) h = K 1 0 (nI t) (nI nc) p4 (p5 + (1 : Int32)) g ∨ f_ColumnVaultLaw_draws_155 K n 1 0 (nI t) (nI nc) p4 p5 (nI row) (nI c) h = some (.inl (), g)) := by
  intro n
  induction n with
  | zero => intro c _ _ _ _ hn; exact absurd hn (Nat.not_lt_zero _)
  | succ n ih =>
    intro c h now ver hc hn r w en hrow hN hB
    unfold f_ColumnVaultLaw_draws_155
    rcases Nat.lt_or_ge c nc with hlt | hge
    · obtain ⟨v, g1, hv, e1, r1, w1, G1⟩ := zdrawW r w (n := 5) (by decide) (by decide)
      have m1 := G1.m
      rw [if_neg (nI_ge hlt (by omega)), show (5 : Int32) = nI 5 from rfl, ze_b2 e1]
      by_cases hz : v = 0
      · rw [if_pos (by rw [hz]; decide), nI_1]
        obtain ⟨g, now', ver', r2, w2, s2, c2, n2, d2, e2⟩ := ih (c + 1) g1 now ver hlt (by omega) r1 w1 en hrow (by omega) (by omega)
        exact ⟨g, now', ver', r2, w2, ((zSp.g G1).t s2).w (by omega) (by omega), c2, n2, d2, e2⟩
      · have hc1 : c < (ver now t).nc := by omega
        obtain ⟨g2, x, e2, ok, r2, G2⟩ := zvalue r1 (by omega) (by have := w1.len; omega) ((w1.F ht).k1 hc1)
        have m2 := G2.m
        have w2 := w1.G G2 (Or.inr (Nat.le_refl _))
        obtain ⟨y, oky, ney, ey⟩ := zokV_k ok
        obtain ⟨g3, e3, w3, U3⟩ := w2.set (by omega) ht hc1 hrow oky ney
        rw [ey] at e3
        have r3 := r2.U U3
        have m3 := zU_m U3
        have s3 := ((zSp.g G1).t (zSp.g G2)).t (zSp.c (u := t) (n1 := now) (v1 := ver) (T := zPut (ver now t) c row y) U3)
        rw [if_neg (nI_nle (by omega) (by omega)), ze_b w1.is, ze_b3 (w1.kind ht hc1), ze_b2 e2, ze_b w2.is, ze_b3 e3]
        by_cases hz2 : decide (y ≠ (ver now t).ky c row) = true
        · rw [if_pos (zb1 hz2), nI_1]
          obtain ⟨g, now', ver', r4, w4, s4, c4, n4, d4, e4⟩ := ih (c + 1) g3 (now + 1) (zvc ver now t (zPut (ver now t) c row y)) hlt (by omega) r3 w3 (by rw [zvc_t]; exact en) (by rw [zvc_t]; exact hrow) (by omega) (by omega)
          rw [zvc_t] at n4 d4
          exact ⟨g, now', ver', r4, w4, (s3.t s4).w (by omega) (by omega), c4, n4, d4, e4⟩
        · rw [if_neg (fun z => z (zbt0 hz2))]
          exact ⟨g3, now + 1, zvc ver now t (zPut (ver now t) c row y), r3, w3, s3.w (by omega) (by omega), by rw [zvc_t]; exact en, by rw [zvc_t]; rfl, by rw [zvc_t]; rfl, Or.inr rfl⟩
    · rw [if_pos (nI_le hge (by omega))]
      have e : c = nc := Nat.le_antisymm hc hge
      exact ⟨h, now, ver, r, w, zSp.r.w (by omega) (by omega), en, rfl, rfl, Or.inl rfl⟩
/-- the rows, and one of them removed -/
theorem zdw138 {nc many : Nat} (ht : t < 3) (hnc : nc ≤ 4) (hmany : many ≤ 40) : ∀ n i h now ver, i ≤ many → many - i < n → zR h → zWd h now ver tx pr gr → (ver now t).nc = nc → (ver now t).nr + (many - i) ≤ 40 → now + (5 * (many - i) + 1) < 100000 → zM h + 680 * (many - i) ≤ 6700000 → ∃ g now' ver', f_ColumnVaultLaw_draws_138 n 1 0 (nI t) (nI nc) (nI many) (nI i) h = some (.inl (), g) ∧ zR g ∧ zWd g now' ver' tx pr gr ∧ zSp t (5 * (many - i) + 1) (680 * (many - i)) h now ver g now' ver' ∧ (ver' now' t).nc = nc ∧ (ver' now' t).nr ≤ (ver now t).nr + (many - i) ∧ (ver' now' t).kd = (ver now t).kd := by
  intro n
  induction n with
  | zero => intro c _ _ _ _ hn; exact absurd hn (Nat.not_lt_zero _)
  | succ n ih =>
    intro i h now ver hi hn r w en hr40 hN hB
    unfold f_ColumnVaultLaw_draws_138
    rcases Nat.lt_or_ge i many with hlt | hge
    · obtain ⟨g1, e1, w1, U1⟩ := w.addRow (by omega) ht (by omega)
      have r1 := r.U U1
      have m1 := zU_m U1
      have s1 := zSp.c (u := t) (n1 := now) (v1 := ver) (T := zRow (ver now t)) U1
      obtain ⟨g2, now2, ver2, r2, w2, s2, c2, n2, k2, e2⟩ := zdw155 (K := f_ColumnVaultLaw_draws_138 n) (p4 := nI many) (p5 := nI i) (nc := nc) (row := (ver now t).nr) ht hnc zF 0 g1 (now + 1) (zvc ver now t (zRow (ver now t))) (Nat.zero_le _) (by unfold zF; omega) r1 w1 (by rw [zvc_t]; exact en) (by rw [zvc_t]; show _ < (ver now t).nr + 1; omega) (by omega) (by omega)
      have n3 : (zvc ver now t (zRow (ver now t)) (now + 1) t).nr = (ver now t).nr + 1 := by rw [zvc_t]; rfl
      rw [n3] at n2
      have k3 : (ver2 now2 t).kd = (ver now t).kd := by rw [k2, zvc_t]; rfl
      have s3 := s1.t s2
      have d1 := s2.2.1
      have d2 := s2.2.2.1
      rw [nI_0] at e2
      rw [if_neg (nI_ge hlt (by omega)), ze_b w.is, ze_b3 e1]
      rcases e2 with e2 | e2
      · obtain ⟨g, now', ver', e4, r4, w4, s4, c4, n4, k4⟩ := ih (i + 1) g2 now2 ver2 hlt (by omega) r2 w2 c2 (by omega) (by omega) (by omega)
        refine ⟨g, now', ver', ?_, r4, w4, (s3.t s4).w (by omega) (by omega), c4, by omega, k4.trans k3⟩
        rw [e2, nI_1]
        exact e4
      · exact ⟨g2, now2, ver2, e2, r2, w2, s3.w (by omega) (by omega), c2, by omega, k3⟩
    · have e : i = many := Nat.le_antisymm hi hge
      have h40 := (w.T ht).r40
      rw [if_pos (nI_le hge (by omega)), ze_b w.is, ze_b3 (w.size0 ht)]
      by_cases h1 : (ver now t).nr ≤ 1
      · rw [if_pos (show nI (ver now t).nr ≤ (1 : Int32) from nI_le (b := 1) h1 (by decide))]
        exact ⟨h, now, ver, rfl, r, w, zSp.r.w (by omega) (by omega), en, by omega, rfl⟩
      · rw [if_neg (show ¬ nI (ver now t).nr ≤ (1 : Int32) from nI_ge (a := 1) (by omega) (by omega))]
        obtain ⟨v, g1, hv, e1, r1, w1, G1⟩ := zdrawW r w (n := 2) (by decide) (by decide)
        have m1 := G1.m
        rw [show (2 : Int32) = nI 2 from rfl, ze_b2 e1]
        by_cases hz : v = 0
        · obtain ⟨v2, g2, hv2, e2, r2, w2, G2⟩ := zdrawW r1 w1 (n := (ver now t).nr) (by omega) (by omega)
          obtain ⟨g3, e3, w3, U3⟩ := w2.remove (by omega) ht hv2
          have s3 := ((zSp.g G1).t (zSp.g G2)).t (zSp.c (u := t) (n1 := now) (v1 := ver) (T := zDrop (ver now t) v2) U3)
          rw [if_neg (by rw [hz]; decide), ze_b w1.is, ze_b3 (w1.size0 ht), ze_b2 e2, ze_b w2.is, ze_b3 e3]
          refine ⟨g3, now + 1, _, ite_self _, r2.U U3, w3, s3.w (by omega) (by omega), by rw [zvc_t]; exact en, by rw [zvc_t]; show (ver now t).nr - 1 ≤ _; omega, by rw [zvc_t]; rfl⟩
        · rw [if_pos (nI_ne0 (by omega) (by omega))]
          exact ⟨g1, now, ver, rfl, r1, w1, (zSp.g G1).w (by omega) (by omega), en, by omega, rfl⟩
/-- some rows of numbers first -/
theorem zdw89 {nc many : Nat} (ht : t < 3) (h1 : 1 ≤ nc) (hnc : nc ≤ 4) (hmany : many ≤ 19) (r : zR h) (w : zWd h now ver tx pr gr) (en : (ver now t).nc = nc) (er : (ver now t).nr = 0) (ek : (ver now t).kd 0 = 0) (hN : now + 200 < 100000) (hB : zM h + 13000 ≤ 6700000) : ∃ g now' ver', f_ColumnVaultLaw_draws_89 1 0 (nI t) (nI nc) (nI many) h = some (.inl (), g) ∧ zR g ∧ zWd g now' ver' tx pr gr ∧ zSp t 200 13000 h now ver g now' ver' ∧ (ver' now' t).nc = nc ∧ (ver' now' t).nr ≤ 25 ∧ (ver' now' t).kd 0 = 0 := by
  unfold f_ColumnVaultLaw_draws_89
  obtain ⟨v1, g1, hv1, e1, r1, w1, G1⟩ := zdrawW r w (n := 3) (by decide) (by decide)
  have m1 := G1.m
  rw [show (3 : Int32) = nI 3 from rfl, ze_b2 e1]
  by_cases hz : v1 = 0
  · obtain ⟨v2, g2, hv2, e2, r2, w2, G2⟩ := zdrawW r1 w1 (n := 41) (by decide) (by decide)
    obtain ⟨v3, g3, hv3, e3, r3, w3, G3⟩ := zdrawW r2 w2 (n := 7) (by decide) (by decide)
    obtain ⟨v4, g4, hv4, e4, r4, w4, G4⟩ := zdrawW r3 w3 (n := 6) (by decide) (by decide)
    have m2 := G2.m
    have m3 := G3.m
    have m4 := G4.m
    have f1 : (nI v2 - (20 : Int32)).toInt = (v2 : Int) - (20 : Nat) := pk_sub_toInt (b := 20) (by omega) (by decide)
    have f2 : (nI v3 - (3 : Int32)).toInt = (v3 : Int) - (3 : Nat) := pk_sub_toInt (b := 3) (by omega) (by decide)
    obtain ⟨g5, T', e5, w5, c5, k5, n5, U5⟩ := w4.fill (by omega) ht (c := 0) (by omega) ek (first := nI v2 - (20 : Int32)) (step := nI v3 - (3 : Int32)) (by rw [f1]; omega) (by rw [f2]; omega) (many := 1 + v4) (by omega) (by omega) (by omega)
    have r5 := r4.U U5
    have m5 := zU_m U5
    have s5 := ((((zSp.g G1).t (zSp.g G2)).t (zSp.g G3)).t (zSp.g G4)).t (zSp.c (u := t) (n1 := now) (v1 := ver) (T := T') U5)
    rw [nI_0, show (3 : Int32) = nI 3 from rfl] at e5
    rw [if_neg (by rw [hz]; decide), show (41 : Int32) = nI 41 from rfl, ze_b2 e2, show (7 : Int32) = nI 7 from rfl, ze_b2 e3, show (6 : Int32) = nI 6 from rfl, ze_b2 e4, ze_b w4.is, show (1 : Int32) + nI v4 = nI (1 + v4) from nI_add 1 v4, ze_b3 e5]
    rw [if_pos (show (1 : Int32) ≤ nI ((ver now t).nr + (1 + v4)) from nI_le (a := 1) (by omega) (by omega))]
    obtain ⟨g6, now6, ver6, e6, r6, w6, s6, c6, n6, k6⟩ := zdw138 (nc := nc) (many := many) ht hnc (by omega) zF 0 g5 (now + 1) (zvc ver now t T') (Nat.zero_le _) (by unfold zF; omega) r5 w5 (by rw [zvc_t, c5]; exact en) (by rw [zvc_t, n5]; omega) (by omega) (by omega)
    rw [zvc_t] at n6 k6
    rw [n5] at n6
    rw [k5] at k6
    exact ⟨g6, now6, ver6, e6, r6, w6, (s5.t s6).w (by omega) (by omega), c6, by omega, by rw [k6]; exact ek⟩
  · rw [if_pos (nI_ne0 (by omega) (by omega))]
    obtain ⟨g6, now6, ver6, e6, r6, w6, s6, c6, n6, k6⟩ := zdw138 (nc := nc) (many := many) ht hnc (by omega) zF 0 g1 now ver (Nat.zero_le _) (by unfold zF; omega) r1 w1 en (by omega) (by omega) (by omega)
    exact ⟨g6, now6, ver6, e6, r6, w6, ((zSp.g G1).t s6).w (by omega) (by omega), c6, by omega, by rw [k6]; exact ek⟩
/-- the columns, then the rows -/
theorem zdw8 {nc q : Nat} (ht : t < 3) (h1 : 1 ≤ nc) (hnc : nc ≤ 4) (hq : 177 ≤ q) (hq2 : q ≤ 600000) : ∀ n i h now ver, i ≤ nc → nc - i < n → zR h → zWd h now ver tx pr gr → (ver now t).nc = i → (ver now t).nr = 0 → (1 ≤ i → (ver now t).kd 0 = 0) → (∃ f, h[q]? = some (.inl (1, nc, .inl f))) → now + (nc - i) + 200 < 100000 → zM h + 13000 ≤ 6700000 → ∃ g now' ver', f_ColumnVaultLaw_draws_8 n 1 0 (nI t) (nI nc) q (nI i) h = some (.inl (), g) ∧ zR g ∧ zWd g now' ver' tx pr gr ∧ zSp t (nc - i + 200) 13000 h now ver g now' ver' ∧ (ver' now' t).nc = nc ∧ (ver' now' t).nr ≤ 25 ∧ (ver' now' t).kd 0 = 0 := by
  intro n
  induction n with
  | zero => intro c _ _ _ _ hn; exact absurd hn (Nat.not_lt_zero _)
  | succ n ih =>
    intro i h now ver hi hn r w en er ek hf hN hB
    unfold f_ColumnVaultLaw_draws_8
    rcases Nat.lt_or_ge i nc with hlt | hge
    · -- one column more, of kind kd
      have go : ∀ (g0 : zx_H) (kd : Nat), kd ≤ 1 → (i = 0 → kd = 0) → zR g0 → zWd g0 now ver tx pr gr → zG 0 0 1 h g0 → ∃ g now' ver', f_ColumnVaultLaw_draws_32 (f_ColumnVaultLaw_draws_8 n) 1 0 (nI t) (nI nc) q (nI i) q (nI i) (nI kd) g0 = some (.inl (), g) ∧ zR g ∧ zWd g now' ver' tx pr gr ∧ zSp t (nc - i + 200) 13000 h now ver g now' ver' ∧ (ver' now' t).nc = nc ∧ (ver' now' t).nr ≤ 25 ∧ (ver' now' t).kd 0 = 0 := by
        intro g0 kd hkd hk0 r0 w0 G0
        obtain ⟨f, ef⟩ := hf
        have ef0 := G0.gt ef (Or.inr (by omega))
        have st := zh_stI (x := nI kd) ef0 hlt (by omega)
        have U1 : zU q 1 g0 (g0.set q (.inl (1, nc, .inl (upd f i (nI kd))))) := zU_s ef0 rfl (by omega)
        have G1 := zG_U U1 (a := q) (b := q + 1) (Nat.le_refl _) (Nat.le_refl _)
        have ef1 := zh_set_s (c' := .inl (1, nc, .inl (upd f i (nI kd)))) ef0
        generalize g0.set q (.inl (1, nc, .inl (upd f i (nI kd)))) = g1 at st U1 G1 ef1
        have w1 := w0.G G1 (Or.inl hq)
        have r1 := r0.G G1 (Or.inl (by omega))
        have ld : zf_ldI q (nI i) g1 = some (nI kd) := by
          rw [zh_ldI (by show q ≠ 1000000; omega) ef1 hlt (by omega), pk_us]
        obtain ⟨g2, e2, w2, U2⟩ := w1.addColumn (by omega) ht (by omega) hkd
        have r2 := r1.U U2
        have m0 := G0.m
        have m1 := G1.m
        have m2 := zU_m U2
        have ef2 := (zU_G U2).gt ef1 (Or.inr (by omega))
        have s2 := ((zSp.g G0).t (zSp.g G1)).t (zSp.c (u := t) (n1 := now) (v1 := ver) (T := zCol (ver now t) kd) U2)
        have hsz : nI (ver now t).nc = nI i := by rw [en]
        unfold f_ColumnVaultLaw_draws_32
        have sz1 := w1.size1 ht
        rw [ze_b st, ze_b w1.is, ze_b3 sz1, if_neg (fun x => x hsz), ze_b ld, ze_b w1.is, ze_b3 e2, if_pos hsz, nI_1]
        obtain ⟨g, now', ver', e4, r4, w4, s4, c4, n4, k4⟩ := ih (i + 1) g2 (now + 1) (zvc ver now t (zCol (ver now t) kd)) hlt (by omega) r2 w2 (by rw [zvc_t]; show (ver now t).nc + 1 = _; omega) (by rw [zvc_t]; exact er) (fun _ => by
          rw [zvc_t]
          show (if 0 = (ver now t).nc then kd else (ver now t).kd 0) = 0
          by_cases x : i = 0
          · rw [if_pos (by omega)]; exact hk0 x
          · rw [if_neg (by omega)]; exact ek (by omega)) ⟨_, ef2⟩ (by omega) (by omega)
        exact ⟨g, now', ver', e4, r4, w4, (s2.t s4).w (by omega) (by omega), c4, n4, k4⟩
      rw [if_neg (nI_ge hlt (by omega))]
      by_cases hz : i = 0
      · rw [if_neg (by rw [hz]; decide)]
        exact go h 0 (by omega) (fun _ => rfl) r w zG.refl
      · obtain ⟨v, g1, hv, e1, r1, w1, G1⟩ := zdrawW r w (n := 2) (by decide) (by decide)
        rw [if_pos (nI_ne0 (by omega) (by omega)), show (2 : Int32) = nI 2 from rfl, ze_b2 e1]
        exact go g1 v (by omega) (fun x => absurd x hz) r1 w1 G1
    · have e : i = nc := Nat.le_antisymm hi hge
      obtain ⟨v1, g1, hv1, e1, r1, w1, G1⟩ := zdrawW r w (n := 3) (by decide) (by decide)
      have m1 := G1.m
      rw [if_pos (nI_le hge (by omega)), show (3 : Int32) = nI 3 from rfl, ze_b2 e1]
      by_cases hz : v1 = 0
      · obtain ⟨v2, g2, hv2, e2, r2, w2, G2⟩ := zdrawW r1 w1 (n := 20) (by decide) (by decide)
        have m2 := G2.m
        rw [if_neg (by rw [hz]; decide), show (20 : Int32) = nI 20 from rfl, ze_b2 e2]
        obtain ⟨g, now', ver', e4, r4, w4, s4, c4, n4, k4⟩ := zdw89 (nc := nc) (many := v2) ht h1 hnc (by omega) r2 w2 (by omega) er (ek (by omega)) (by omega) (by omega)
        exact ⟨g, now', ver', e4, r4, w4, (((zSp.g G1).t (zSp.g G2)).t s4).w (by omega) (by omega), c4, n4, k4⟩
      · obtain ⟨v2, g2, hv2, e2, r2, w2, G2⟩ := zdrawW r1 w1 (n := 9) (by decide) (by decide)
        have m2 := G2.m
        rw [if_pos (nI_ne0 (by omega) (by omega)), show (9 : Int32) = nI 9 from rfl, ze_b2 e2]
        obtain ⟨g, now', ver', e4, r4, w4, s4, c4, n4, k4⟩ := zdw89 (nc := nc) (many := v2) ht h1 hnc (by omega) r2 w2 (by omega) er (ek (by omega)) (by omega) (by omega)
        exact ⟨g, now', ver', e4, r4, w4, (((zSp.g G1).t (zSp.g G2)).t s4).w (by omega) (by omega), c4, n4, k4⟩
theorem zdraws {nc : Nat} (ht : t < 3) (h1 : 1 ≤ nc) (hnc : nc ≤ 4) (r : zR h) (w : zWd h now ver tx pr gr) (en : (ver now t).nc = 0) (er : (ver now t).nr = 0) (hN : now + 300 < 100000) (hB : zM h + 13100 ≤ 6700000) : ∃ g now' ver', f_ColumnVaultLaw_draws 1 0 (nI t) (nI nc) h = some (.inl (), g) ∧ zR g ∧ zWd g now' ver' tx pr gr ∧ zSp t 204 13100 h now ver g now' ver' ∧ (ver' now' t).nc = nc ∧ (ver' now' t).nr ≤ 25 ∧ (ver' now' t).kd 0 = 0 := by
  have hl := zlen (h := h) (by omega)
  have hwl := w.len
  have hn := zh_newI (g := h) (r := []) (n := nc) (by show h.length + 0 < 600000; have := zM_l (h := h); omega) (by omega)
  rw [List.append_nil] at hn
  have hn : zf_newa .int 1 (nI nc) h = some (h.length, h ++ [.inl (1, nc, .inl fun _ => 0)]) := hn
  have G0 : zG (12 + nc) 0 0 h (h ++ [.inl (1, nc, .inl fun _ => 0)]) := zG_app (c := .inl (1, nc, .inl fun _ => 0))
  have m0 := G0.m
  have e0 : (h ++ [(.inl (1, nc, .inl fun _ => 0) : zx_E)])[h.length]? = some (.inl (1, nc, .inl fun _ => 0)) := zG_end
  obtain ⟨g, now', ver', e4, r4, w4, s4, c4, n4, k4⟩ := zdw8 (nc := nc) (q := h.length) ht h1 hnc hwl hl zF 0 _ now ver (Nat.zero_le _) (by unfold zF; omega) (r.G G0 (Or.inr rfl)) (w.G G0 (Or.inr (by decide))) en er (fun x => absurd x (by decide)) ⟨_, e0⟩ (by omega) (by omega)
  refine ⟨g, now', ver', ?_, r4, w4, ((zSp.g G0).t s4).w (by omega) (by omega), c4, n4, k4⟩
  unfold f_ColumnVaultLaw_draws
  rw [ze_b2 hn]
  exact e4
end ZDW

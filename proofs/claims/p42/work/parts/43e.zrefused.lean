/-! ===== areRefused ===== -/
section ZRG2
variable {h g : zx_H} {now : Nat} {ver : Nat → Nat → zT} {tx : List Nat} {pr : Nat × (Nat → Nat) × (Nat → Int32)} {gr : zT × Nat × Nat × (Nat → Int64) × (Nat → Nat → Bool)}
/-- rows till there is no room -/
theorem zrf488 (hN : 1 ≤ now) : ∀ n h now ver, 40 - (ver now 0).nr + 1 < n → (ver now 0).nr ≤ 40 → zR h → zWd h now ver tx pr gr → 1 ≤ (ver now 0).nc → (ver now 0).kd 0 = 0 → now + (40 - (ver now 0).nr) < 100000 → zM h ≤ 7000000 → ∃ g now' ver', f_ColumnVaultLaw_areRefused_488 n 1 h = some (.inl 1, g) ∧ zR g ∧ zWd g now' ver' tx pr gr ∧ zM g ≤ zM h + 40 := by
  intro n
  induction n with
  | zero => intro h now ver hn; exact absurd hn (Nat.not_lt_zero _)
  | succ n ih =>
    intro h now ver hn h40 r w hc hk hN2 hB
    have sz : f_ColumnVault_size 1 (0 : Int32) (0 : Int32) h = some (.inl (nI (ver now 0).nr), h) := by
      have e := w.size0 (t := 0) (by decide)
      rw [nI_0] at e
      exact e
    unfold f_ColumnVaultLaw_areRefused_488
    rw [ze_b w.is, ze_b3 sz]
    rcases Nat.lt_or_ge (ver now 0).nr 40 with hlt | hge
    · obtain ⟨g1, e1, w1, U1⟩ := w.addRow (t := 0) (by omega) (by decide) hlt
      rw [nI_0] at e1
      have m1 := zU_m U1
      have n1 : (zvc ver now 0 (zRow (ver now 0)) (now + 1) 0).nr = (ver now 0).nr + 1 := by rw [zvc_t]; rfl
      obtain ⟨g, now', ver', e2, r2, w2, m2⟩ := ih g1 (now + 1) (zvc ver now 0 (zRow (ver now 0))) (by omega) (by omega) (r.U U1) w1 (by rw [zvc_t]; exact hc) (by rw [zvc_t]; exact hk) (by omega) (by omega)
      refine ⟨g, now', ver', ?_, r2, w2, by omega⟩
      rw [if_neg (show ¬ (40 : Int32) ≤ nI (ver now 0).nr from nI_ge (b := 40) hlt (by decide)), ze_b w.is, ze_b3 e1, if_pos (nI_pos' (by omega))]
      exact e2
    · have h40e : (ver now 0).nr = 40 := by omega
      have a1 := w.addRowNo (t := 0) (by decide) h40e (by omega)
      rw [nI_0] at a1
      have e1 := zask1E (b := 0) (c := 0) w.is z15 a1
      have G1 : zG 20 0 0 h (h ++ [.inr (15, [])]) := zG_exc
      generalize h ++ [(.inr (15, []) : zx_E)] = g1 at e1 G1
      have w1 := w.G G1 (Or.inr (by decide))
      have m1 := G1.m
      obtain ⟨g2, e2, G2⟩ := zrf2c w1 hc hk h40e (by omega)
      have w2 := w1.G G2 (Or.inr (by decide))
      have m2 := G2.m
      have sz2 : f_ColumnVault_size 1 (0 : Int32) (0 : Int32) g2 = some (.inl (nI (ver now 0).nr), g2) := by
        have e := w2.size0 (t := 0) (by decide)
        rw [nI_0] at e
        exact e
      rw [if_pos (show (40 : Int32) ≤ nI (ver now 0).nr from nI_le (a := 40) hge (by omega)), ze_b w.is, ze_b2 w.version, ze_b2 e1, if_neg (fun y => y (show zxc 15 = -3000000004 from rfl)), ze_b2 e2, if_neg (fun y => y rfl), ze_b w2.is, ze_b2 w2.version, if_neg (fun y => y rfl), ze_b w2.is, ze_b3 sz2, h40e, if_neg (fun y => y rfl)]
      exact ⟨g2, now, ver, rfl, (r.G G1 (Or.inr rfl)).G G2 (Or.inr rfl), w2, by omega⟩
/-- texts that are none -/
theorem zrf369 (hN : 1 ≤ now) (hN2 : now < 90000) (hc1 : 1 ≤ (ver now 0).nc) (hk : (ver now 0).kd 0 = 0) : ∀ n c h, c ≤ (ver now 0).nc → (ver now 0).nc - c < n → zR h → zWd h now ver tx pr gr → zM h + 80 * ((ver now 0).nc - c) ≤ 6900000 → ∃ g now' ver', f_ColumnVaultLaw_areRefused_369 n 1 (nI now) (nI (ver now 0).nc) (nI c) h = some (.inl 1, g) ∧ zR g ∧ zWd g now' ver' tx pr gr ∧ zM g ≤ zM h + 80 * ((ver now 0).nc - c) + 40 := by
  intro n
  induction n with
  | zero => intro c h _ hn; exact absurd hn (Nat.not_lt_zero _)
  | succ n ih =>
    intro c h hc hn r w hB
    have h4 := (w.T (t := 0) (by decide)).c4
    have h40 := (w.T (t := 0) (by decide)).r40
    have last : ∃ g now' ver', f_ColumnVaultLaw_areRefused_488 zF 1 h = some (.inl 1, g) ∧ zR g ∧ zWd g now' ver' tx pr gr ∧ zM g ≤ zM h + 80 * ((ver now 0).nc - c) + 40 := by
      obtain ⟨g, now', ver', e, r2, w2, m2⟩ := zrf488 (tx := tx) (pr := pr) (gr := gr) hN zF h now ver (by unfold zF; omega) h40 r w hc1 hk (by omega) (by omega)
      exact ⟨g, now', ver', e, r2, w2, by omega⟩
    have sz : f_ColumnVault_size 1 (0 : Int32) (0 : Int32) h = some (.inl (nI (ver now 0).nr), h) := by
      have e := w.size0 (t := 0) (by decide)
      rw [nI_0] at e
      exact e
    unfold f_ColumnVaultLaw_areRefused_369
    rcases Nat.lt_or_ge c (ver now 0).nc with hlt | hge
    · rw [if_neg (nI_ge hlt (by omega)), ze_b w.is, ze_b3 sz]
      by_cases hr : (ver now 0).nr = 0
      · rw [if_pos (by rw [hr]; decide), ze_b w.is, ze_b2 w.version, if_pos rfl]
        exact last
      · have kd := w.kind (t := 0) (by decide) hlt
        rw [nI_0] at kd
        rw [if_neg (nI_nle (by omega) (by omega)), ze_b w.is, ze_b3 kd]
        have k1 := (w.F (t := 0) (by decide)).k1 hlt
        by_cases hkc : (ver now 0).kd c = 1
        · obtain ⟨g1, e1, G1⟩ := zrf3t w hlt hkc (by omega) (v := 5) (by decide) (ziw5 h) (by omega)
          have w1 := w.G G1 (Or.inr (by decide))
          have m1 := G1.m
          obtain ⟨g2, e2, G2⟩ := zrf3t w1 hlt hkc (by omega) (v := 24832) (by decide) (ziwA g1) (by omega)
          have w2 := w1.G G2 (Or.inr (by decide))
          have m2 := G2.m
          obtain ⟨g3, e3, G3⟩ := zrf3t w2 hlt hkc (by omega) (v := lN 7017280452245743464) (by decide +kernel) (ziw8 g2) (by omega)
          have w3 := w2.G G3 (Or.inr (by decide))
          have m3 := G3.m
          obtain ⟨g4, e4, G4⟩ := zrf20t w3 hlt hkc (by omega) (by omega)
          have w4 := w3.G G4 (Or.inr (by decide))
          have m4 := G4.m
          have r4 := (((r.G G1 (Or.inr rfl)).G G2 (Or.inr rfl)).G G3 (Or.inr rfl)).G G4 (Or.inr rfl)
          obtain ⟨g, now', ver', e5, r5, w5, m5⟩ := ih (c + 1) g4 hlt (by omega) r4 w4 (by omega)
          refine ⟨g, now', ver', ?_, r5, w5, by omega⟩
          rw [if_neg (fun y => y (by rw [hkc]; rfl)), ze_b2 e1, if_neg (fun y => y rfl), ze_b2 e2, if_neg (fun y => y rfl), ze_b2 (zrf8 (zlen (h := g2) (by omega))), ze_b2 e3, if_neg (fun y => y rfl), ze_b2 e4, if_pos rfl, nI_1]
          exact e5
        · obtain ⟨g, now', ver', e5, r5, w5, m5⟩ := ih (c + 1) h hlt (by omega) r w (by omega)
          refine ⟨g, now', ver', ?_, r5, w5, by omega⟩
          rw [if_pos (show ¬ nI ((ver now 0).kd c) = (1 : Int32) from fun y => hkc ((nI_eq (b := 1) (by omega) (by decide)).mp y)), nI_1]
          exact e5
    · rw [if_pos (nI_le hge (by omega)), ze_b w.is, ze_b2 w.version, if_pos rfl]
      exact last
theorem zrf30 (hN : 1 ≤ now) (hN2 : now < 90000) (hc1 : 1 ≤ (ver now 0).nc) (hk : (ver now 0).kd 0 = 0) {x : Int32} (hx : x < 0 ∨ 3 ≤ x) (r : zR h) (w : zWd h now ver tx pr gr) (hB : zM h ≤ 6800000) : ∃ g now' ver', f_ColumnVaultLaw_areRefused_30 1 (nI now) x h = some (.inl 1, g) ∧ zR g ∧ zWd g now' ver' tx pr gr ∧ zM g ≤ zM h + 800 := by
  have h4 := (w.T (t := 0) (by decide)).c4
  have h40 := (w.T (t := 0) (by decide)).r40
  have sz0 : ∀ {h : zx_H}, zWd h now ver tx pr gr → f_ColumnVault_size 1 (0 : Int32) (0 : Int32) h = some (.inl (nI (ver now 0).nr), h) := fun {h} w => by
    have e := w.size0 (t := 0) (by decide)
    rw [nI_0] at e
    exact e
  have sz1 : f_ColumnVault_size 1 (0 : Int32) (1 : Int32) h = some (.inl (nI (ver now 0).nc), h) := by
    have e := w.size1 (t := 0) (by decide)
    rw [nI_0] at e
    exact e
  obtain ⟨g1, e1, G1⟩ := zrf0 w hx (by omega)
  have w1 := w.G G1 (Or.inr (by decide))
  have m1 := G1.m
  obtain ⟨g2, e2, G2⟩ := zrf0k w1 (by omega)
  have w2 := w1.G G2 (Or.inr (by decide))
  have m2 := G2.m
  obtain ⟨g3, e3, G3⟩ := zrf1 w2 hx (by omega)
  have w3 := w2.G G3 (Or.inr (by decide))
  have m3 := G3.m
  obtain ⟨g4, e4, G4⟩ := zrf2 w3 (by omega)
  have w4 := w3.G G4 (Or.inr (by decide))
  have m4 := G4.m
  obtain ⟨g5, e5, G5⟩ := zrf2a w4 hc1 hk (by omega)
  have w5 := w4.G G5 (Or.inr (by decide))
  have m5 := G5.m
  obtain ⟨g6, e6, G6⟩ := zrf2b w5 hc1 hk (by omega)
  have w6 := w5.G G6 (Or.inr (by decide))
  have m6 := G6.m
  obtain ⟨g7, e7, G7⟩ := zrf6 w6 (by omega)
  have w7 := w6.G G7 (Or.inr (by decide))
  have m7 := G7.m
  obtain ⟨g8, e8, G8⟩ := zrf12 w7 hc1 (by omega)
  have w8 := w7.G G8 (Or.inr (by decide))
  have m8 := G8.m
  obtain ⟨g9, e9, G9⟩ := zrf12c w8 (by omega)
  have w9 := w8.G G9 (Or.inr (by decide))
  have m9 := G9.m
  obtain ⟨g10, e10, G10⟩ := zrf14 w9 hc1 hk (by omega)
  have w10 := w9.G G10 (Or.inr (by decide))
  have m10 := G10.m
  obtain ⟨g11, e11, G11⟩ := zrf15 w10 hc1 hk (by omega)
  have w11 := w10.G G11 (Or.inr (by decide))
  have m11 := G11.m
  obtain ⟨g12, e12, G12⟩ := zrf18 w11 hx (by omega)
  have w12 := w11.G G12 (Or.inr (by decide))
  have m12 := G12.m
  obtain ⟨g13, e13, G13⟩ := zrf18k w12 (by omega)
  have w13 := w12.G G13 (Or.inr (by decide))
  have m13 := G13.m
  obtain ⟨g14, e14, G14⟩ := zrf21 w13 (by omega)
  have w14 := w13.G G14 (Or.inr (by decide))
  have m14 := G14.m
  obtain ⟨g15, e15, G15⟩ := zrf20 w14 hc1 (by omega)
  have w15 := w14.G G15 (Or.inr (by decide))
  have m15 := G15.m
  have r15 := ((((((((((((((r.G G1 (Or.inr rfl)).G G2 (Or.inr rfl)).G G3 (Or.inr rfl)).G G4 (Or.inr rfl)).G G5 (Or.inr rfl)).G G6 (Or.inr rfl)).G G7 (Or.inr rfl)).G G8 (Or.inr rfl)).G G9 (Or.inr rfl)).G G10 (Or.inr rfl)).G G11 (Or.inr rfl)).G G12 (Or.inr rfl)).G G13 (Or.inr rfl)).G G14 (Or.inr rfl)).G G15 (Or.inr rfl)
  unfold f_ColumnVaultLaw_areRefused_30
  rw [ze_b w.is, ze_b3 sz1, ze_b2 e1, if_neg (fun y => y rfl), ze_b2 e2, if_neg (fun y => y rfl), ze_b2 e3, if_neg (fun y => y rfl), ze_b2 e4, if_neg (fun y => y rfl), ze_b2 e5, if_neg (fun y => y rfl), ze_b2 e6, if_neg (fun y => y rfl), ze_b w6.is, ze_b3 (sz0 w6), ze_b2 e7, if_neg (fun y => y rfl), ze_b2 e8, if_neg (fun y => y rfl), ze_b2 e9, if_neg (fun y => y rfl), ze_b2 e10, if_neg (fun y => y rfl), ze_b2 e11, if_neg (fun y => y rfl), ze_b2 e12, if_neg (fun y => y rfl), ze_b2 e13, if_neg (fun y => y rfl), ze_b2 e14, if_neg (fun y => y rfl), ze_b w14.is, ze_b3 (sz0 w14), ze_b2 e15, if_pos rfl, ze_b w15.is, ze_b3 (sz0 w15)]
  by_cases hr : (ver now 0).nr = 0
  · obtain ⟨g, now', ver', a1, a2, a3, a4⟩ := zrf369 (tx := tx) (pr := pr) (gr := gr) hN hN2 hc1 hk zF 0 g15 (Nat.zero_le _) (by unfold zF; omega) r15 w15 (by omega)
    rw [nI_0] at a1
    rw [if_pos (by rw [hr]; decide)]
    exact ⟨g, now', ver', a1, a2, a3, by omega⟩
  · obtain ⟨g16, e16, G16⟩ := zrf3 w15 hc1 (by omega) hk (by omega)
    have w16 := w15.G G16 (Or.inr (by decide))
    have m16 := G16.m
    obtain ⟨g17, e17, G17⟩ := zrf3c w16 (by omega)
    have w17 := w16.G G17 (Or.inr (by decide))
    have m17 := G17.m
    obtain ⟨g18, e18, G18⟩ := zrf4 w17 (by omega)
    have w18 := w17.G G18 (Or.inr (by decide))
    have m18 := G18.m
    obtain ⟨g, now', ver', a1, a2, a3, a4⟩ := zrf369 (tx := tx) (pr := pr) (gr := gr) hN hN2 hc1 hk zF 0 g18 (Nat.zero_le _) (by unfold zF; omega) (((r15.G G16 (Or.inr rfl)).G G17 (Or.inr rfl)).G G18 (Or.inr rfl)) w18 (by omega)
    rw [nI_0] at a1
    rw [if_neg (nI_nle (by omega) (by omega)), ze_b2 e16, if_neg (fun y => y rfl), ze_b2 e17, if_neg (fun y => y rfl), ze_b2 e18, if_pos rfl]
    exact ⟨g, now', ver', a1, a2, a3, by omega⟩
theorem zareRefused (hN : 1 ≤ now) (hN2 : now < 90000) (hc1 : 1 ≤ (ver now 0).nc) (hk : (ver now 0).kd 0 = 0) (r : zR h) (w : zWd h now ver tx pr gr) (hB : zM h ≤ 6800000) : ∃ g now' ver', f_ColumnVaultLaw_areRefused 1 0 h = some (.inl 1, g) ∧ zR g ∧ zWd g now' ver' tx pr gr ∧ zM g ≤ zM h + 800 := by
  obtain ⟨v1, g1, hv1, e1, r1, w1, G1⟩ := zdrawW r w (n := 2) (by decide) (by decide)
  have m1 := G1.m
  obtain ⟨v2, g2, hv2, e2, r2, w2, G2⟩ := zdrawW r1 w1 (n := 3) (by decide) (by decide)
  have m2 := G2.m
  unfold f_ColumnVaultLaw_areRefused
  rw [ze_b w.is, ze_b2 w.version, show (2 : Int32) = nI 2 from rfl, ze_b2 e1, show (3 : Int32) = nI 3 from rfl]
  by_cases hz : v1 = 0
  · obtain ⟨g, now', ver', a1, a2, a3, a4⟩ := zrf30 hN hN2 hc1 hk (x := (3 : Int32) + nI v2) (Or.inr (by
      rw [show (3 : Int32) = nI 3 from rfl, nI_add]; exact nI_le (by omega) (by omega))) r2 w2 (by omega)
    rw [if_neg (fun y => y (by rw [hz]; rfl)), ze_b2 e2]
    exact ⟨g, now', ver', a1, a2, a3, by omega⟩
  · obtain ⟨g, now', ver', a1, a2, a3, a4⟩ := zrf30 hN hN2 hc1 hk (x := (-1 : Int32) - nI v2) (Or.inl (by
      have : ∀ v, v < 3 → (-1 : Int32) - nI v < 0 := by decide
      exact this v2 hv2)) r2 w2 (by omega)
    rw [if_pos (nI_ne0 (by omega) (by omega)), ze_b2 e2]
    exact ⟨g, now', ver', a1, a2, a3, by omega⟩
end ZRG2

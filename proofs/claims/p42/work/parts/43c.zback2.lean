/-! ===== isBack: the run of changes ===== -/
section ZBL
variable {h g j : zx_H} {v0 q ch : Nat} {ver ver0 : Nat → Nat → zT} {tx : List Nat} {pr : Nat × (Nat → Nat) × (Nat → Int32)} {gr : zT × Nat × Nat × (Nat → Int64) × (Nat → Nat → Bool)}
/-- what isBack leaves -/
def zBq (ver0 : Nat → Nat → zT) (v0 : Nat) (tx : List Nat) (pr : Nat × (Nat → Nat) × (Nat → Int32)) (gr : zT × Nat × Nat × (Nat → Int64) × (Nat → Nat → Bool)) (h : zx_H) (x : Option ((Int32 ⊕ Nat) × zx_H)) : Prop := ∃ g now' ver', x = some (.inl 1, g) ∧ zR g ∧ zWd g now' ver' tx pr gr ∧ now' ≤ v0 + 14 ∧ (∀ t, t < 3 → (ver' now' t).nc = (ver0 v0 t).nc ∧ (ver' now' t).kd = (ver0 v0 t).kd ∧ (ver' now' t).nr = (ver0 v0 t).nr) ∧ zM g ≤ zM h + 10000 ∧ v0 ≤ now'
/-- behind the changes -/
theorem zbkE (hN : v0 < 80000) (hch : ch ≤ 12) (hq : 177 ≤ q) (r : zR h) (w : zWd h (v0 + ch) ver tx pr gr) (x : zKe ver0 v0 (v0 + ch) ver) (z : zJ3 h q 3 (fun t => zDg (ver0 v0 t))) (hql : q < h.length) (hB : zM h ≤ 6300000) (n : Nat) : zBq ver0 v0 tx pr gr h (f_ColumnVaultLaw_isBack_44 (n + 1) 1 0 (nI v0) q (nI ch) (nI ch) h) := by
  obtain ⟨g1, g2, g3, g4, g5, g6, g7, a1, a2, a3, a4, a5, a6, a7, r7, w7, z7, m7, l7, F7⟩ := zdg3 r w (by omega)
  have hwl := w.len
  have zq7 : zJ3 g7 q 3 (fun t => zDg (ver0 v0 t)) := by
    obtain ⟨f, e, hf⟩ := z
    exact ⟨f, (F7 q hql).trans e, hf⟩
  unfold f_ColumnVaultLaw_isBack_44
  rw [if_pos (nI_le (Nat.le_refl _) (by omega)), ze_b2 a1, ze_b3 a2, ze_b a3, ze_b3 a4, ze_b a5, ze_b3 a6, ze_b a7]
  by_cases h11 : ch ≤ 11
  · obtain ⟨g8, e8, w8, U8⟩ := w7.back (by omega) (v := v0) (by omega) (by omega)
    have r8 := r7.U U8
    have m8 := zU_m U8
    have e3 : nI v0 + nI ch + (1 : Int32) = nI (v0 + ch + 1) := by
      rw [nI_add, show (1 : Int32) = nI 1 from rfl, nI_add]
    obtain ⟨g9, e9, w9, r9, m9⟩ := zbk284 (ver := zvx ver (v0 + ch) v0) (now := v0 + ch + 1) (v0 := v0) (ch := ch) (F := fun t => zDg (ver0 v0 t)) (F' := fun t => zDg (ver (v0 + ch) t)) (q := q) (q' := h.length) rfl h11 (by omega) (fun t ht => by
      unfold zvx
      rw [if_pos rfl, x.1 t]) (fun t ht => by
      unfold zvx
      rw [if_neg (by omega)]) hq hwl zF 0 g8 w8 r8 (zq7.G (zU_G U8) (Or.inr (by omega))) (z7.G (zU_G U8) (Or.inr (by omega))) (Nat.zero_le _) (by unfold zF; omega) (by omega)
    rw [nI_0] at e9
    rw [if_pos (show nI ch ≤ (11 : Int32) from nI_le (b := 11) h11 (by decide)), ze_b w7.is, e3, ze_b3 e8, if_neg (fun x => x rfl), ze_b w8.is, ze_b2 w8.version, if_pos rfl]
    refine ⟨g9, _, _, e9, r9, w9, by omega, fun t ht => ?_, by omega, by omega⟩
    have e10 : zvx (zvx ver (v0 + ch) v0) (v0 + ch + 1) (v0 + ch) (v0 + ch + 1 + 1) t = ver (v0 + ch) t := by
      unfold zvx
      rw [if_pos rfl, if_neg (by omega)]
    rw [e10]
    exact x.2 t ht
  · have b1 := zask5E (b := 0) (c := 0) w7.is (Or.inl rfl) (w7.backNo (v := v0) (by omega) (Or.inr (by omega)) (by omega))
    have G8 : zG 20 0 0 g7 (g7 ++ [.inr (13, [])]) := zG_exc
    generalize g7 ++ [(.inr (13, []) : zx_E)] = g8 at b1 G8
    have w8 := w7.G G8 (Or.inr (by decide))
    have m8 := G8.m
    have b2 := zask5E (b := 0) (c := 0) w8.is (Or.inl rfl) (w8.backNo (v := v0 + ch + 1) (by omega) (Or.inl (by omega)) (by omega))
    have G9 : zG 20 0 0 g8 (g8 ++ [.inr (13, [])]) := zG_exc
    generalize g8 ++ [(.inr (13, []) : zx_E)] = g9 at b2 G9
    have m9 := G9.m
    rw [if_neg (show ¬ nI ch ≤ (11 : Int32) from nI_ge (a := 11) (by omega) (by omega)), ze_b2 b1, if_neg (fun x => x (show zxc 13 = -3000000001 from rfl)), ze_b w8.is, ze_b2 w8.version, nI_1, ze_b2 b2, if_neg (fun x => x (show zxc 13 = -3000000001 from rfl))]
    exact ⟨g9, _, _, rfl, (r7.G G8 (Or.inr rfl)).G G9 (Or.inr rfl), w8.G G9 (Or.inr (by decide)), by omega, x.2, by omega, by omega⟩
theorem zbk44 (hsh : ∀ t, t < 3 → 1 ≤ (ver0 v0 t).nc ∧ (ver0 v0 t).kd 0 = 0) (hN : v0 < 80000) (hch : ch ≤ 12) (hq : 177 ≤ q) : ∀ n k h ver, k ≤ ch → ch - k < n → zR h → zWd h (v0 + k) ver tx pr gr → zKe ver0 v0 (v0 + k) ver → zJ3 h q 3 (fun t => zDg (ver0 v0 t)) → q < h.length → zM h ≤ 6300000 → zBq ver0 v0 tx pr gr h (f_ColumnVaultLaw_isBack_44 n 1 0 (nI v0) q (nI ch) (nI k) h) := by
  intro n
  induction n with
  | zero => intro c _ _ _ hn; exact absurd hn (Nat.not_lt_zero _)
  | succ n ih =>
    intro k h ver hk hn r w x z hql hB
    rcases Nat.lt_or_ge k ch with hlt | hge
    · obtain ⟨t, g1, ht, e1, r1, w1, G1⟩ := zdrawW r w (n := 3) (by decide) (by decide)
      obtain ⟨u, g2, hu, e2, r2, w2, G2⟩ := zdrawW r1 w1 (n := 3) (by decide) (by decide)
      have h40 := (w.T ht).r40
      have h4 := (w.T ht).c4
      have m1 := G1.m
      have m2 := G2.m
      have G12 := G1.t G2
      obtain ⟨s1, s2⟩ := hsh t ht
      obtain ⟨x1, x2, x3⟩ := x.2 t ht
      have go : ∀ (g0 g3 : zx_H) (T : zT) (p6 : Int32), ¬ p6 < 0 → zG 0 0 1 h g0 → zR g0 → zU 2 146 g0 g3 → zWd g3 (v0 + k + 1) (zvc ver (v0 + k) t T) tx pr gr → (T.nc = (ver (v0 + k) t).nc ∧ T.kd = (ver (v0 + k) t).kd ∧ T.nr = (ver (v0 + k) t).nr) → zBq ver0 v0 tx pr gr h (f_ColumnVaultLaw_isBack_147 (f_ColumnVaultLaw_isBack_44 n) 1 0 (nI v0) q (nI ch) (nI k) p6 g3) := by
        intro g0 g3 T p6 hp G0 r0 U3 w3 hT
        have G3 := zU_G U3
        have m0 := G0.m
        have m3 := zU_m U3
        have l0 := G0.l
        obtain ⟨g, now', ver', b1, b2, b3, b4, b5, b6, b7⟩ := ih (k + 1) g3 (zvc ver (v0 + k) t T) hlt (by omega) (r0.U U3) w3 (x.c (by omega) hT) ((z.G G0 (Or.inr (by omega))).G G3 (Or.inr (by omega))) (by rw [U3.1]; omega) (by omega)
        rw [zbk147 w3 rfl hp]
        exact ⟨g, now', ver', b1, b2, b3, b4, b5, by omega, b7⟩
      have turn : ∀ g0, zG 0 0 1 h g0 → zR g0 → zWd g0 (v0 + k) ver tx pr gr → zBq ver0 v0 tx pr gr h (zf_b (zf_is 12 1 g0) fun _ => zf_b3 (f_ColumnVault_turnChoice 1 (nI t) g0) fun v33 h34 => f_ColumnVaultLaw_isBack_147 (f_ColumnVaultLaw_isBack_44 n) 1 0 (nI v0) q (nI ch) (nI k) v33 h34) := by
        intro g0 G0 r0 w0
        obtain ⟨g3, e3, w3, U3⟩ := w0.turnChoice (by omega) ht
        rw [ze_b w0.is, ze_b3 e3]
        exact go g0 g3 _ _ (nI_pos (by have := fb_ct_le (fun r => !(ver (v0 + k) t).ch r) (ver (v0 + k) t).nr; omega)) G0 r0 U3 w3 ⟨rfl, rfl, rfl⟩
      unfold f_ColumnVaultLaw_isBack_44
      rw [if_neg (nI_ge hlt (by omega)), show (3 : Int32) = nI 3 from rfl, ze_b2 e1, ze_b w1.is, ze_b3 (w1.size0 ht), ze_b2 e2]
      by_cases hz : u = 0
      · rw [if_pos (by rw [hz]; rfl)]
        exact turn g2 (G12.w (by omega) (Nat.le_refl _) (Nat.le_refl _)) r2 w2
      · rw [if_neg (nI_ne0 (by omega) (by omega))]
        by_cases hr : (ver (v0 + k) t).nr = 0
        · rw [if_neg (fun y => y (by rw [hr]; rfl))]
          exact turn g2 (G12.w (by omega) (Nat.le_refl _) (Nat.le_refl _)) r2 w2
        · obtain ⟨v, g3, hv, e3, r3, w3, G3⟩ := zdrawW r2 w2 (n := 2) (by decide) (by decide)
          have m3 := G3.m
          rw [if_pos (nI_ne0 (by omega) (by omega)), show (2 : Int32) = nI 2 from rfl, ze_b2 e3]
          by_cases hv0 : v = 0
          · obtain ⟨c, g4, hc, e4, r4, w4, G4⟩ := zdrawW r3 w3 (n := (ver (v0 + k) t).nc) (by omega) (by omega)
            obtain ⟨g5, o', e5, w5, -, -, U5⟩ := w4.sort (by omega) ht hc true false
            have e5 : f_ColumnVault_sort 1 (nI t) (nI c) (1 : Int32) (0 : Int32) g4 = _ := e5
            rw [if_neg (fun y => y (by rw [hv0]; rfl)), ze_b w3.is, ze_b3 (w3.size1 ht), ze_b2 e4, ze_b w4.is, ze_b3 e5]
            exact go g4 g5 _ _ (nI_pos (by have := fb_ct_le (fun p => decide (o' p ≠ (ver (v0 + k) t).od p)) (ver (v0 + k) t).nr; omega)) (((G12.t G3).t G4).w (by omega) (Nat.le_refl _) (Nat.le_refl _)) r4 U5 w5 ⟨rfl, rfl, rfl⟩
          · obtain ⟨row, g4, hrow, e4, r4, w4, G4⟩ := zdrawW r3 w3 (n := (ver (v0 + k) t).nr) (by omega) (by omega)
            obtain ⟨val, g5, hval, e5, r5, w5, G5⟩ := zdrawW r4 w4 (n := 9) (by decide) (by decide)
            have hk0 : (ver (v0 + k) t).kd 0 = 0 := by rw [x2]; exact s2
            have hV : ((nI val).toInt64).toInt = (val : Int) := by rw [Int32.toInt_toInt64, nI_toInt (by omega)]
            have hok : zokK ((ver (v0 + k) t).kd 0) ((nI val).toInt64) := by
              rw [hk0]
              exact Or.inr (Or.inl ⟨rfl, by rw [hV]; omega, by rw [hV]; omega⟩)
            have hne : (nI val).toInt64 ≠ (-9000000000 : Int64) := fun y => by
              have := congrArg Int64.toInt y
              rw [hV, zl_m] at this
              omega
            obtain ⟨g6, e6, w6, U6⟩ := w5.set (by omega) ht (c := 0) (by omega) hrow hok hne
            rw [hk0, ztd_0, nI_0] at e6
            have G5' := (((G12.t G3).t G4).t G5).w (k' := 0) (by omega) (Nat.le_refl _) (Nat.le_refl _)
            rw [if_pos (nI_ne0 (by omega) (by omega)), ze_b2 e4, show (9 : Int32) = nI 9 from rfl, ze_b2 e5, ze_b w5.is, ze_b3 e6]
            by_cases hd : decide ((nI val).toInt64 ≠ (ver (v0 + k) t).ky 0 row) = true
            · rw [if_neg (zb1 hd)]
              exact go g5 g6 _ _ (by decide) G5' r5 U6 w6 ⟨rfl, rfl, rfl⟩
            · rw [if_pos (zbt0 hd)]
              exact go g5 g6 _ _ (by decide) G5' r5 U6 w6 ⟨rfl, rfl, rfl⟩
    · have e : k = ch := Nat.le_antisymm hk hge
      subst e
      exact zbkE hN hch hq r w x z hql hB n
theorem zisBack (r : zR h) (w : zWd h v0 ver tx pr gr) (hsh : ∀ t, t < 3 → 1 ≤ (ver v0 t).nc ∧ (ver v0 t).kd 0 = 0) (hN : v0 < 80000) (hB : zM h ≤ 6200000) : ∃ g now' ver', f_ColumnVaultLaw_isBack 1 0 h = some (.inl 1, g) ∧ zR g ∧ zWd g now' ver' tx pr gr ∧ now' ≤ v0 + 14 ∧ (∀ t, t < 3 → (ver' now' t).nc = (ver v0 t).nc ∧ (ver' now' t).kd = (ver v0 t).kd ∧ (ver' now' t).nr = (ver v0 t).nr) ∧ zM g ≤ zM h + 13000 ∧ v0 ≤ now' := by
  obtain ⟨g1, g2, g3, g4, g5, g6, g7, a1, a2, a3, a4, a5, a6, a7, r7, w7, z7, m7, l7, F7⟩ := zdg3 r w (by omega)
  have hwl := w.len
  obtain ⟨ch, g8, hc, e8, r8, w8, G8⟩ := zdrawW r7 w7 (n := 13) (by decide) (by decide)
  have m8 := G8.m
  have l8 := G8.l
  obtain ⟨g9, now', ver', b1, b2, b3, b4, b5, b6, b7⟩ := zbk44 (ver0 := ver) (ch := ch) (q := h.length) hsh hN (by omega) hwl zF 0 g8 ver (Nat.zero_le _) (by unfold zF; omega) r8 w8 ⟨fun _ => rfl, fun _ _ => ⟨rfl, rfl, rfl⟩⟩ (z7.G G8 (Or.inr (by omega))) (by omega) (by omega)
  rw [nI_0] at b1
  refine ⟨g9, now', ver', ?_, b2, b3, b4, b5, by omega, b7⟩
  unfold f_ColumnVaultLaw_isBack
  rw [ze_b w.is, ze_b2 w.version, ze_b2 a1, ze_b3 a2, ze_b a3, ze_b3 a4, ze_b a5, ze_b3 a6, ze_b a7, show (13 : Int32) = nI 13 from rfl, ze_b2 e8]
  exact b1
end ZBL

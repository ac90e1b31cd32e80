/-! ===== errors(): ranges ===== -/
section ZRG
variable {T : zT} {h : zx_H} {qs : Nat}
theorem zrk_ff {k : Int64} (hk : k ≠ -9000000000) : zrk false false k = k.toInt := by
  rw [zrk_n hk]; rfl
theorem zChk.I (C : zChk h) {f : Nat → Int64} (i : Nat) (x : Int64) (e : h[176]? = some (.inl (2, 40, .inr (.inl f)))) : zChk (h.set 176 (.inl (2, 40, .inr (.inl (vp_updL f i x))))) := by
  have U : zU 176 1 h (h.set 176 (.inl (2, 40, .inr (.inl (vp_updL f i x))))) := zU_s e rfl (by omega)
  obtain ⟨c1, c2, ⟨⟨x1, y1, d1⟩, d2, ⟨f4, d3⟩, f6, d4⟩, f5, c4⟩ := C
  exact ⟨by rw [U.2.2 _ (by omega)]; exact c1, c2.U U (by omega), ⟨⟨x1, y1, by rw [U.2.2 _ (by omega)]; exact d1⟩, d2.U U (by omega), ⟨f4, by rw [U.2.2 _ (by omega)]; exact d3⟩, f6, by rw [U.2.2 _ (by omega)]; exact d4⟩, _, zh_set_s e⟩
theorem zrfail (S : TS h qs T) (w : zWF T) (C : zChk h) (hqs : qs + 4 ≤ 148) {c : Nat} (hc : c < T.nc) : ∃ g, f_Checks_rangeFailures 164 qs (nI c) h = some (0, g) ∧ zChk g ∧ zU 164 13 h g := by
  have h40 := S.r40
  obtain ⟨g1, e1, S1, U1⟩ := S.copy C.2.1 (by omega)
  have C1 := zChk.U U1 (by omega) (by omega) S1.sh C
  obtain ⟨g2, e2, S2, U2⟩ := S1.cho (fun _ => true)
  have C2 := zChk.U U2 (by omega) (by omega) S2.sh C1
  have c2 := C2.1
  obtain ⟨g3, m, G, e3, gg, gs, U3⟩ := zgmake (q := 169) (qs := 165) (T := zCho T (fun _ => true)) (by decide) S2 (w.cho _) hc C2.2.2.1 (by omega)
  have Sq : TS g3 qs T := ((S.U U1 (by omega)).U U2 (by omega)).U U3 (by omega)
  have d1 : g3[164]? = some (.inr (2, [.ref 165, .ref 169, .ref 176])) := by rw [U3.2.2 _ (by omega)]; exact c2
  obtain ⟨f5, c4⟩ := C2.2.2.2
  have C3 : zChk g3 := ⟨d1, C2.2.1.U U3 (by omega), gg.A, f5, by rw [U3.2.2 _ (by omega)]; exact c4⟩
  have hm40 := gg.2.2.2.2.2
  have gs : zGs (zCho T (fun _ => true)) c T.nr m G := gs
  have hky : (zCho T (fun _ => true)).ky = T.ky := rfl
  -- keys of groups
  have hrow : ∀ r, r < T.nr → ∃ a, a < m ∧ G a = T.ky c r := fun r hr => gs.2.2 r hr rfl
  have hkeyok : ∀ a, a < m → ∃ r, r < T.nr ∧ T.ky c r = G a := fun a ha => by
    obtain ⟨r, x1, x2, x3⟩ := gs.2.1 a ha
    exact ⟨r, x1, x3⟩
  have hmiss : ∀ a b, a < b → b < m → G a ≠ -9000000000 := by
    intro a b hab hb e
    have h1 := gs.1 a b hab hb
    rw [e, zrk_m] at h1
    have h1 : (1180591620717411303424 : Int) < zrk false false (G b) := h1
    by_cases e2 : G b = -9000000000
    · rw [e2, zrk_m] at h1
      have h1 : (1180591620717411303424 : Int) < 1180591620717411303424 := h1
      omega
    · rw [zrk_ff e2] at h1
      have := zrk_rng (G b)
      omega
  have hlt : ∀ a b, a < b → b < m → G b ≠ -9000000000 → (G a).toInt < (G b).toInt := by
    intro a b hab hb hn
    have h1 := gs.1 a b hab hb
    rw [zrk_ff (hmiss a b hab hb), zrk_ff hn] at h1
    exact h1
  -- how many rows there are from group a to group b
  have hcount : ∀ a b, a < m → b < m → G a ≠ -9000000000 → G b ≠ -9000000000 → fb_ct (fun r => decide (G a ≤ T.ky c r ∧ T.ky c r ≤ 9223372036854775807) && decide (-8999999999 ≤ T.ky c r ∧ T.ky c r ≤ G b)) T.nr = fb_sm (fun k => fb_ct (zMb (zCho T (fun _ => true)) c T.nr (G (a + k))) T.nr) (b + 1 - a) := by
    intro a b ha hb hna hnb
    refine (zpart (P := fun k => zMb (zCho T (fun _ => true)) c T.nr (G (a + k))) (m := b + 1 - a) fun r hr => ?_).symm
    obtain ⟨x, hx, ex⟩ := hrow r hr
    have big : (T.ky c r ≤ 9223372036854775807) := by
      rw [zl_e]
      have := zrk_rng (T.ky c r)
      have e9 : ((9223372036854775807 : Int64)).toInt = 9223372036854775807 := by decide +kernel
      rw [e9]; omega
    have hmem : ∀ k, a + k < m → (zMb (zCho T (fun _ => true)) c T.nr (G (a + k)) r = true ↔ x = a + k) := by
      intro k hk
      unfold zMb
      rw [decide_eq_true hr, Bool.true_and]
      show (true && decide (T.ky c r = G (a + k))) = true ↔ _
      rw [Bool.true_and, decide_eq_true_eq, ← ex]
      exact ⟨fun e => gs.one hx hk e, fun e => by rw [e]⟩
    have hin : (decide (G a ≤ T.ky c r ∧ T.ky c r ≤ 9223372036854775807) && decide (-8999999999 ≤ T.ky c r ∧ T.ky c r ≤ G b)) = true ↔ a ≤ x ∧ x ≤ b := by
      rw [Bool.and_eq_true, decide_eq_true_eq, decide_eq_true_eq, ← ex, zl_e, zl_e, zl_e, zl_e]
      have em : ((-8999999999 : Int64)).toInt = -8999999999 := by decide +kernel
      rw [em]
      constructor
      · rintro ⟨⟨y1, _⟩, y2, y3⟩
        have hnx : G x ≠ -9000000000 := fun e => by rw [e, zl_m] at y2; omega
        refine ⟨?_, ?_⟩
        · rcases Nat.lt_or_ge x a with z | z
          · have := hlt x a z ha hna; omega
          · exact z
        · rcases Nat.lt_or_ge b x with z | z
          · have := hlt b x z hx hnx; omega
          · exact z
      · rintro ⟨y1, y2⟩
        have hnx : G x ≠ -9000000000 := by
          rcases Nat.lt_or_ge x b with z | z
          · exact hmiss x b z hb
          · have : x = b := by omega
            rw [this]; exact hnb
        have hge := zokK_ge (w.k hc hr) (by rw [← ex]; exact hnx)
        rw [← ex] at hge big
        rw [zl_e] at big
        refine ⟨⟨?_, big⟩, by omega, ?_⟩
        · rcases Nat.lt_or_ge a x with z | z
          · have := hlt a x z hx hnx; omega
          · have : x = a := by omega
            rw [this]; omega
        · rcases Nat.lt_or_ge x b with z | z
          · have := hlt x b z hb hnb; omega
          · have : x = b := by omega
            rw [this]; omega
    by_cases hxx : a ≤ x ∧ x ≤ b
    · rw [if_pos (hin.mpr hxx)]
      exact fb_ct_uniq ⟨x - a, by omega, (hmem (x - a) (by omega)).mpr (by omega), fun k hk y => by have := (hmem k (by omega)).mp y; omega⟩
    · rw [if_neg (fun y => hxx (hin.mp y))]
      exact fb_ct_none fun k hk => ts_nt fun y => by have := (hmem k (by omega)).mp y; omega
  -- the sets up to each group are written
  have up : ∀ n i g0 f0, i ≤ m → m - i < n → zChk g0 → TS g0 qs T → zGrp g0 169 (zCho T (fun _ => true)) c m G (fun a => zMb (zCho T (fun _ => true)) c T.nr (G a)) → g0[176]? = some (.inl (2, 40, .inr (.inl f0))) → (∀ a, a < i → f0 a = zB (fun r => decide (-8999999999 ≤ T.ky c r ∧ T.ky c r ≤ G a)) T.nr) → ∃ g f', f_Checks_rangeFailures_36 n 164 qs (nI c) (nI i) g0 = f_Checks_rangeFailures_86 zF 164 qs (nI c) 0 0 g ∧ zChk g ∧ TS g qs T ∧ zGrp g 169 (zCho T (fun _ => true)) c m G (fun a => zMb (zCho T (fun _ => true)) c T.nr (G a)) ∧ g[176]? = some (.inl (2, 40, .inr (.inl f'))) ∧ (∀ a, a < m → f' a = zB (fun r => decide (-8999999999 ≤ T.ky c r ∧ T.ky c r ≤ G a)) T.nr) ∧ zU 164 13 g0 g := by
    intro n
    induction n with
    | zero => intro i _ _ _ hn; exact absurd hn (Nat.not_lt_zero _)
    | succ n ih =>
      intro i g0 f0 hi hn CZ SZ gZ eZ hZ
      unfold f_Checks_rangeFailures_36
      have a1 := zh_A CZ.1 (k := 1) rfl
      rw [ze_b a1, ze_b gZ.I4]
      rcases Nat.lt_or_ge i m with hlt1 | hge
      · have t1 := zh_stJ (x := zB (fun r => decide (-8999999999 ≤ T.ky c r ∧ T.ky c r ≤ G i)) T.nr) eZ (show i < 40 by omega) (by decide)
        have Ux : zU 176 1 g0 (g0.set 176 (.inl (2, 40, .inr (.inl (vp_updL f0 i (zB (fun r => decide (-8999999999 ≤ T.ky c r ∧ T.ky c r ≤ G i)) T.nr)))))) := zU_s eZ rfl (by omega)
        obtain ⟨g, f', e, z1, z2, z3, z4, z5, z6⟩ := ih (i + 1) _ _ hlt1 (by omega) (CZ.I i _ eZ) (SZ.U Ux (by omega)) (gZ.G (zG_U Ux (Nat.le_refl _) (Nat.le_refl _)) (by omega)) (zh_set_s eZ) (fun a ha => by
          by_cases e : a = i
          · rw [e, pk_uLs]
          · rw [pk_uLn e]; exact hZ a (by omega))
        refine ⟨g, f', ?_, z1, z2, z3, z4, z5, zU_t (zU_w Ux (by omega) (by omega)) z6⟩
        rw [if_neg (nI_ge hlt1 (by omega)), if_neg (show ¬ (40 : Int32) ≤ nI i from nI_ge (b := 40) (by omega) (by decide)), ze_b (zh_A CZ.1 rfl), ze_b a1, ze_b gZ.ok, ze_b2 (gZ.key hlt1), ze_b SZ.ok, ze_b2 (SZ.rft hc _ _), ze_b t1, nI_1]
        exact e
      · have e : i = m := Nat.le_antisymm hi hge
        subst e
        rw [if_pos (nI_le (Nat.le_refl _) (by omega))]
        exact ⟨g0, f0, rfl, CZ, SZ, gZ, eZ, hZ, zU_r⟩
  obtain ⟨g, f', e4, C4, S4, g4, e5, hf', U4⟩ := up zF 0 g3 f5 (Nat.zero_le _) (by unfold zF; omega) C3 Sq gg (by rw [U3.2.2 _ (by omega)]; exact c4) (fun a ha => absurd ha (Nat.not_lt_zero _))
  have a1 := zh_A C4.1 (k := 1) rfl
  have a2 := zh_A C4.1 (k := 2) rfl
  -- the comparisons
  have from9 : ∀ a, a < m → G a ≠ -9000000000 → ∀ n i, i ≤ m → m - i < n → f_Checks_failuresFrom_9 n 164 (nI a) (zB (fun r => decide (G a ≤ T.ky c r ∧ T.ky c r ≤ 9223372036854775807)) T.nr) 0 (nI (fb_sm (fun k => fb_ct (zMb (zCho T (fun _ => true)) c T.nr (G (a + k))) T.nr) (i - a))) (nI i) g = some (0, g) := by
    intro a ha hna n
    induction n with
    | zero => intro i _ hn; exact absurd hn (Nat.not_lt_zero _)
    | succ n ih =>
      intro i hi hn
      unfold f_Checks_failuresFrom_9
      rw [ze_b a1, ze_b g4.I4]
      rcases Nat.lt_or_ge i m with hlt1 | hge
      · rw [if_neg (nI_ge hlt1 (by omega)), if_neg (show ¬ (40 : Int32) ≤ nI i from nI_ge (b := 40) (by omega) (by decide)), ze_b a1, ze_b g4.ok, ze_b2 (g4.key hlt1)]
        by_cases hni : G i = -9000000000
        · rw [if_pos hni]
        · rw [if_neg hni]
          have l1 := zh_ldJ e5 (show i < 40 by omega) (by decide)
          rw [hf' i hlt1] at l1
          have fin : ∀ x : Nat, fb_sm (fun k => fb_ct (zMb (zCho T (fun _ => true)) c T.nr (G (a + k))) T.nr) (i - a) + x = fb_sm (fun k => fb_ct (zMb (zCho T (fun _ => true)) c T.nr (G (a + k))) T.nr) (i + 1 - a) → f_Checks_failuresFrom_68 (f_Checks_failuresFrom_9 n) 164 (nI a) (zB (fun r => decide (G a ≤ T.ky c r ∧ T.ky c r ≤ 9223372036854775807)) T.nr) 0 (nI i) (nI (fb_sm (fun k => fb_ct (zMb (zCho T (fun _ => true)) c T.nr (G (a + k))) T.nr) (i - a))) (nI x) g = some (0, g) := by
            intro x hx
            unfold f_Checks_failuresFrom_68
            rw [ze_b a2, ze_b l1, zB_and (by omega), ze_b2 (zB_cnt (by omega) g), nI_add, hx, hcount a i ha hlt1 hna hni, if_neg (fun y => y rfl), nI_1]
            exact ih (i + 1) hlt1 (by omega)
          by_cases hai : nI a ≤ nI i
          · have hai2 : a ≤ i := (nI_leI (by omega) (by omega)).mp hai
            rw [if_pos hai, ze_b a1, ze_b g4.ok, ze_b2 (g4.rows hlt1)]
            show zf_b2 (f_Long_bitCount (zB (zMb (zCho T fun _ => true) c T.nr (G i)) T.nr) g) _ = _
            rw [ze_b2 (zB_cnt (n := T.nr) (by omega) g)]
            refine fin _ ?_
            rw [show i + 1 - a = (i - a) + 1 by omega, fb_sm_succ, show a + (i - a) = i by omega]
          · have hai2 : i < a := by
              rcases Nat.lt_or_ge i a with z | z
              · exact z
              · exact absurd (nI_le z (by omega)) hai
            rw [if_neg hai, show (0 : Int32) = nI 0 from rfl]
            refine fin 0 ?_
            rw [show i - a = 0 by omega, show i + 1 - a = 0 by omega, Nat.add_zero]
      · have e : i = m := Nat.le_antisymm hi hge
        rw [e, if_pos (nI_le (Nat.le_refl _) (by omega))]
  have loop86 : ∀ n i, i ≤ m → m - i < n → f_Checks_rangeFailures_86 n 164 qs (nI c) 0 (nI i) g = some (0, g) := by
    intro n
    induction n with
    | zero => intro i _ hn; exact absurd hn (Nat.not_lt_zero _)
    | succ n ih =>
      intro i hi hn
      unfold f_Checks_rangeFailures_86
      rw [ze_b a1, ze_b g4.I4]
      rcases Nat.lt_or_ge i m with hlt1 | hge
      · rw [if_neg (nI_ge hlt1 (by omega)), ze_b a1, ze_b g4.ok, ze_b2 (g4.key hlt1)]
        by_cases hni : G i = -9000000000
        · rw [if_pos hni, nI_1]
          exact ih (i + 1) hlt1 (by omega)
        · have ef : f_Checks_failuresFrom 164 (nI i) (zB (fun r => decide (G i ≤ T.ky c r ∧ T.ky c r ≤ 9223372036854775807)) T.nr) g = some (0, g) := by
            have := from9 i hlt1 hni zF 0 (Nat.zero_le _) (by unfold zF; omega)
            rw [Nat.zero_sub] at this
            exact this
          rw [if_neg hni, ze_b a1, ze_b g4.ok, ze_b2 (g4.key hlt1), ze_b S4.ok, ze_b2 (S4.rft hc _ _), ze_b (zh_is C4.1), ze_b2 ef, nI_1]
          exact ih (i + 1) hlt1 (by omega)
      · have e : i = m := Nat.le_antisymm hi hge
        rw [e, if_pos (nI_le (Nat.le_refl _) (by omega))]
  refine ⟨g, ?_, C4, zU_t (zU_w U1 (by omega) (by omega)) (zU_t (zU_w U2 (by omega) (by omega)) (zU_t (zU_w U3 (by omega) (by omega)) U4))⟩
  have hsh : zf_is 10 165 h = some () := by
    obtain ⟨⟨K, X, O, nc, nr, ch, H⟩, _⟩ := C.2.1
    exact zh_is H.c
  have hk : zf_is 5 169 g2 = some () := by
    obtain ⟨⟨x1, y1, k1⟩, _⟩ := C2.2.2.1
    exact zh_is k1
  unfold f_Checks_rangeFailures
  rw [ze_b (zh_A C.1 rfl), ze_b hsh, ze_b2 e1, ze_b (zh_A C1.1 rfl), ze_b (zh_A C1.1 rfl), ze_b S1.ok, ze_b2 S1.allRows, ze_b e2, ze_b (zh_A c2 rfl), ze_b (zh_A c2 rfl), ze_b hk, ze_b2 e3]
  rw [show (0 : Int32) = nI 0 from rfl] at *
  rw [e4]
  exact loop86 zF 0 (Nat.zero_le _) (by unfold zF; omega)
theorem zfailures (S : TS h qs T) (w : zWF T) (C : zChk h) (hqs : qs + 4 ≤ 148) : ∃ g, f_Checks_failuresOf 164 qs h = some (0, g) ∧ zChk g ∧ zU 164 13 h g := by
  have h4 := S.c4
  have l15 : ∀ (k : Nat → Nat → Int32 → Int32 → zx_H → Option (Int32 × zx_H)) c, c < T.nc → ∀ n i g0, i ≤ T.nc → T.nc - i < n → zChk g0 → TS g0 qs T → ∃ g, f_Checks_failuresOf_15 k n 164 qs 0 (nI c) (nI i) g0 = k 164 qs 0 (nI (c + 1)) g ∧ zChk g ∧ zU 164 13 g0 g := by
    intro k c hc n
    induction n with
    | zero => intro i _ _ hn; exact absurd hn (Nat.not_lt_zero _)
    | succ n ih =>
      intro i g0 hi hn CZ SZ
      unfold f_Checks_failuresOf_15
      rw [ze_b SZ.I3]
      rcases Nat.lt_or_ge i T.nc with hlt | hge
      · rw [if_neg (nI_ge hlt (by omega))]
        by_cases e : nI i = nI c
        · rw [if_pos e, nI_1]
          exact ih (i + 1) g0 hlt (by omega) CZ SZ
        · obtain ⟨g1, e1, C1, U1⟩ := zboth SZ w CZ hqs hc hlt
          obtain ⟨g, e2, C2, U2⟩ := ih (i + 1) g1 hlt (by omega) C1 (SZ.U U1 (by omega))
          refine ⟨g, ?_, C2, zU_t U1 U2⟩
          rw [if_neg e, ze_b (zh_is CZ.1), ze_b2 e1, if_pos (by decide), nI_1]
          exact e2
      · obtain ⟨g1, e1, C1, U1⟩ := zgfail SZ w CZ hqs hc
        obtain ⟨g2, e2, C2, U2⟩ := zrfail (SZ.U U1 (by omega)) w C1 hqs hc
        refine ⟨g2, ?_, C2, zU_t U1 U2⟩
        rw [if_pos (nI_le hge (by omega)), ze_b (zh_is CZ.1), ze_b2 e1, ze_b (zh_is C1.1), ze_b2 e2, nI_1]
        rfl
  have l4 : ∀ n i g0, i ≤ T.nc → T.nc - i < n → zChk g0 → TS g0 qs T → ∃ g, f_Checks_failuresOf_4 n 164 qs 0 (nI i) g0 = some (0, g) ∧ zChk g ∧ zU 164 13 g0 g := by
    intro n
    induction n with
    | zero => intro i _ _ hn; exact absurd hn (Nat.not_lt_zero _)
    | succ n ih =>
      intro i g0 hi hn CZ SZ
      unfold f_Checks_failuresOf_4
      rw [ze_b SZ.I3]
      rcases Nat.lt_or_ge i T.nc with hlt | hge
      · obtain ⟨g1, e1, C1, U1⟩ := l15 (f_Checks_failuresOf_4 n) i hlt zF 0 g0 (Nat.zero_le _) (by unfold zF; omega) CZ SZ
        obtain ⟨g, e2, C2, U2⟩ := ih (i + 1) g1 hlt (by omega) C1 (SZ.U U1 (by omega))
        refine ⟨g, ?_, C2, zU_t U1 U2⟩
        rw [if_neg (nI_ge hlt (by omega))]
        exact e1.trans e2
      · have e : i = T.nc := Nat.le_antisymm hi hge
        rw [e, if_pos (nI_le (Nat.le_refl _) (by omega))]
        exact ⟨g0, rfl, CZ, zU_r⟩
  exact l4 zF 0 h (Nat.zero_le _) (by unfold zF; omega) C S
theorem zWd.errors {now : Nat} {ver : Nat → Nat → zT} {tx : List Nat} {pr : Nat × (Nat → Nat) × (Nat → Int32)} {gr : zT × Nat × Nat × (Nat → Int64) × (Nat → Nat → Bool)} (w : zWd h now ver tx pr gr) {t : Nat} (ht : t < 3) : ∃ g, f_ColumnVault_errors 1 (nI t) h = some (.inl 0, g) ∧ zWd g now ver tx pr gr ∧ zG 0 164 177 h g := by
  have hb := zq_b (v := now) ht
  obtain ⟨g, e, C, U⟩ := zfailures (w.T ht) (w.F ht) w.ck (by omega)
  have G : zG 0 164 177 h g := zG_U U (Nat.le_refl _) (Nat.le_refl _)
  refine ⟨g, ?_, ⟨w.v.G G (by omega), w.hi.G G (by omega), w.txt.G G (by omega), w.tk.G G (by omega), w.prs.G G (by omega), w.grs.G G (by omega), C⟩, G⟩
  unfold f_ColumnVault_errors
  rw [ze_b (zh_A w.v rfl), ze_b w.is, ze_b3 (w.sheetOf ht), ze_b (zh_is w.ck.1), ze_b2 e]
end ZRG

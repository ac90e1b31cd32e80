/-! ===== the law ===== -/
section ZLAW
variable {h g j : zx_H} {now now' : Nat} {ver ver' : Nat → Nat → zT} {tx : List Nat} {pr : Nat × (Nat → Nat) × (Nat → Int32)} {gr : zT × Nat × Nat × (Nat → Int64) × (Nat → Nat → Bool)} {t a k u : Nat}
/-- draws, with a change at least -/
theorem zdrawsS {nc : Nat} (ht : t < 3) (h1 : 1 ≤ nc) (hnc : nc ≤ 4) (r : zR h) (w : zWd h now ver tx pr gr) (en : (ver now t).nc = 0) (er : (ver now t).nr = 0) (hN : now + 300 < 100000) (hB : zM h + 13100 ≤ 6700000) : ∃ g now' ver', f_ColumnVaultLaw_draws 1 0 (nI t) (nI nc) h = some (.inl (), g) ∧ zR g ∧ zWd g now' ver' tx pr gr ∧ zSp t 204 13100 h now ver g now' ver' ∧ (ver' now' t).nc = nc ∧ (ver' now' t).nr ≤ 25 ∧ (ver' now' t).kd 0 = 0 ∧ 1 ≤ now' := by
  have hl := zlen (h := h) (by omega)
  have hwl := w.len
  have hn := zh_newI (g := h) (r := []) (n := nc) (by show h.length + 0 < 600000; have := zM_l (h := h); omega) (by omega)
  rw [List.append_nil] at hn
  have hn : zf_newa .int 1 (nI nc) h = some (h.length, h ++ [.inl (1, nc, .inl fun _ => 0)]) := hn
  have G0 : zG (12 + nc) 0 0 h (h ++ [.inl (1, nc, .inl fun _ => 0)]) := zG_app (c := .inl (1, nc, .inl fun _ => 0))
  have m0 := G0.m
  have e0 : (h ++ [(.inl (1, nc, .inl fun _ => 0) : zx_E)])[h.length]? = some (.inl (1, nc, .inl fun _ => 0)) := zG_end
  generalize h ++ [(.inl (1, nc, .inl fun _ => 0) : zx_E)] = g0 at hn G0 m0 e0
  have r0 := r.G G0 (Or.inr rfl)
  have w0 := w.G G0 (Or.inr (by decide))
  have st := zh_stI (j := 0) (x := nI 0) e0 h1 (by omega)
  have st : zf_stI h.length (0 : Int32) (0 : Int32) g0 = _ := st
  have U1 : zU h.length 1 g0 (g0.set h.length (.inl (1, nc, .inl (upd (fun _ => 0) 0 (nI 0))))) := zU_s e0 rfl (by omega)
  have G1 := zG_U U1 (a := h.length) (b := h.length + 1) (Nat.le_refl _) (Nat.le_refl _)
  have ef1 := zh_set_s (c' := .inl (1, nc, .inl (upd (fun _ => 0) 0 (nI 0)))) e0
  generalize g0.set h.length (.inl (1, nc, .inl (upd (fun _ => 0) 0 (nI 0)))) = g1 at st U1 G1 ef1
  have w1 := w0.G G1 (Or.inl hwl)
  have r1 := r0.G G1 (Or.inl (by omega))
  have ld : zf_ldI h.length (0 : Int32) g1 = some (0 : Int32) := by
    have := zh_ldI (j := 0) (by show h.length ≠ 1000000; omega) ef1 h1 (by omega)
    rw [pk_us] at this
    exact this
  obtain ⟨g2, e2, w2, U2⟩ := w1.addColumn (by omega) ht (by omega) (kd := 0) (by decide)
  rw [en] at e2
  have e2 : f_ColumnVault_addColumn 1 (nI t) (0 : Int32) g1 = some (.inl (0 : Int32), g2) := e2
  have r2 := r1.U U2
  have m1 := G1.m
  have m2 := zU_m U2
  have ef2 := (zU_G U2).gt ef1 (Or.inr (by omega))
  have s2 := ((zSp.g G0).t (zSp.g G1)).t (zSp.c (u := t) (n1 := now) (v1 := ver) (T := zCol (ver now t) 0) U2)
  have sz1 := w1.size1 ht
  rw [en] at sz1
  have sz1 : f_ColumnVault_size 1 (nI t) 1 g1 = some (.inl (0 : Int32), g1) := sz1
  obtain ⟨g, now', ver', e4, r4, w4, s4, c4, n4, k4⟩ := zdw8 (nc := nc) (q := h.length) ht h1 hnc hwl hl 4999 1 g2 (now + 1) (zvc ver now t (zCol (ver now t) 0)) h1 (by omega) r2 w2 (by rw [zvc_t]; show (ver now t).nc + 1 = _; omega) (by rw [zvc_t]; exact er) (fun _ => by
    rw [zvc_t]
    show (if 0 = (ver now t).nc then 0 else (ver now t).kd 0) = 0
    rw [if_pos (by omega)]) ⟨_, ef2⟩ (by omega) (by omega)
  have e4 : f_ColumnVaultLaw_draws_8 4999 1 0 (nI t) (nI nc) h.length ((0 : Int32) + 1) g2 = some (.inl (), g) := e4
  refine ⟨g, now', ver', ?_, r4, w4, (s2.t s4).w (by omega) (by omega), c4, n4, k4, by have := s4.1; omega⟩
  unfold f_ColumnVaultLaw_draws
  rw [ze_b2 hn, show zF = 4999 + 1 from rfl, f_ColumnVaultLaw_draws_8, if_neg (show ¬ nI nc ≤ (0 : Int32) from nI_nle h1 (by omega)), if_neg (fun x => x rfl)]
  unfold f_ColumnVaultLaw_draws_32
  rw [ze_b st, ze_b w1.is, ze_b3 sz1, if_neg (fun x => x rfl), ze_b ld, ze_b w1.is, ze_b3 e2, if_pos rfl]
  exact e4
/-- the seed -/
theorem zseed20 {sc : (Nat × (Nat → Int32)) × Bool} (hsc : sc.1.1 ≤ 1000) : ∀ n i f, i ≤ sc.1.1 → sc.1.1 - i < n → ∃ f', f_ColumnVaultLaw_seed_20 sc n 0 (nI i) [.inl (1, 2, .inl f)] = some (0, [.inl (1, 2, .inl f')]) := by
  intro n
  induction n with
  | zero => intro i _ _ hn; exact absurd hn (Nat.not_lt_zero _)
  | succ n ih =>
    intro i f hi hn
    rw [f_ColumnVaultLaw_seed_20]
    rcases Nat.lt_or_ge i sc.1.1 with hlt | hge
    · have sl : zf_sld sc (nI i) = some (sc.1.2 i) := by
        unfold zf_sld
        rw [if_pos (show zx_in (nI i) sc.1.1 from vp_in_nI hlt (by omega)), nI_clamp (by omega)]
      have l0 : ∀ f : Nat → Int32, zf_ldI 0 (0 : Int32) [.inl (1, 2, .inl f)] = some (f 0) := fun f => (zdr_l (h := [.inl (1, 2, .inl f)]) rfl).1
      have l1 : ∀ f : Nat → Int32, zf_ldI 0 (1 : Int32) [.inl (1, 2, .inl f)] = some (f 1) := fun f => (zdr_l (h := [.inl (1, 2, .inl f)]) rfl).2
      have s0 : ∀ (f : Nat → Int32) (x : Int32), zf_stI 0 (0 : Int32) x [.inl (1, 2, .inl f)] = some [.inl (1, 2, .inl (upd f 0 x))] := fun f x => zh_stI (h := [.inl (1, 2, .inl f)]) (q := 0) (j := 0) (x := x) rfl (by decide) (by decide)
      have s1 : ∀ (f : Nat → Int32) (x : Int32), zf_stI 0 (1 : Int32) x [.inl (1, 2, .inl f)] = some [.inl (1, 2, .inl (upd f 1 x))] := fun f x => zh_stI (h := [.inl (1, 2, .inl f)]) (q := 0) (j := 1) (x := x) rfl (by decide) (by decide)
      rw [if_neg (show ¬ Int32.ofNat sc.1.1 ≤ nI i from nI_ge hlt (by omega)), ze_b (l0 _), ze_b sl, ze_b (s0 _ _), ze_b (l1 _), ze_b sl, ze_b (l0 _), ze_b (s1 _ _), nI_1]
      exact ih (i + 1) _ hlt (by omega)
    · rw [if_pos (show Int32.ofNat sc.1.1 ≤ nI i from nI_le hge (by omega))]
      exact ⟨f, rfl⟩
theorem zseed {sc : (Nat × (Nat → Int32)) × Bool} (hsc : sc.1.1 ≤ 1000) : ∃ f, f_ColumnVaultLaw_seed sc [] = some (0, [.inl (1, 2, .inl f)]) := by
  have hn := zh_newI (g := []) (r := []) (n := 2) (by show 0 + 0 < 600000; decide) (by decide)
  have hn : zf_newa .int 1 (2 : Int32) [] = some (0, [.inl (1, 2, .inl fun _ => 0)]) := hn
  have s0 : ∀ (f : Nat → Int32) (x : Int32), zf_stI 0 (0 : Int32) x [.inl (1, 2, .inl f)] = some [.inl (1, 2, .inl (upd f 0 x))] := fun f x => zh_stI (h := [.inl (1, 2, .inl f)]) (q := 0) (j := 0) (x := x) rfl (by decide) (by decide)
  have s1 : ∀ (f : Nat → Int32) (x : Int32), zf_stI 0 (1 : Int32) x [.inl (1, 2, .inl f)] = some [.inl (1, 2, .inl (upd f 1 x))] := fun f x => zh_stI (h := [.inl (1, 2, .inl f)]) (q := 0) (j := 1) (x := x) rfl (by decide) (by decide)
  unfold f_ColumnVaultLaw_seed
  rw [ze_b2 hn, ze_b (s0 _ _), ze_b (s1 _ _)]
  obtain ⟨f, e⟩ := zseed20 hsc zF 0 _ (Nat.zero_le _) (by unfold zF; omega)
  exact ⟨f, e⟩
/-- what all tables keep -/
def zIn (now : Nat) (ver : Nat → Nat → zT) : Prop := ∀ t, t < 3 → 1 ≤ (ver now t).nc ∧ (ver now t).kd 0 = 0 ∧ (ver now t).nr ≤ 25
theorem zIn_s (I : zIn now ver) (x : zSp u a k h now ver g now' ver') (s1 : (ver' now' u).nc = (ver now u).nc) (s2 : (ver' now' u).kd = (ver now u).kd) (s3 : (ver' now' u).nr = (ver now u).nr) : zIn now' ver' := fun t ht => by
  by_cases c : t = u
  · rw [c, s1, s2, s3, ← c]; exact I t ht
  · rw [x.2.2.2 t c]; exact I t ht
theorem zfin (w : zWd h now ver tx pr gr) : (zf_b (zf_is 12 1 h) fun _ => zf_b3 (f_ColumnVault_size 1 (0 : Int32) (0 : Int32) h) fun v77 h78 => if v77 = 0 then (some (.inl (1 : Int32), h78) : Option ((Int32 ⊕ Nat) × zx_H)) else zf_b (zf_is 12 1 h78) fun _ => zf_b3 (f_ColumnVault_chosenShare 1 (0 : Int32) h78) fun v80 h81 => zf_b (zf_is 12 1 h81) fun _ => zf_b3 (f_ColumnVault_size 1 (0 : Int32) (2 : Int32) h81) fun v83 h84 => zf_b (zf_is 12 1 h84) fun _ => zf_b3 (f_ColumnVault_size 1 (0 : Int32) (0 : Int32) h84) fun v86 h87 => if (FP.fdiv (FP.i2f v83) (FP.i2f v86)) &&& 0x7fffffff ≤ 0x7f800000 then if ¬ (Op.cmpValue (FP.fcmp v80 (FP.fdiv (FP.i2f v83) (FP.i2f v86))) .l) = 0 then some (.inl (0 : Int32), h87) else some (.inl (1 : Int32), h87) else none) = some (.inl 1, h) := by
  have h40 := (w.T (t := 0) (by decide)).r40
  have s0 : f_ColumnVault_size 1 (0 : Int32) 0 h = _ := w.size0 (t := 0) (by decide)
  have s2 : f_ColumnVault_size 1 (0 : Int32) 2 h = _ := w.size2 (t := 0) (by decide)
  have le := fb_ct_le (ver now 0).ch (ver now 0).nr
  rw [ze_b w.is, ze_b3 s0]
  by_cases hz : (ver now 0).nr = 0
  · rw [if_pos (by rw [hz]; rfl)]
  · have sh : f_ColumnVault_chosenShare 1 (0 : Int32) h = _ := w.share (t := 0) (by decide) hz
    obtain ⟨p1, p2⟩ := zshare (fb_ct (ver now 0).ch (ver now 0).nr) (by omega) (ver now 0).nr (by omega) hz
    rw [if_neg (nI_ne0 (by omega) (by omega)), ze_b w.is, ze_b3 sh, ze_b w.is, ze_b3 s2, ze_b w.is, ze_b3 s0, if_pos p1, p2, if_neg (fun x => x rfl)]
theorem zlaw {sc : (Nat × (Nat → Int32)) × Bool} (hsc : sc.1.1 ≤ 1000) : ∃ g, f_ColumnVaultLaw_law sc [] = some (.inl 1, g) ∧ zM g ≤ 5000000 := by
  obtain ⟨f, e1⟩ := zseed hsc
  have e2 : zf_new 12 [(.inl (1, 2, .inl f) : zx_E)] = some (1, [.inl (1, 2, .inl f), .inr (12, zx_def 12)]) := zh_new (g := [(.inl (1, 2, .inl f) : zx_E)]) (by show 1 < 600000; decide)
  obtain ⟨g3, e3, r3, w3, m3⟩ := zinit (f := f)
  have v3 := w3.version
  have v3 : f_ColumnVault_version 1 g3 = some (0, g3) := v3
  have e4 := zask10E (b := 0) (c := 0) (a := 0) w3.is z13 (w3.pairNo (i := 0) (Nat.le_refl _) (by decide) 0 (by omega))
  have G4 : zG 20 0 0 g3 (g3 ++ [.inr (13, [])]) := zG_exc
  generalize g3 ++ [(.inr (13, []) : zx_E)] = g4 at e4 G4
  have m4 := G4.m
  have w4 := w3.G G4 (Or.inr (by decide))
  have r4 := r3.G G4 (Or.inr rfl)
  have e5 := zask11E (b := 0) (c := 0) (a := 0) w4.is z13 (w4.groupAtNo (a := 0) (Nat.le_refl _) (by decide) 0 (by omega))
  have G5 : zG 20 0 0 g4 (g4 ++ [.inr (13, [])]) := zG_exc
  generalize g4 ++ [(.inr (13, []) : zx_E)] = g5 at e5 G5
  have m5 := G5.m
  have w5 := w4.G G5 (Or.inr (by decide))
  have r5 := r4.G G5 (Or.inr rfl)
  -- the tables
  obtain ⟨v, g6, hv, e6, r6, w6, G6⟩ := zdrawW r5 w5 (n := 4) (by decide) (by decide)
  have m6 := G6.m
  obtain ⟨g7, n7, ver7, e7, r7, w7, s7, a7, b7, c7, d7⟩ := zdrawsS (t := 0) (nc := 1 + v) (by decide) (by omega) (by omega) r6 w6 rfl rfl (by omega) (by omega)
  have e7 : f_ColumnVaultLaw_draws 1 0 (0 : Int32) ((1 : Int32) + nI v) g6 = some (.inl (), g7) := by
    rw [show (1 : Int32) + nI v = nI (1 + v) from nI_add 1 v]
    exact e7
  have q7 := s7.2.2.2
  have k7 := s7.2.1
  have m7 := s7.2.2.1
  obtain ⟨x, g8, hx, e8, r8, w8, G8⟩ := zdrawW r7 w7 (n := 3) (by decide) (by decide)
  have m8 := G8.m
  obtain ⟨g9, n9, ver9, e9, r9, w9, s9, a9, b9, c9⟩ := zdraws (t := 1) (nc := 1 + x) (by decide) (by omega) (by omega) r8 w8 (by rw [q7 1 (by decide)]; rfl) (by rw [q7 1 (by decide)]; rfl) (by omega) (by omega)
  have e9 : f_ColumnVaultLaw_draws 1 0 (1 : Int32) ((1 : Int32) + nI x) g8 = some (.inl (), g9) := by
    rw [show (1 : Int32) + nI x = nI (1 + x) from nI_add 1 x]
    exact e9
  have q9 := s9.2.2.2
  have k9 := s9.2.1
  have j9 := s9.1
  have m9 := s9.2.2.1
  obtain ⟨y, g10, hy, e10, r10, w10, G10⟩ := zdrawW r9 w9 (n := 2) (by decide) (by decide)
  have m10 := G10.m
  obtain ⟨g11, n11, ver11, e11, r11, w11, s11, a11, b11, c11⟩ := zdraws (t := 2) (nc := 1 + y) (by decide) (by omega) (by omega) r10 w10 (by rw [q9 2 (by decide), q7 2 (by decide)]; rfl) (by rw [q9 2 (by decide), q7 2 (by decide)]; rfl) (by omega) (by omega)
  have e11 : f_ColumnVaultLaw_draws 1 0 (2 : Int32) ((1 : Int32) + nI y) g10 = some (.inl (), g11) := by
    rw [show (1 : Int32) + nI y = nI (1 + y) from nI_add 1 y]
    exact e11
  have q11 := s11.2.2.2
  have k11 := s11.2.1
  have j11 := s11.1
  have m11 := s11.2.2.1
  have I11 : zIn n11 ver11 := fun t ht => by
    obtain rfl | rfl | rfl : t = 0 ∨ t = 1 ∨ t = 2 := by omega
    · rw [q11 0 (by decide), q9 0 (by decide), a7, c7]; exact ⟨by omega, rfl, b7⟩
    · rw [q11 1 (by decide), a9, c9]; exact ⟨by omega, rfl, b9⟩
    · rw [a11, c11]; exact ⟨by omega, rfl, b11⟩
  obtain ⟨t, g12, ht, e12, r12, w12, G12⟩ := zdrawW r11 w11 (n := 3) (by decide) (by decide)
  have m12 := G12.m
  obtain ⟨g13, n13, ver13, e13, r13, w13, s13, a13, b13, c13⟩ := zremoved r12 w12 ht (by omega) (by omega)
  have I13 := zIn_s I11 s13 a13 b13 c13
  have k13 := s13.2.1
  have j13 := s13.1
  have m13 := s13.2.2.1
  obtain ⟨g14, n14, ver14, e14, r14, w14, s14, a14, b14, c14⟩ := zsorted r13 w13 ht (I13 t ht).1 (by omega) (by omega)
  have I14 := zIn_s I13 s14 a14 b14 c14
  have k14 := s14.2.1
  have j14 := s14.1
  have m14 := s14.2.2.1
  obtain ⟨g15, n15, ver15, tx15, e15, r15, w15, s15, a15, b15, c15⟩ := zisFilter r14 w14 ht (I14 t ht).1 (by omega) (by omega)
  have I15 := zIn_s I14 s15 a15 b15 c15
  have k15 := s15.2.1
  have j15 := s15.1
  have m15 := s15.2.2.1
  obtain ⟨g16, tx16, e16, r16, w16, m16⟩ := zisWrong r15 w15 ht (I15 t ht).1 (I15 t ht).2.1 (by omega)
  obtain ⟨g17, n17, ver17, tx17, e17, r17, w17, s17, a17, b17, c17⟩ := zisFilter r16 w16 ht (I15 t ht).1 (by omega) (by omega)
  have I17 := zIn_s I15 s17 a17 b17 c17
  have k17 := s17.2.1
  have j17 := s17.1
  have m17 := s17.2.2.1
  obtain ⟨b1, g18, hb1, e18, r18, w18, G18⟩ := zdrawW r17 w17 (n := 3) (by decide) (by decide)
  have m18 := G18.m
  obtain ⟨b2, g19, hb2, e19, r19, w19, G19⟩ := zdrawW r18 w18 (n := 3) (by decide) (by decide)
  have m19 := G19.m
  have z1 := I17 b1 hb1
  have z2 := I17 b2 hb2
  have z0 := I17 0 (by decide)
  obtain ⟨g20, pr20, e20, r20, w20, m20⟩ := zjoined r19 w19 hb1 hb2 z1.1 z2.1 (by omega) (by omega) (by omega)
  obtain ⟨g21, pr21, e21, r21, w21, m21⟩ := zjoined r20 w20 (t := 0) (t' := 0) (by decide) (by decide) z0.1 z0.1 (by omega) (by omega) (by omega)
  have e21 : f_ColumnVaultLaw_isJoined 1 0 (0 : Int32) (0 : Int32) g20 = some (.inl 1, g21) := e21
  obtain ⟨g22, e22, r22, w22, m22⟩ := ztold r21 w21 ht (I17 t ht).1 (by omega)
  obtain ⟨b3, g23, hb3, e23, r23, w23, G23⟩ := zdrawW r22 w22 (n := 3) (by decide) (by decide)
  have m23 := G23.m
  obtain ⟨b4, g24, hb4, e24, r24, w24, G24⟩ := zdrawW r23 w23 (n := 3) (by decide) (by decide)
  have m24 := G24.m
  obtain ⟨g25, e25, G25⟩ := zareSets w24 hb3 hb4 (by omega)
  have m25 := G25.m
  have w25 := w24.G G25 (Or.inr (by decide))
  have r25 := r24.G G25 (Or.inr rfl)
  obtain ⟨g26, e26, G26⟩ := zareAlike w25 ht (by omega)
  have m26 := G26.m
  have w26 := w25.G G26 (Or.inr (by decide))
  have r26 := r25.G G26 (Or.inr rfl)
  have zt := I17 t ht
  obtain ⟨g27, n27, ver27, gr27, e27, r27, w27, s27, a27, b27, c27⟩ := zgrouped r26 w26 ht zt.1 (by omega) (by omega) (by omega)
  have k27 := s27.2.1
  have j27 := s27.1
  have m27 := s27.2.2.1
  have I27 : ∀ t', t' < 3 → 1 ≤ (ver27 n27 t').nc ∧ (ver27 n27 t').kd 0 = 0 := fun t' ht' => by
    by_cases c : t' = t
    · rw [c, a27, b27]; exact ⟨zt.1, zt.2.1⟩
    · rw [s27.2.2.2 t' c]; exact ⟨(I17 t' ht').1, (I17 t' ht').2.1⟩
  -- versions back, refusals
  obtain ⟨g28, n28, ver28, e28, r28, w28, k28, I28, m28, j28⟩ := zisBack r27 w27 I27 (by omega) (by omega)
  obtain ⟨i1, i2, i3⟩ := I28 0 (by decide)
  have i4 := I27 0 (by decide)
  have j7 : 1 ≤ n7 := d7
  obtain ⟨g29, n29, ver29, e29, r29, w29, m29⟩ := zareRefused (by omega) (by omega) (by rw [i1]; exact i4.1) (by rw [i2]; exact i4.2) r28 w28 (by omega)
  have ef := zfin w29
  refine ⟨g29, ?_, by omega⟩
  unfold f_ColumnVaultLaw_law
  rw [ze_b2 e1, ze_b2 e2, ze_b2 e3, ze_b w3.is, ze_b2 v3, if_neg (fun x => x rfl), ze_b2 e4, if_neg (fun x => x (show zxc 13 = -3000000001 from rfl)), ze_b2 e5, if_pos (show zxc 13 = -3000000001 from rfl), show (4 : Int32) = nI 4 from rfl, ze_b2 e6, ze_b3 e7, show (3 : Int32) = nI 3 from rfl, ze_b2 e8, ze_b3 e9]
  have e10 : f_ColumnVaultLaw_draw 0 (2 : Int32) g9 = some (nI y, g10) := e10
  rw [ze_b2 e10, ze_b3 e11, ze_b2 e12, ze_b3 e13, if_neg (by decide), ze_b3 e14, if_neg (by decide), ze_b3 e15, if_neg (by decide), ze_b3 e16, if_neg (by decide), ze_b3 e17, if_pos (by decide), ze_b2 e18, ze_b2 e19, ze_b3 e20, if_neg (by decide), ze_b3 e21, if_neg (by decide), ze_b3 e22, if_neg (by decide), ze_b2 e23, ze_b2 e24, ze_b3 e25, if_neg (by decide), ze_b3 e26, if_neg (by decide), ze_b3 e27, if_pos (by decide), ze_b3 e28, if_neg (by decide), ze_b3 e29, if_pos (by decide)]
  exact ef
end ZLAW

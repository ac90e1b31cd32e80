/-! ===== isSorted ===== -/
section ZSD
variable {h g : zx_H} {now : Nat} {ver : Nat → Nat → zT} {tx : List Nat} {pr : Nat × (Nat → Nat) × (Nat → Int32)} {gr : zT × Nat × Nat × (Nat → Int64) × (Nat → Nat → Bool)} {t c q8 q9 : Nat} {T : zT} {o : Nat → Nat} {down first : Bool}
theorem zct_one {p : Nat → Bool} {n i j : Nat} (h : fb_ct p n = 1) (hi : i < n) (hj : j < n) (pi : p i = true) (pj : p j = true) : i = j := by
  have z : ∀ k, k < n → p k = true → fb_ct p k = 0 := fun k hk pk => by
    have h1 := fb_ct_mono p (m := k + 1) (n := n) hk
    rw [fb_ct_succ, pk, if_pos rfl] at h1
    omega
  exact fb_ct_kth_one pi pj (by rw [z i hi pi, z j hj pj])
/-- two orders differ at no place or at two -/
theorem zord_n1 {o o' : Nat → Nat} {n : Nat} (w : zPerm o n) (w' : zPerm o' n) : fb_ct (fun p => decide (o' p ≠ o p)) n ≠ 1 := by
  intro h1
  obtain ⟨i, hi, pi⟩ := fb_ct_pos.mp (show 0 < fb_ct (fun p => decide (o' p ≠ o p)) n by omega)
  have hne := of_decide_eq_true pi
  obtain ⟨j, hj, ej⟩ := zPerm_on w' (w.1 i hi)
  have hij : j ≠ i := fun x => hne (by rw [← x, ej, x])
  by_cases e : o' j = o j
  · exact hij (zPerm_inj w hj hi (by rw [← e, ej]))
  · exact hij (zct_one h1 hj hi (decide_eq_true e) pi)
/-- places by rows -/
def zPl (h : zx_H) (q n i : Nat) (o : Nat → Nat) : Prop := ∃ f, h[q]? = some (.inl (1, n, .inl f)) ∧ ∀ k, k < i → f (o k) = nI k
theorem zPl.G {q n i k a b : Nat} (z : zPl h q n i o) (G : zG k a b h g) (h1 : q < a ∨ b ≤ q) : zPl g q n i o := by
  obtain ⟨f, e, hf⟩ := z
  exact ⟨f, G.gt e h1, hf⟩
theorem zPl.st {q n i : Nat} (z : zPl h q n i o) (hi : i < n) (w : zPerm o n) (hn : n ≤ 40) : ∃ g, zf_stI q (nI (o i)) (nI i) h = some g ∧ zPl g q n (i + 1) o ∧ zU q 1 h g := by
  obtain ⟨f, e, hf⟩ := z
  refine ⟨_, zh_stI e (w.1 i hi) (by omega), ⟨_, zh_set_s e, fun k hk => ?_⟩, zU_s e rfl (by omega)⟩
  by_cases c : k = i
  · rw [c]; exact pk_us
  · rw [pk_un (fun x => c (zPerm_inj w (by omega) hi x))]
    exact hf k (by omega)
theorem zPl.ld {q n r : Nat} (z : zPl h q n n o) (hr : r < n) (w : zPerm o n) (hn : n ≤ 40) (hq : q ≤ 600000) : zf_ldI q (nI r) h = some (nI (zpl o r n)) := by
  obtain ⟨f, e, hf⟩ := z
  have h1 := zpl_r w hr
  rw [zh_ldI (by show q ≠ 1000000; omega) e hr (by omega), ← hf _ h1.1, h1.2]
/-- the sorted order, looked through -/
theorem zso158 {K : Nat → Nat → Int32 → Int32 → Int32 → zx_H → Option ((Int32 ⊕ Nat) × zx_H)} {p3 p4 : Int32} (ht : t < 3) (hT : ver now t = zKO T T.ky o) (wT : zWF T) (hc : c < T.nc) (ho : zPerm o T.nr) (hs : zSrt T c down first o T.nr) (h8 : 177 ≤ q8) (h9 : 177 ≤ q9) (l8 : q8 ≤ 600000) (l9 : q9 ≤ 600000) : ∀ n k h, 1 ≤ k → k ≤ 41 → T.nr - k < n → zR h → zWd h now ver tx pr gr → zOa h q8 T.nr o → zPl h q9 T.nr T.nr T.od → zM h + 200 * (T.nr - k) ≤ 6600000 → ∃ g, f_ColumnVaultLaw_isSorted_158 K n 1 0 (nI t) p3 p4 (nI c) (zb down) (zb first) q8 q9 (nI k) h = K 1 0 (nI t) p3 (p4 + (1 : Int32)) g ∧ zR g ∧ zWd g now ver tx pr gr ∧ zM g ≤ zM h + 200 * (T.nr - k) := by
  have h40 := wT.r40
  have hc' : c < (ver now t).nc := by rw [hT]; exact hc
  intro n
  induction n with
  | zero => intro k _ _ _ hn; exact absurd hn (Nat.not_lt_zero _)
  | succ n ih =>
    intro k h hk hk41 hn r w z8 z9 hB
    unfold f_ColumnVaultLaw_isSorted_158
    rw [ze_b (z8.len l8)]
    rcases Nat.lt_or_ge k T.nr with hlt | hge
    · have e1 : nI k - (1 : Int32) = nI (k - 1) := pk_sub (a := k) (b := 1) hk
      have ha := ho.1 (k - 1) (by omega)
      have hb := ho.1 k hlt
      have hs1 := hs (k - 1) k (by omega) hlt
      have ha' : o (k - 1) < (ver now t).nr := by rw [hT]; exact ha
      have hb' : o k < (ver now t).nr := by rw [hT]; exact hb
      have va : zVl (ver now t) (o (k - 1)) c = ztd (T.kd c) (T.ky c (o (k - 1))) := by rw [hT]; rfl
      have vb : zVl (ver now t) (o k) c = ztd (T.kd c) (T.ky c (o k)) := by rw [hT]; rfl
      have ka := wT.k hc ha
      have kb := wT.k hc hb
      have kd := w.kind ht hc'
      rw [hT] at kd
      have kd : f_ColumnVault_kind 1 (nI t) (nI c) h = some (.inl (nI (T.kd c)), h) := kd
      -- on with the next place
      have go : ∀ (g1 : zx_H) (p : Int32), zG 200 0 0 h g1 → (p = -1 ∨ (p = 0 ∧ zpl T.od (o (k - 1)) T.nr < zpl T.od (o k) T.nr)) → ∃ g, f_ColumnVaultLaw_isSorted_289 K (f_ColumnVaultLaw_isSorted_158 K n) 1 0 (nI t) p3 p4 (nI c) (zb down) (zb first) q8 q9 (nI k) p g1 = K 1 0 (nI t) p3 (p4 + (1 : Int32)) g ∧ zR g ∧ zWd g now ver tx pr gr ∧ zM g ≤ zM h + 200 * (T.nr - k) := by
        intro g1 p G1 hp
        have m1 := G1.m
        have z81 := z8.G G1 (Or.inr (Nat.zero_le _))
        have z91 := z9.G G1 (Or.inr (Nat.zero_le _))
        obtain ⟨g, e2, r2, w2, m2⟩ := ih (k + 1) g1 (by omega) (by omega) (by omega) (r.G G1 (Or.inr rfl)) (w.G G1 (Or.inr (by decide))) z81 z91 (by omega)
        refine ⟨g, ?_, r2, w2, by omega⟩
        unfold f_ColumnVaultLaw_isSorted_289
        rcases hp with rfl | ⟨rfl, hp⟩
        · rw [if_neg (by decide), if_pos (by decide), nI_1]
          exact e2
        · rw [if_neg (by decide), if_neg (fun x => x rfl), e1, ze_b (z81.ld (show k - 1 < T.nr by omega) (by omega) l8), ze_b (z91.ld ha wT.p h40 l9), ze_b (z81.ld hlt (by omega) l8), ze_b (z91.ld hb wT.p h40 l9), if_pos (nI_le (by omega) (by have := zpl_r wT.p hb; omega)), nI_1]
          exact e2
      have G0 : zG 200 0 0 h h := zG.refl.w (Nat.zero_le _) (Nat.le_refl _) (Nat.le_refl _)
      rw [if_neg (nI_ge hlt (by omega)), e1, ze_b (z8.ld (show k - 1 < T.nr by omega) (by omega) l8), ze_b w.is, ze_b3 (w.get ht hc' ha'), ze_b (z8.ld hlt (by omega) l8), ze_b w.is, ze_b3 (w.get ht hc' hb'), va, vb]
      by_cases hab : T.ky c (o (k - 1)) = T.ky c (o k)
      · rw [if_neg (fun x => x (by rw [hab]))]
        refine go h 0 G0 (Or.inr ⟨rfl, ?_⟩)
        rcases hs1 with hs1 | hs1
        · rw [hab] at hs1; omega
        · exact hs1.2
      · have hlt2 : zrk down first (T.ky c (o (k - 1))) < zrk down first (T.ky c (o k)) := by
          rcases hs1 with hs1 | hs1
          · exact hs1
          · exact absurd (zrk_inj.mp hs1.1) hab
        have ra := zrk_rng (T.ky c (o (k - 1)))
        have rb := zrk_rng (T.ky c (o k))
        rw [if_pos (fun x => hab ((ztd_inj ka kb).mp x))]
        by_cases hma : T.ky c (o (k - 1)) = -9000000000
        · rw [if_neg (fun x => x ((ztd_mi ka).mpr hma))]
          have hmb : T.ky c (o k) ≠ -9000000000 := fun x => hab (hma.trans x.symm)
          rw [hma, zrk_m, zrk_n hmb] at hlt2
          by_cases hf : first = true
          · rw [if_neg (zb1 hf)]
            exact go h (-1) G0 (Or.inl rfl)
          · rw [if_neg hf] at hlt2
            exfalso
            by_cases hd : down = true
            · rw [if_pos hd] at hlt2; omega
            · rw [if_neg hd] at hlt2; omega
        · rw [if_pos (fun x => hma ((ztd_mi ka).mp x))]
          by_cases hmb : T.ky c (o k) = -9000000000
          · rw [if_neg (fun x => x ((ztd_mi kb).mpr hmb))]
            rw [hmb, zrk_m, zrk_n hma] at hlt2
            by_cases hf : first = true
            · rw [if_pos hf] at hlt2
              exfalso
              by_cases hd : down = true
              · rw [if_pos hd] at hlt2; omega
              · rw [if_neg hd] at hlt2; omega
            · rw [if_pos (zbt0 hf)]
              exact go h (-1) G0 (Or.inl rfl)
          · obtain ⟨g1, eth, G1⟩ := zthan ka kb hma hmb (show zM h ≤ 6700000 by omega)
            rw [zrk_n hma, zrk_n hmb] at hlt2
            rw [if_pos (fun x => hmb ((ztd_mi kb).mp x))]
            by_cases hd : down = true
            · rw [if_pos hd, if_pos hd] at hlt2
              have e5 : zcm (T.ky c (o (k - 1))) (T.ky c (o k)) = 1 := by
                unfold zcm
                rw [if_neg (by rw [zl_t]; omega), if_neg hab]
              rw [e5] at eth
              rw [if_neg (zb1 hd), ze_b w.is, ze_b3 kd, ze_b2 eth]
              exact go g1 _ G1 (Or.inl rfl)
            · rw [if_neg hd, if_neg hd] at hlt2
              have e5 : zcm (T.ky c (o (k - 1))) (T.ky c (o k)) = -1 := by
                unfold zcm
                rw [if_pos (by rw [zl_t]; omega)]
              rw [e5] at eth
              rw [if_pos (zbt0 hd), ze_b w.is, ze_b3 kd, ze_b2 eth]
              exact go g1 _ G1 (Or.inl rfl)
    · rw [if_pos (nI_le hge (by omega))]
      exact ⟨h, rfl, r, w, by omega⟩
theorem zso93 {K : Nat → Nat → Int32 → Int32 → Int32 → zx_H → Option ((Int32 ⊕ Nat) × zx_H)} {p2 p3 p4 p5 p6 p7 : Int32} {q10 : Nat} (wT : zWF T) (ho : zPerm o T.nr) (h12 : 177 ≤ q9) (l8 : q8 ≤ 600000) (l10 : q10 ≤ 600000) (n8 : q8 ≠ q9) (n10 : q10 ≠ q9) : ∀ n k h, k ≤ T.nr → T.nr - k < n → zOa h q8 T.nr T.od → zOa h q10 T.nr o → zPl h q9 T.nr k T.od → ∃ g, f_ColumnVaultLaw_isSorted_93 K n 1 0 p2 p3 p4 p5 p6 p7 q8 (nI (fb_ct (fun p => decide (o p ≠ T.od p)) T.nr)) q10 (nI (fb_ct (fun p => decide (o p ≠ T.od p)) k)) q9 (nI k) h = f_ColumnVaultLaw_isSorted_158 K zF 1 0 p2 p3 p4 p5 p6 p7 q10 q9 (1 : Int32) g ∧ zOa g q10 T.nr o ∧ zPl g q9 T.nr T.nr T.od ∧ zU q9 1 h g := by
  have h40 := wT.r40
  have hle := fb_ct_le (fun p => decide (o p ≠ T.od p)) T.nr
  intro n
  induction n with
  | zero => intro k _ _ hn; exact absurd hn (Nat.not_lt_zero _)
  | succ n ih =>
    intro k h hk hn z8 z10 z9
    unfold f_ColumnVaultLaw_isSorted_93
    rw [ze_b (z8.len l8)]
    rcases Nat.lt_or_ge k T.nr with hlt | hge
    · obtain ⟨g1, e1, z91, U1⟩ := z9.st hlt wT.p h40
      have G1 := zG_U U1 (a := q9) (b := q9 + 1) (Nat.le_refl _) (Nat.le_refl _)
      have z81 := z8.G G1 (by omega)
      have z101 := z10.G G1 (by omega)
      obtain ⟨g, e2, a1, a2, U2⟩ := ih (k + 1) g1 hlt (by omega) z81 z101 z91
      refine ⟨g, ?_, a1, a2, zU_t U1 U2⟩
      have ho1 := wT.o hlt
      have ho2 := ho.1 k hlt
      rw [if_neg (nI_ge hlt (by omega)), ze_b (z8.ld hlt (by omega) l8), ze_b e1, ze_b (z81.ld hlt (by omega) l8), ze_b (z101.ld hlt (by omega) l10)]
      rw [fb_ct_succ] at e2
      by_cases e : T.od k = o k
      · rw [decide_eq_false (show ¬ o k ≠ T.od k from fun x => x e.symm), if_neg (by decide), Nat.add_zero] at e2
        rw [if_pos (by rw [e]), Int32.add_zero, nI_1]
        exact e2
      · rw [decide_eq_true (show o k ≠ T.od k from fun x => e x.symm), if_pos rfl] at e2
        rw [if_neg (by rw [nI_eq (by omega) (by omega)]; exact e), nI_1, nI_1]
        exact e2
    · have e : k = T.nr := Nat.le_antisymm hk hge
      subst e
      have h1 := zord_n1 wT.p ho
      rw [if_pos (nI_le (Nat.le_refl _) (by omega)), if_neg (fun x => x rfl), if_pos (show ¬ nI (fb_ct (fun p => decide (o p ≠ T.od p)) T.nr) = (1 : Int32) from fun x => h1 ((nI_eq (b := 1) (by omega) (by decide)).mp x))]
      exact ⟨h, rfl, z10, z9, zU_r⟩
/-- one sort -/
theorem zso51 {K : Nat → Nat → Int32 → Int32 → Int32 → zx_H → Option ((Int32 ⊕ Nat) × zx_H)} {p3 p4 : Int32} (r : zR h) (w : zWd h now ver tx pr gr) (ht : t < 3) (hc : c < (ver now t).nc) (hN : now < 90000) (hB : zM h ≤ 6500000) : ∃ g ver', f_ColumnVaultLaw_isSorted_51 K 1 0 (nI t) p3 p4 (nI c) (zb down) (zb first) h = K 1 0 (nI t) p3 (p4 + (1 : Int32)) g ∧ zR g ∧ zWd g (now + 1) ver' tx pr gr ∧ zSp t 1 9000 h now ver g (now + 1) ver' ∧ (ver' (now + 1) t).nc = (ver now t).nc ∧ (ver' (now + 1) t).kd = (ver now t).kd ∧ (ver' (now + 1) t).nr = (ver now t).nr := by
  have h40 := (w.T ht).r40
  have hwl := w.len
  have hl := zlen (h := h) (by omega)
  obtain ⟨g1, e1, z1, G1, l1⟩ := w.order ht (by omega)
  have w1 := w.G G1 (Or.inr (by decide))
  have r1 := r.G G1 (Or.inr rfl)
  have m1 := G1.m
  obtain ⟨g2, o', e2, w2, p2, s2, U2⟩ := w1.sort (by omega) ht hc down first
  have G2 := zU_G U2
  have r2 := r1.U U2
  have m2 := G2.m
  have z2 := z1.G G2 (Or.inr (by omega))
  obtain ⟨g3, e3, z3, G3, l3⟩ := w2.order ht (by omega)
  have w3 := w2.G G3 (Or.inr (by decide))
  have r3 := r2.G G3 (Or.inr rfl)
  have m3 := G3.m
  have hl2 := zlen (h := g2) (by omega)
  have hl3 := zlen (h := g3) (by omega)
  have lu := U2.1
  have zb3 := z2.G G3 (Or.inr (Nat.zero_le _))
  have hT : zvc ver now t (zKO (ver now t) (ver now t).ky o') (now + 1) t = zKO (ver now t) (ver now t).ky o' := zvc_t
  rw [hT] at z3
  have z3 : zOa g3 g2.length (ver now t).nr o' := z3
  have hn := zh_newI (g := g3) (r := []) (n := (ver now t).nr) (by show g3.length + 0 < 600000; have := zM_l (h := g3); omega) (by omega)
  rw [List.append_nil] at hn
  have hn : zf_newa .int 1 (nI (ver now t).nr) g3 = some (g3.length, g3 ++ [.inl (1, (ver now t).nr, .inl fun _ => 0)]) := hn
  have G4 : zG (12 + (ver now t).nr) 0 0 g3 (g3 ++ [.inl (1, (ver now t).nr, .inl fun _ => 0)]) := zG_app (c := .inl (1, (ver now t).nr, .inl fun _ => 0))
  have z4 : zPl (g3 ++ [.inl (1, (ver now t).nr, .inl fun _ => 0)]) g3.length (ver now t).nr 0 (ver now t).od := ⟨_, zG_end, fun k hk => absurd hk (Nat.not_lt_zero _)⟩
  generalize g3 ++ [(.inl (1, (ver now t).nr, .inl fun _ => 0) : zx_E)] = g4 at hn G4 z4
  have w4 := w3.G G4 (Or.inr (by decide))
  have r4 := r3.G G4 (Or.inr rfl)
  have m4 := G4.m
  obtain ⟨g5, e5, z5, z5', U5⟩ := zso93 (K := K) (p2 := nI t) (p3 := p3) (p4 := p4) (p5 := nI c) (p6 := zb down) (p7 := zb first) (q8 := h.length) (q9 := g3.length) (q10 := g2.length) (w.F ht) p2 (by omega) hl hl2 (by omega) (by omega) zF 0 g4 (Nat.zero_le _) (by unfold zF; omega) (zb3.G G4 (Or.inr (Nat.zero_le _))) (z3.G G4 (Or.inr (Nat.zero_le _))) z4
  have G5 := zG_U U5 (a := g3.length) (b := g3.length + 1) (Nat.le_refl _) (Nat.le_refl _)
  have w5 := w4.G G5 (Or.inl (by omega))
  have r5 := r4.G G5 (Or.inl (by omega))
  have m5 := G5.m
  obtain ⟨g6, e6, r6, w6, m6⟩ := zso158 (K := K) (p3 := p3) (p4 := p4) (q8 := g2.length) (q9 := g3.length) ht hT (w.F ht) hc p2 s2 (by omega) (by omega) hl2 hl3 zF 1 g5 (Nat.le_refl _) (by decide) (by unfold zF; omega) r5 w5 z5 z5' (by omega)
  have e6 : f_ColumnVaultLaw_isSorted_158 K zF 1 0 (nI t) p3 p4 (nI c) (zb down) (zb first) g2.length g3.length (1 : Int32) g5 = _ := e6
  rw [show fb_ct (fun p => decide (o' p ≠ (ver now t).od p)) 0 = 0 from rfl, nI_0] at e5
  refine ⟨g6, _, ?_, r6, w6, ⟨by omega, Nat.le_refl _, by omega, fun t' h' => zvc_o h'⟩, by rw [hT]; rfl, by rw [hT]; rfl, by rw [hT]; rfl⟩
  unfold f_ColumnVaultLaw_isSorted_51
  rw [ze_b3 e1, ze_b w1.is, ze_b3 e2, ze_b3 e3, ze_b (z3.len hl2), ze_b2 hn, e5]
  exact e6
theorem zsorted (r : zR h) (w : zWd h now ver tx pr gr) (ht : t < 3) (h1 : 1 ≤ (ver now t).nc) (hN : now < 80000) (hB : zM h ≤ 6400000) : ∃ g now' ver', f_ColumnVaultLaw_isSorted 1 0 (nI t) h = some (.inl 1, g) ∧ zR g ∧ zWd g now' ver' tx pr gr ∧ zSp t 2 18000 h now ver g now' ver' ∧ (ver' now' t).nc = (ver now t).nc ∧ (ver' now' t).kd = (ver now t).kd ∧ (ver' now' t).nr = (ver now t).nr := by
  have h4 := (w.T ht).c4
  have key : ∀ n i h now ver, i ≤ 2 → 2 - i < n → zR h → zWd h now ver tx pr gr → 1 ≤ (ver now t).nc → now + (2 - i) < 80010 → zM h + 9000 * (2 - i) ≤ 6450000 → ∃ g now' ver', f_ColumnVaultLaw_isSorted_10 n 1 0 (nI t) (nI (ver now t).nc) (nI i) h = some (.inl 1, g) ∧ zR g ∧ zWd g now' ver' tx pr gr ∧ zSp t (2 - i) (9000 * (2 - i)) h now ver g now' ver' ∧ (ver' now' t).nc = (ver now t).nc ∧ (ver' now' t).kd = (ver now t).kd ∧ (ver' now' t).nr = (ver now t).nr := by
    intro n
    induction n with
    | zero => intro i _ _ _ _ hn; exact absurd hn (Nat.not_lt_zero _)
    | succ n ih =>
      intro i h now ver hi hn r w h1 hN hB
      have h4 := (w.T ht).c4
      unfold f_ColumnVaultLaw_isSorted_10
      rcases Nat.lt_or_ge i 2 with hlt | hge
      · obtain ⟨c, g1, hc, e1, r1, w1, G1⟩ := zdrawW r w (n := (ver now t).nc) (by omega) (by omega)
        obtain ⟨d, g2, hd, e2, r2, w2, G2⟩ := zdrawW r1 w1 (n := 2) (by decide) (by decide)
        obtain ⟨f, g3, hf, e3, r3, w3, G3⟩ := zdrawW r2 w2 (n := 2) (by decide) (by decide)
        have m1 := G1.m
        have m2 := G2.m
        have m3 := G3.m
        have e2 : f_ColumnVaultLaw_draw 0 (2 : Int32) g1 = _ := e2
        have e3 : f_ColumnVaultLaw_draw 0 (2 : Int32) g2 = _ := e3
        have go : ∀ down first : Bool, ∃ g now' ver', f_ColumnVaultLaw_isSorted_51 (f_ColumnVaultLaw_isSorted_10 n) 1 0 (nI t) (nI (ver now t).nc) (nI i) (nI c) (zb down) (zb first) g3 = some (.inl 1, g) ∧ zR g ∧ zWd g now' ver' tx pr gr ∧ zSp t (2 - i) (9000 * (2 - i)) h now ver g now' ver' ∧ (ver' now' t).nc = (ver now t).nc ∧ (ver' now' t).kd = (ver now t).kd ∧ (ver' now' t).nr = (ver now t).nr := by
          intro down first
          obtain ⟨g4, ver4, e4, r4, w4, s4, c4, k4, n4⟩ := zso51 (K := f_ColumnVaultLaw_isSorted_10 n) (p3 := nI (ver now t).nc) (p4 := nI i) (down := down) (first := first) r3 w3 ht hc (by omega) (by omega)
          have b4 := s4.2.2.1
          obtain ⟨g5, now5, ver5, e5, r5, w5, s5, c5, k5, n5⟩ := ih (i + 1) g4 (now + 1) ver4 hlt (by omega) r4 w4 (by omega) (by omega) (by omega)
          rw [c4] at e5
          refine ⟨g5, now5, ver5, ?_, r5, w5, ((((zSp.g G1).t (zSp.g G2)).t (zSp.g G3)).t (s4.t s5)).w (by omega) (by omega), c5.trans c4, k5.trans k4, n5.trans n4⟩
          rw [e4, nI_1]
          exact e5
        rw [if_neg (show ¬ (2 : Int32) ≤ nI i from nI_ge (b := 2) hlt (by decide)), ze_b2 e1, ze_b2 e2]
        by_cases hd0 : d = 0
        · rw [if_neg (fun x => x (by rw [hd0]; rfl)), ze_b2 e3]
          by_cases hf0 : f = 0
          · rw [if_neg (fun x => x (by rw [hf0]; rfl))]
            exact go true true
          · rw [if_pos (nI_ne0 (by omega) (by omega))]
            exact go true false
        · rw [if_pos (nI_ne0 (by omega) (by omega)), ze_b2 e3]
          by_cases hf0 : f = 0
          · rw [if_neg (fun x => x (by rw [hf0]; rfl))]
            exact go false true
          · rw [if_pos (nI_ne0 (by omega) (by omega))]
            exact go false false
      · obtain ⟨g, e, w2, G2⟩ := w.errors ht
        rw [if_pos (show (2 : Int32) ≤ nI i from nI_le (a := 2) hge (by omega)), ze_b w.is, ze_b3 e, if_neg (fun x => x rfl)]
        exact ⟨g, now, ver, rfl, r.G G2 (Or.inl (by decide)), w2, (zSp.g G2).w (by omega) (by omega), rfl, rfl, rfl⟩
  obtain ⟨g, now', ver', e, a1, a2, a3, a4, a5, a6⟩ := key zF 0 h now ver (Nat.zero_le _) (by unfold zF; omega) r w h1 (by omega) (by omega)
  refine ⟨g, now', ver', ?_, a1, a2, a3, a4, a5, a6⟩
  rw [nI_0] at e
  unfold f_ColumnVaultLaw_isSorted
  rw [ze_b w.is, ze_b3 (w.size1 ht)]
  exact e
end ZSD

/-! ===== isRemoved ===== -/
section ZRM
variable {h g j : zx_H} {now : Nat} {ver : Nat → Nat → zT} {tx : List Nat} {pr : Nat × (Nat → Nat) × (Nat → Int32)} {gr : zT × Nat × Nat × (Nat → Int64) × (Nat → Nat → Bool)} {t k a b p2 p3 q : Nat} {F : Nat → Nat → Int64}
theorem zrm220 (w : zWd h now ver tx pr gr) (ht : t < 3) {p5 p6 : Int32} {K : Nat → Int32 → Nat → Nat → Nat → Int32 → Int32 → Int32 → zx_H → Option ((Int32 ⊕ Nat) × zx_H)} {N k k2 : Nat} (z : zLL h q N (ver now t).nc F) (hk : k < N) (hN : N ≤ 40) (hq : q ≤ 600000) (hk2 : k2 < (ver now t).nr) (hF : ∀ c, c < (ver now t).nc → F k c = zVl (ver now t) k2 c) : ∀ n c, c ≤ (ver now t).nc → (ver now t).nc - c < n → f_ColumnVaultLaw_isRemoved_220 K n 1 (nI t) p2 p3 q p5 p6 (nI k) (nI k2) (nI c) h = K 1 (nI t) p2 p3 q p5 p6 (nI (k + 1)) h := by
  have h4 := (w.T ht).c4
  intro n
  induction n with
  | zero => intro c _ hn; exact absurd hn (Nat.not_lt_zero _)
  | succ n ih =>
    intro c hc hn
    unfold f_ColumnVaultLaw_isRemoved_220
    have ld := z.row hk (by omega)
    rw [ze_b ld, ze_b (z.rlen hk (by omega))]
    rcases Nat.lt_or_ge c (ver now t).nc with hlt | hge
    · rw [if_neg (nI_ge hlt (by omega)), ze_b w.is, ze_b3 (w.get ht hlt hk2), ze_b ld, ze_b (z.ld hk hlt (by omega)), if_pos (hF c hlt).symm, nI_1]
      exact ih (c + 1) hlt (by omega)
    · rw [if_pos (nI_le hge (by omega)), nI_1]
theorem zrm181 (w : zWd h now ver tx pr gr) (ht : t < 3) {p5 p6 : Int32} {K : Nat → Int32 → Nat → Nat → Nat → Int32 → Int32 → Int32 → zx_H → Option ((Int32 ⊕ Nat) × zx_H)} {N k k2 : Nat} {C : Nat → Bool} (z : zLL h q N (ver now t).nc F) (zc : zBa h p3 N C) (hk : k < N) (hN : N ≤ 40) (hq : q ≤ 600000) (hk2 : k2 < (ver now t).nr) (hF : ∀ c, c < (ver now t).nc → F k c = zVl (ver now t) k2 c) (hC : C k = (ver now t).ch k2) : f_ColumnVaultLaw_isRemoved_181 K 1 (nI t) p2 p3 q p5 p6 (nI k) (nI k2) h = K 1 (nI t) p2 p3 q p5 p6 (nI (k + 1)) h := by
  have h40 := (w.T ht).r40
  have hp := zpl_r (w.F ht).p hk2
  unfold f_ColumnVaultLaw_isRemoved_181
  rw [ze_b w.is, ze_b3 (w.isChosen ht hk2), ze_b (zc.ld hk (by omega)), hC, if_neg (fun x => x rfl), ze_b w.is, ze_b3 (w.placeOf ht hk2), ze_b w.is, ze_b3 (w.rowAt ht hp.1), hp.2, if_pos rfl]
  have e := zrm220 (p2 := p2) (p3 := p3) (p5 := p5) (p6 := p6) (K := K) w ht z hk hN hq hk2 hF zF 0 (Nat.zero_le _) (by have := (w.T ht).c4; unfold zF; omega)
  rw [nI_0] at e
  exact e
/-- a new row's values are missing -/
theorem zrm314 (w : zWd h now ver tx pr gr) (ht : t < 3) {v row : Nat} (hv : now = v + 2) (hrow : row < (ver now t).nr) (hm : ∀ c, c < (ver now t).nc → (ver now t).ky c row = -9000000000) : ∀ n c, c ≤ (ver now t).nc → (ver now t).nc - c < n → f_ColumnVaultLaw_isRemoved_314 n 1 (nI t) (nI v) (nI row) 1 (nI c) h = some (.inl 1, h) := by
  have h4 := (w.T ht).c4
  intro n
  induction n with
  | zero => intro c _ hn; exact absurd hn (Nat.not_lt_zero _)
  | succ n ih =>
    intro c hc hn
    unfold f_ColumnVaultLaw_isRemoved_314
    rw [ze_b w.is, ze_b3 (w.size1 ht)]
    rcases Nat.lt_or_ge c (ver now t).nc with hlt | hge
    · have e : zVl (ver now t) row c = -9000000000 := by
        unfold zVl
        rw [hm c hlt, ztd_m]
      rw [if_neg (nI_ge hlt (by omega)), ze_b w.is, ze_b3 (w.get ht hlt hrow), e, if_neg (fun x => x rfl), nI_1]
      exact ih (c + 1) hlt (by omega)
    · rw [if_pos (nI_le hge (by omega)), if_neg (by decide), ze_b w.is, ze_b2 w.version, if_neg (fun x => x (by rw [hv, show (2 : Int32) = nI 2 from rfl, nI_add]))]
/-- what stays of each row -/
theorem zrm147 {T : zT} {gone v : Nat} (r : zR h) (w : zWd h now ver tx pr gr) (ht : t < 3) (hT : ver now t = zDrop T gone) (wT : zWF T) (hg : gone < T.nr) (hv : now = v + 1) (hN : now < 90000) (zo : zOa h p2 T.nr T.od) (hp148 : 148 ≤ p2) (hp2 : p2 ≤ 600000) (z : zLL h q T.nr T.nc (zVl T)) (hq : q ≤ 600000) (zc : zBa h p3 T.nr T.ch) : ∀ n k, k ≤ T.nr → T.nr - k < n → ∃ g, f_ColumnVaultLaw_isRemoved_147 n 1 (nI t) p2 p3 q (nI gone) (nI v) (nI k) h = some (.inl 1, g) ∧ zR g ∧ zWd g (now + 1) (zvc ver now t (zRow (zDrop T gone))) tx pr gr ∧ zU 2 146 h g := by
  have h40 := wT.r40
  have n1 : (ver now t).nr = T.nr - 1 := by rw [hT]; rfl
  have c1 : (ver now t).nc = T.nc := by rw [hT]; rfl
  intro n
  induction n with
  | zero => intro k _ hn; exact absurd hn (Nat.not_lt_zero _)
  | succ n ih =>
    intro k hk hn
    unfold f_ColumnVaultLaw_isRemoved_147
    rw [ze_b (z.len hq)]
    rcases Nat.lt_or_ge k T.nr with hlt | hge
    · obtain ⟨g, e, rg, wg, U⟩ := ih (k + 1) hlt (by omega)
      refine ⟨g, ?_, rg, wg, U⟩
      rw [if_neg (nI_ge hlt (by omega))]
      by_cases hz : k = gone
      · rw [if_neg (fun x => x (by rw [hz])), nI_1]
        exact e
      · rw [if_pos (by rw [nI_eq (by omega) (by omega)]; exact hz)]
        have z' : zLL h q T.nr (ver now t).nc (zVl T) := by rw [c1]; exact z
        by_cases hle : k ≤ gone
        · have e1 := zrm181 (p2 := p2) (p3 := p3) (p5 := nI gone) (p6 := nI v) (K := f_ColumnVaultLaw_isRemoved_147 n) (k := k) (k2 := k) w ht z' zc hlt (by omega) hq (by omega) (fun c hc => by
            rw [hT]
            show ztd (T.kd c) (T.ky c k) = ztd (T.kd c) (if k < gone then T.ky c k else T.ky c (k + 1))
            rw [if_pos (by omega)]) (by
            rw [hT]
            show T.ch k = (if k < gone then T.ch k else T.ch (k + 1))
            rw [if_pos (by omega)])
          rw [if_pos (nI_le hle (by omega)), e1]
          exact e
        · have e1 := zrm181 (p2 := p2) (p3 := p3) (p5 := nI gone) (p6 := nI v) (K := f_ColumnVaultLaw_isRemoved_147 n) (k := k) (k2 := k - 1) w ht z' zc hlt (by omega) hq (by omega) (fun c hc => by
            rw [hT]
            show ztd (T.kd c) (T.ky c k) = ztd (T.kd c) (if k - 1 < gone then T.ky c (k - 1) else T.ky c (k - 1 + 1))
            rw [if_neg (by omega), show k - 1 + 1 = k by omega]) (by
            rw [hT]
            show T.ch k = (if k - 1 < gone then T.ch (k - 1) else T.ch (k - 1 + 1))
            rw [if_neg (by omega), show k - 1 + 1 = k by omega])
          rw [if_neg (nI_ge (by omega) (by omega)), show nI k - (1 : Int32) = nI (k - 1) from pk_sub (a := k) (b := 1) (by omega), e1]
          exact e
    · obtain ⟨g, e1, wg, U⟩ := w.addRow (by omega) ht (by omega)
      have rg := r.U U
      have G := zU_G U
      rw [hT] at wg
      have ew : zvc ver now t (zRow (zDrop T gone)) (now + 1) t = zRow (zDrop T gone) := zvc_t
      have nw : (zvc ver now t (zRow (zDrop T gone)) (now + 1) t).nr = T.nr - 1 + 1 := by rw [ew]; rfl
      refine ⟨g, ?_, rg, wg, U⟩
      have hlen : zf_len p2 g = some (nI T.nr) := (zo.G G (Or.inr hp148)).len hp2
      rw [if_pos (nI_le hge (by omega)), ze_b w.is, ze_b3 e1, ze_b hlen, n1]
      have e2 : nI T.nr - (1 : Int32) = nI (T.nr - 1) := pk_sub (a := T.nr) (b := 1) (by omega)
      have hrow : T.nr - 1 < (zvc ver now t (zRow (zDrop T gone)) (now + 1) t).nr := by omega
      have pl : zpl (zvc ver now t (zRow (zDrop T gone)) (now + 1) t).od (T.nr - 1) (zvc ver now t (zRow (zDrop T gone)) (now + 1) t).nr = T.nr - 1 := by
        have e3 : (zvc ver now t (zRow (zDrop T gone)) (now + 1) t).od (T.nr - 1) = T.nr - 1 := by
          rw [ew]
          show (if T.nr - 1 = T.nr - 1 then T.nr - 1 else _) = _
          rw [if_pos rfl]
        have e4 := zpl_p (wg.F ht).p hrow
        rw [e3] at e4
        exact e4
      have ch : (zvc ver now t (zRow (zDrop T gone)) (now + 1) t).ch (T.nr - 1) = true := by
        rw [ew]
        show (if T.nr - 1 = T.nr - 1 then true else _) = _
        rw [if_pos rfl]
      have e5 := zrm314 wg ht (v := v) (row := T.nr - 1) (by omega) hrow (fun c hc => by
        rw [ew]
        show (if T.nr - 1 = T.nr - 1 then (-9000000000 : Int64) else _) = _
        rw [if_pos rfl]) zF 0 (Nat.zero_le _) (by have := (wg.T ht).c4; unfold zF; omega)
      rw [nI_0] at e5
      rw [e2, if_neg (fun x => x rfl), ze_b wg.is, ze_b3 (wg.placeOf ht hrow), pl, if_neg (fun x => x rfl), ze_b wg.is, ze_b3 (wg.isChosen ht hrow), ch, if_neg (by decide)]
      exact e5
/-- the order of the others -/
theorem zrm86 {T : zT} {gone v : Nat} (w : zWd h now ver tx pr gr) (ht : t < 3) (hT : ver now t = zDrop T gone) (wT : zWF T) (hg : gone < T.nr) (zo : zOa h p2 T.nr T.od) (hp2 : p2 ≤ 600000) : ∀ n i, i ≤ T.nr → T.nr - i < n → f_ColumnVaultLaw_isRemoved_86 n 1 (nI t) p2 p3 q (nI gone) (nI v) (nI (if i ≤ zpl T.od gone T.nr then i else i - 1)) p2 (nI T.nr) (nI i) h = f_ColumnVaultLaw_isRemoved_147 zF 1 (nI t) p2 p3 q (nI gone) (nI v) (0 : Int32) h := by
  have h40 := wT.r40
  have hpl := zpl_r wT.p hg
  have n1 : (ver now t).nr = T.nr - 1 := by rw [hT]; rfl
  intro n
  induction n with
  | zero => intro k _ hn; exact absurd hn (Nat.not_lt_zero _)
  | succ n ih =>
    intro i hi hn
    unfold f_ColumnVaultLaw_isRemoved_86
    rcases Nat.lt_or_ge i T.nr with hlt | hge
    · have h1 := ih (i + 1) hlt (by omega)
      have ho := wT.o hlt
      rw [if_neg (nI_ge hlt (by omega)), ze_b (zo.ld hlt (by omega) hp2)]
      by_cases hz : i = zpl T.od gone T.nr
      · have e : T.od i = gone := by rw [hz]; exact hpl.2
        rw [e, if_pos rfl, nI_1]
        rw [if_neg (by omega), show i + 1 - 1 = i by omega] at h1
        rw [if_pos (by omega)]
        exact h1
      · have hne : T.od i ≠ gone := fun x => hz (by rw [← x]; exact (zpl_p wT.p hlt).symm)
        rw [if_neg (by rw [nI_eq (by omega) (by omega)]; exact hne), ze_b w.is]
        have hpp : (if i ≤ zpl T.od gone T.nr then i else i - 1) < (ver now t).nr := by
          by_cases c : i ≤ zpl T.od gone T.nr
          · rw [if_pos c]; omega
          · rw [if_neg c]; omega
        have hnx : (if i + 1 ≤ zpl T.od gone T.nr then i + 1 else i + 1 - 1) = (if i ≤ zpl T.od gone T.nr then i else i - 1) + 1 := by
          by_cases c : i ≤ zpl T.od gone T.nr
          · rw [if_pos c, if_pos (by omega)]
          · rw [if_neg c, if_neg (by omega)]; omega
        have hod : (ver now t).od (if i ≤ zpl T.od gone T.nr then i else i - 1) = if gone < T.od i then T.od i - 1 else T.od i := by
          rw [hT]
          show zDO T.od gone (zpl T.od gone T.nr) _ = _
          unfold zDO
          have e9 : (if (if i ≤ zpl T.od gone T.nr then i else i - 1) < zpl T.od gone T.nr then (if i ≤ zpl T.od gone T.nr then i else i - 1) else (if i ≤ zpl T.od gone T.nr then i else i - 1) + 1) = i := by
            by_cases c : i ≤ zpl T.od gone T.nr
            · rw [if_pos c, if_pos (by omega)]
            · rw [if_neg c, if_neg (by omega)]; omega
          rw [e9]
        rw [hnx] at h1
        rw [ze_b3 (w.rowAt ht hpp), hod, nI_1, nI_1]
        by_cases c : T.od i ≤ gone
        · rw [if_pos (nI_le c (by omega)), if_neg (show ¬ gone < T.od i by omega), if_pos rfl]
          exact h1
        · rw [if_neg (nI_ge (show gone < T.od i by omega) (by omega)), if_pos (show gone < T.od i by omega), if_pos (show nI (T.od i - 1) = nI (T.od i) - (1 : Int32) from (pk_sub (a := T.od i) (b := 1) (by omega)).symm)]
          exact h1
    · rw [if_pos (nI_le hge (by omega))]
theorem zremoved (r : zR h) (w : zWd h now ver tx pr gr) (ht : t < 3) (hN : now < 80000) (hB : zM h ≤ 6500000) : ∃ g now' ver', f_ColumnVaultLaw_isRemoved 1 0 (nI t) h = some (.inl 1, g) ∧ zR g ∧ zWd g now' ver' tx pr gr ∧ zSp t 2 1000 h now ver g now' ver' ∧ (ver' now' t).nc = (ver now t).nc ∧ (ver' now' t).kd = (ver now t).kd ∧ (ver' now' t).nr = (ver now t).nr := by
  have h40 := (w.T ht).r40
  unfold f_ColumnVaultLaw_isRemoved
  rw [ze_b w.is, ze_b3 (w.size0 ht)]
  by_cases hz : (ver now t).nr = 0
  · rw [if_neg (fun x => x (by rw [hz]; rfl))]
    exact ⟨h, now, ver, rfl, r, w, zSp.r.w (by omega) (by omega), rfl, rfl, rfl⟩
  · have hwl := w.len
    obtain ⟨g1, e1, zo1, G1, l1⟩ := w.order ht (by omega)
    have m1 := G1.m
    have w1 := w.G G1 (Or.inr (by decide))
    obtain ⟨g2, e2, zc2, G2, l2⟩ := w1.choice ht (by omega)
    have m2 := G2.m
    have w2 := w1.G G2 (Or.inr (by decide))
    have zo2 := zo1.G G2 (Or.inr (Nat.zero_le _))
    obtain ⟨g3, e3, zl3, G3, l3⟩ := w2.rows ht (by omega)
    have m3 := G3.m
    have w3 := w2.G G3 (Or.inr (by decide))
    have zo3 := zo2.G G3 (Or.inr (Nat.zero_le _))
    have zc3 := zc2.G G3 (Or.inr (Nat.zero_le _))
    have r3 := ((r.G G1 (Or.inr rfl)).G G2 (Or.inr rfl)).G G3 (Or.inr rfl)
    obtain ⟨gone, g4, hg, e4, r4, w4, G4⟩ := zdrawW r3 w3 (n := (ver now t).nr) (by omega) (by omega)
    have m4 := G4.m
    have zo4 := zo3.G G4 (Or.inr (by omega))
    have zc4 := zc3.G G4 (Or.inr (by omega))
    have zl4 := zl3.G G4 (Or.inr (by omega))
    obtain ⟨g5, e5, w5, U5⟩ := w4.remove (by omega) ht hg
    have G5 := zU_G U5
    have m5 := G5.m
    have r5 := r4.U U5
    have zo5 := zo4.G G5 (Or.inr (by omega))
    have zc5 := zc4.G G5 (Or.inr (by omega))
    have zl5 := zl4.G G5 (Or.inr (by omega))
    have hl3 := zlen (h := g3) (by omega)
    have hT : zvc ver now t (zDrop (ver now t) gone) (now + 1) t = zDrop (ver now t) gone := zvc_t
    obtain ⟨g6, e6, r6, w6, U6⟩ := zrm147 (p2 := h.length) (p3 := g1.length) (q := g2.length) (v := now) r5 w5 ht hT (w.F ht) hg rfl (by omega) zo5 (by omega) (by omega) zl5 (by omega) zc5 zF 0 (Nat.zero_le _) (by unfold zF; omega)
    have e7 := zrm86 (p2 := h.length) (p3 := g1.length) (q := g2.length) (v := now) w5 ht hT (w.F ht) hg zo5 (by omega) zF 0 (Nat.zero_le _) (by unfold zF; omega)
    rw [if_pos (Nat.zero_le _), nI_0] at e7
    rw [nI_0] at e6
    rw [e6] at e7
    have s6 := ((((((zSp.g (u := t) (n1 := now) (v1 := ver) G1).t (zSp.g G2)).t (zSp.g G3)).t (zSp.g G4)).t (zSp.c (T := zDrop (ver now t) gone) U5))).t (zSp.c (u := t) (T := zRow (zDrop (ver now t) gone)) U6)
    have n6 : (zvc (zvc ver now t (zDrop (ver now t) gone)) (now + 1) t (zRow (zDrop (ver now t) gone)) (now + 1 + 1) t) = zRow (zDrop (ver now t) gone) := zvc_t
    refine ⟨g6, now + 1 + 1, _, ?_, r6, w6, s6.w (by omega) (by omega), by rw [n6]; rfl, by rw [n6]; rfl, by rw [n6]; show (ver now t).nr - 1 + 1 = _; omega⟩
    have e8 : nI (ver now t).nr - (1 : Int32) = nI ((ver now t).nr - 1) := pk_sub (a := (ver now t).nr) (b := 1) (by omega)
    rw [if_pos (nI_ne0 (by omega) (by omega)), ze_b3 e1, ze_b3 e2, ze_b3 e3, ze_b (zo3.len (by omega)), ze_b2 e4, ze_b w4.is, ze_b2 w4.version, ze_b w4.is, ze_b3 e5, ze_b (zo5.len (by omega)), e8, if_neg (fun x => x rfl), ze_b w5.is, ze_b2 w5.version, if_pos (nI_1 now).symm, ze_b (zo5.len (by omega))]
    exact e7
end ZRM

/-! ===== isTold: the middle, and all ===== -/
section ZTG
variable {h : zx_H} {now : Nat} {ver : Nat → Nat → zT} {tx : List Nat} {pr : Nat × (Nat → Nat) × (Nat → Int32)} {gr : zT × Nat × Nat × (Nat → Int64) × (Nat → Nat → Bool)} {t c b p : Nat} {T : zT} {kf kt km : Int64}
theorem zb_and1 (x : Bool) : zb x &&& (1 : Int32) = zb x := by cases x <;> decide
theorem zb_and0 (x : Bool) : zb x &&& (0 : Int32) = zb false := by cases x <;> decide
/-- none of the rows ahead of s has the value -/
def zNv (T : zT) (c a s : Nat) : Bool := decide (∀ r, r < s → ¬ (T.ch r = true ∧ T.ky c r = T.ky c a))
theorem ztd723 (w : zWd h now ver tx pr gr) (hT : ver now t = T) (wT : zWF T) (ht : t < 3) (hc : c < T.nc) {a : Nat} (ha : a < T.nr) {K : Nat → Int32 → Int32 → Int32 → Int32 → Int32 → Int64 → Int32 → Int32 → Int32 → Int32 → zx_H → Option ((Int32 ⊕ Nat) × zx_H)} {p3 p4 p5 : Int32} {p6 : Int64} {p7 p8 : Int32} {d : Nat} : ∀ n s, s ≤ a → a - s < n → f_ColumnVaultLaw_isTold_723 K n 1 (nI t) (nI c) p3 p4 p5 p6 p7 p8 (nI d) (nI a) (zVl T a c) (zb (zNv T c a s)) (nI s) h = K 1 (nI t) (nI c) p3 p4 p5 p6 p7 p8 (nI (d + (if zNw T c a = true then 1 else 0))) (nI (a + 1)) h := by
  subst hT
  have h40 := wT.r40
  intro n
  induction n with
  | zero => intro s _ hn; exact absurd hn (Nat.not_lt_zero _)
  | succ n ih =>
    intro s hs hn
    unfold f_ColumnVaultLaw_isTold_723
    rcases Nat.lt_or_ge s a with hlt | hge
    · have h1 := ih (s + 1) hlt (by omega)
      have hs' : s < (ver now t).nr := by omega
      have hinj : zVl (ver now t) s c = zVl (ver now t) a c ↔ (ver now t).ky c s = (ver now t).ky c a := ztd_inj (wT.k hc hs') (wT.k hc ha)
      have keep : ¬ ((ver now t).ch s = true ∧ (ver now t).ky c s = (ver now t).ky c a) → zNv (ver now t) c a (s + 1) = zNv (ver now t) c a s := fun e => decide_eq_decide.mpr ⟨fun x r hr => x r (by omega), fun x r hr => by
        rcases Nat.lt_or_ge r s with y | y
        · exact x r y
        · rw [show r = s by omega]; exact e⟩
      rw [if_neg (nI_ge hlt (by omega)), ze_b w.is, ze_b3 (w.isChosen ht hs')]
      by_cases hch : (ver now t).ch s = true
      · rw [if_neg (zb1 hch), ze_b w.is, ze_b3 (w.get ht hc hs')]
        by_cases he : (ver now t).ky c s = (ver now t).ky c a
        · have e : zNv (ver now t) c a (s + 1) = false := decide_eq_false fun x => x s (Nat.lt_succ_self s) ⟨hch, he⟩
          rw [e] at h1
          rw [if_pos (hinj.mpr he), zb_and0, nI_1]
          exact h1
        · rw [keep (fun x => he x.2)] at h1
          rw [if_neg (fun x => he (hinj.mp x)), zb_and1, nI_1]
          exact h1
      · rw [keep (fun x => hch x.1)] at h1
        rw [if_pos (zbt0 hch), zb_and1, nI_1]
        exact h1
    · have e : s = a := Nat.le_antisymm hs hge
      subst e
      have e2 : zNv (ver now t) c s s = zNw (ver now t) c s := rfl
      rw [if_pos (nI_le (Nat.le_refl _) (by omega)), e2]
      by_cases hz : zNw (ver now t) c s = true
      · rw [if_neg (zb1 hz), if_pos hz, nI_1, nI_1]
      · rw [if_pos (zbt0 hz), if_neg hz, Int32.add_zero, nI_1]
        rfl
theorem ztd638 {o : Nat → Nat} {m : Nat} (hT : ver now t = T) (wT : zWF T) (ht : t < 3) (hc : c < T.nc) (hr : zRis T c T.ch o m) (h0 : 0 < m) (hm40 : m ≤ 40) : ∀ n a h, a ≤ T.nr → T.nr - a < n → zR h → zWd h now ver tx pr gr → zM h + 200 * (T.nr - a) + 1000 ≤ 6700000 → ∃ g, f_ColumnVaultLaw_isTold_638 n 1 (nI t) (nI c) (nI (T.kd c)) (nI T.nr) (nI m) (ztd (T.kd c) (T.ky c (o ((m - 1) / 2)))) (nI (fb_ct (fun r => zKn T c T.ch r && decide (T.ky c r < T.ky c (o ((m - 1) / 2)))) a)) (nI (fb_ct (fun r => zKn T c T.ch r && decide (T.ky c r = T.ky c (o ((m - 1) / 2)))) a)) (nI (fb_ct (fun r => zKn T c T.ch r && zNw T c r) a)) (nI a) h = some (.inl 1, g) ∧ zR g ∧ zWd g now ver tx pr gr ∧ zM g ≤ zM h + 200 * (T.nr - a) + 700 := by
  subst hT
  have h40 := wT.r40
  have hmid := hr.lt (show (m - 1) / 2 < m by omega)
  have kmok := wT.k hc hmid.1
  intro n
  induction n with
  | zero => intro a _ _ hn; exact absurd hn (Nat.not_lt_zero _)
  | succ n ih =>
    intro a h ha hn r w hB
    unfold f_ColumnVaultLaw_isTold_638
    rcases Nat.lt_or_ge a (ver now t).nr with hlt | hge
    · have ka := wT.k hc hlt
      have hmi : zVl (ver now t) a c = -9000000000 ↔ (ver now t).ky c a = -9000000000 := ztd_mi ka
      rw [if_neg (nI_ge hlt (by omega)), ze_b w.is, ze_b3 (w.get ht hc hlt), ze_b w.is, ze_b3 (w.isChosen ht hlt)]
      have skip : ¬ zKn (ver now t) c (ver now t).ch a = true → ∃ g, f_ColumnVaultLaw_isTold_638 n 1 (nI t) (nI c) (nI ((ver now t).kd c)) (nI (ver now t).nr) (nI m) (ztd ((ver now t).kd c) ((ver now t).ky c (o ((m - 1) / 2)))) (nI (fb_ct (fun r => zKn (ver now t) c (ver now t).ch r && decide ((ver now t).ky c r < (ver now t).ky c (o ((m - 1) / 2)))) a)) (nI (fb_ct (fun r => zKn (ver now t) c (ver now t).ch r && decide ((ver now t).ky c r = (ver now t).ky c (o ((m - 1) / 2)))) a)) (nI (fb_ct (fun r => zKn (ver now t) c (ver now t).ch r && zNw (ver now t) c r) a)) (nI (a + 1)) h = some (.inl 1, g) ∧ zR g ∧ zWd g now ver tx pr gr ∧ zM g ≤ zM h + 200 * ((ver now t).nr - a) + 700 := fun hk => by
        obtain ⟨g, e, r2, w2, m2⟩ := ih (a + 1) h hlt (by omega) r w (by omega)
        rw [fb_ct_succ, fb_ct_succ, fb_ct_succ, ts_nt hk, Bool.false_and, Bool.false_and, Bool.false_and, if_neg (by decide), Nat.add_zero, Nat.add_zero, Nat.add_zero] at e
        exact ⟨g, e, r2, w2, by omega⟩
      by_cases hch : (ver now t).ch a = true
      · rw [if_neg (zb1 hch)]
        by_cases hm : (ver now t).ky c a = -9000000000
        · rw [if_neg (fun x => x (hmi.mpr hm)), nI_1]
          exact skip (fun x => (zKn_1 x).2 hm)
        · have hk := zKn_2 hch hm
          obtain ⟨g1, e1, G1⟩ := zthan (h := h) ka kmok hm hmid.2.2 (by omega)
          have e1 : f_ColumnVaultLaw_than (nI ((ver now t).kd c)) (zVl (ver now t) a c) (ztd ((ver now t).kd c) ((ver now t).ky c (o ((m - 1) / 2)))) h = _ := e1
          have m1 := G1.m
          have w1 := w.G G1 (Or.inr (by decide))
          have r1 := r.G G1 (Or.inr rfl)
          obtain ⟨g, e, r2, w2, m2⟩ := ih (a + 1) g1 hlt (by omega) r1 w1 (by omega)
          rw [fb_ct_succ, fb_ct_succ, fb_ct_succ, hk, Bool.true_and, Bool.true_and, Bool.true_and] at e
          have hinj : zVl (ver now t) a c = ztd ((ver now t).kd c) ((ver now t).ky c (o ((m - 1) / 2))) ↔ (ver now t).ky c a = (ver now t).ky c (o ((m - 1) / 2)) := ztd_inj ka kmok
          have h723 : ∀ p7 p8, f_ColumnVaultLaw_isTold_723 (f_ColumnVaultLaw_isTold_638 n) zF 1 (nI t) (nI c) (nI ((ver now t).kd c)) (nI (ver now t).nr) (nI m) (ztd ((ver now t).kd c) ((ver now t).ky c (o ((m - 1) / 2)))) p7 p8 (nI (fb_ct (fun r => zKn (ver now t) c (ver now t).ch r && zNw (ver now t) c r) a)) (nI a) (zVl (ver now t) a c) (1 : Int32) (0 : Int32) g1 = f_ColumnVaultLaw_isTold_638 n 1 (nI t) (nI c) (nI ((ver now t).kd c)) (nI (ver now t).nr) (nI m) (ztd ((ver now t).kd c) ((ver now t).ky c (o ((m - 1) / 2)))) p7 p8 (nI (fb_ct (fun r => zKn (ver now t) c (ver now t).ch r && zNw (ver now t) c r) a + (if zNw (ver now t) c a = true then 1 else 0))) (nI (a + 1)) g1 := fun p7 p8 => by
            have x := ztd723 (K := f_ColumnVaultLaw_isTold_638 n) (p3 := nI ((ver now t).kd c)) (p4 := nI (ver now t).nr) (p5 := nI m) (p6 := ztd ((ver now t).kd c) ((ver now t).ky c (o ((m - 1) / 2)))) (p7 := p7) (p8 := p8) (d := fb_ct (fun r => zKn (ver now t) c (ver now t).ch r && zNw (ver now t) c r) a) w1 rfl wT ht hc hlt zF 0 (Nat.zero_le _) (by unfold zF; omega)
            have e0 : zNv (ver now t) c a 0 = true := decide_eq_true fun r hr => absurd hr (Nat.not_lt_zero _)
            rw [e0, nI_0] at x
            exact x
          have last : ∀ x : Nat, (x = if decide ((ver now t).ky c a < (ver now t).ky c (o ((m - 1) / 2))) = true then 1 else 0) → ∃ g, f_ColumnVaultLaw_isTold_696 (f_ColumnVaultLaw_isTold_638 n) 1 (nI t) (nI c) (nI ((ver now t).kd c)) (nI (ver now t).nr) (nI m) (ztd ((ver now t).kd c) ((ver now t).ky c (o ((m - 1) / 2)))) (nI (fb_ct (fun r => zKn (ver now t) c (ver now t).ch r && decide ((ver now t).ky c r = (ver now t).ky c (o ((m - 1) / 2)))) a)) (nI (fb_ct (fun r => zKn (ver now t) c (ver now t).ch r && zNw (ver now t) c r) a)) (nI a) (zVl (ver now t) a c) (nI (fb_ct (fun r => zKn (ver now t) c (ver now t).ch r && decide ((ver now t).ky c r < (ver now t).ky c (o ((m - 1) / 2)))) a)) (nI x) g1 = some (.inl 1, g) ∧ zR g ∧ zWd g now ver tx pr gr ∧ zM g ≤ zM h + 200 * ((ver now t).nr - a) + 700 := by
            intro x hx
            rw [← hx] at e
            refine ⟨g, ?_, r2, w2, by omega⟩
            unfold f_ColumnVaultLaw_isTold_696
            by_cases he : (ver now t).ky c a = (ver now t).ky c (o ((m - 1) / 2))
            · rw [decide_eq_true he, if_pos rfl] at e
              rw [if_neg (fun z => z (hinj.mpr he)), h723, nI_add, nI_1]
              exact e
            · rw [decide_eq_false he, if_neg (show ¬ false = true by decide), Nat.add_zero] at e
              rw [if_pos (fun z => he (hinj.mp z)), h723, nI_add, Int32.add_zero]
              exact e
          rw [if_pos (fun x => hm (hmi.mp x)), ze_b2 e1]
          by_cases hl : (ver now t).ky c a < (ver now t).ky c (o ((m - 1) / 2))
          · rw [if_neg (fun x => by rw [zcm_ge, zl_e] at x; rw [zl_t] at hl; omega)]
            exact last 1 (by rw [decide_eq_true hl]; rfl)
          · rw [if_pos ((zcm_ge _ _).mpr (by rw [zl_e]; rw [zl_t] at hl; omega))]
            exact last 0 (by rw [decide_eq_false hl]; rfl)
      · rw [if_pos (zbt0 hch), nI_1]
        exact skip (fun x => hch (zKn_1 x).1)
    · have e : a = (ver now t).nr := Nat.le_antisymm ha hge
      subst e
      have hle1 := zmid_lt hr h0
      have hgt1 := zmid_le hr h0
      have hd := fb_ct_le (fun r => zKn (ver now t) c (ver now t).ch r && zNw (ver now t) c r) (ver now t).nr
      have hd2 := fb_ct_le (fun r => zKn (ver now t) c (ver now t).ch r && decide ((ver now t).ky c r < (ver now t).ky c (o ((m - 1) / 2)))) (ver now t).nr
      have hd3 := fb_ct_le (fun r => zKn (ver now t) c (ver now t).ch r && decide ((ver now t).ky c r = (ver now t).ky c (o ((m - 1) / 2)))) (ver now t).nr
      have emid : (nI m - (1 : Int32)) / (2 : Int32) = nI ((m - 1) / 2) := by
        rw [show nI m - (1 : Int32) = nI (m - 1) from pk_sub (a := m) (b := 1) (by omega), show (2 : Int32) = nI 2 from rfl, pk_div (by omega) (by decide) (by decide)]
      obtain ⟨g1, o5, m5, hr5, h5, G1, e5⟩ := (w.T ht).total5 (w.F ht) hc (ver now t).ch (by omega)
      have e5 := w.totalE ht hc 5 e5
      rw [zdiff_ct hr5] at e5
      have w1 := w.G G1 (Or.inr (by decide))
      have m1 := G1.m
      obtain ⟨g2, o2, m2, hr2, h2, G2, e2⟩ := (w1.T ht).total2 (w1.F ht) hc (ver now t).ch (x := 2) (Or.inl rfl) (by omega)
      have em2 : m2 = m := (zEn_m hr2.en).trans (zEn_m hr.en).symm
      rw [if_neg (show ¬ m2 = 0 by omega)] at e2
      have e2 := w1.totalE ht hc (nI 2) e2
      have w2 := w1.G G2 (Or.inr (by decide))
      have mm2 := G2.m
      obtain ⟨l2a, l2b, l2c⟩ := hr2.lt (show 0 < m2 by omega)
      obtain ⟨j2, hj2, ej2⟩ := (hr2.2 (o ((m - 1) / 2))).mpr ⟨hmid.1, zKn_2 hmid.2.1 hmid.2.2⟩
      have ho2 := hr2.le (Nat.zero_le j2) hj2
      rw [ej2] at ho2
      obtain ⟨g3, et2, G3⟩ := zthan (h := g2) (wT.k hc l2a) kmok l2c hmid.2.2 (by omega)
      have et2 : f_ColumnVaultLaw_than (nI ((ver now t).kd c)) (zVl (ver now t) (o2 (zIx 2 m2)) c) (ztd ((ver now t).kd c) ((ver now t).ky c (o ((m - 1) / 2)))) g2 = some (zcm ((ver now t).ky c (o2 0)) ((ver now t).ky c (o ((m - 1) / 2))), g3) := et2
      have w3 := w2.G G3 (Or.inr (by decide))
      have mm3 := G3.m
      obtain ⟨g4, o3, m3, hr3, h3, G4, e3⟩ := (w3.T ht).total2 (w3.F ht) hc (ver now t).ch (x := 3) (Or.inr (Or.inl rfl)) (by omega)
      have em3 : m3 = m := (zEn_m hr3.en).trans (zEn_m hr.en).symm
      rw [if_neg (show ¬ m3 = 0 by omega)] at e3
      have e3 := w3.totalE ht hc (nI 3) e3
      have w4 := w3.G G4 (Or.inr (by decide))
      have mm4 := G4.m
      obtain ⟨l3a, l3b, l3c⟩ := hr3.lt (show m3 - 1 < m3 by omega)
      obtain ⟨j3, hj3, ej3⟩ := (hr3.2 (o ((m - 1) / 2))).mpr ⟨hmid.1, zKn_2 hmid.2.1 hmid.2.2⟩
      have ho3 := hr3.le (show j3 ≤ m3 - 1 by omega) (show m3 - 1 < m3 by omega)
      rw [ej3] at ho3
      obtain ⟨g5, et3, G5⟩ := zthan (h := g4) (wT.k hc l3a) kmok l3c hmid.2.2 (by omega)
      have et3 : f_ColumnVaultLaw_than (nI ((ver now t).kd c)) (zVl (ver now t) (o3 (zIx 3 m3)) c) (ztd ((ver now t).kd c) ((ver now t).ky c (o ((m - 1) / 2)))) g4 = some (zcm ((ver now t).ky c (o3 (m3 - 1))) ((ver now t).ky c (o ((m - 1) / 2))), g5) := et3
      have w5 := w4.G G5 (Or.inr (by decide))
      have mm5 := G5.m
      have r5 := ((((r.G G1 (Or.inr rfl)).G G2 (Or.inr rfl)).G G3 (Or.inr rfl)).G G4 (Or.inr rfl)).G G5 (Or.inr rfl)
      refine ⟨g5, ?_, r5, w5, by omega⟩
      rw [if_pos (nI_le (Nat.le_refl _) (by omega)), emid, if_neg (nI_nlt hle1 (by omega)), nI_add, if_neg (nI_ge hgt1 (by omega)), ze_b w.is, ze_b3 e5, nI_l (by omega), if_neg (fun z => z rfl), ze_b w1.is, show (2 : Int32) = nI 2 from rfl, ze_b3 e2, ze_b2 et2, if_neg (fun z => by rw [zcm_gt, zl_t] at z; omega), ze_b w3.is, show (3 : Int32) = nI 3 from rfl, ze_b3 e3, ze_b2 et3, if_neg (fun z => by rw [zcm_lt, zl_t] at z; omega)]
end ZTG

/-! ===== isTold: a row against all ===== -/
section ZTE
variable {h : zx_H} {now : Nat} {ver : Nat → Nat → zT} {tx : List Nat} {pr : Nat × (Nat → Nat) × (Nat → Int32)} {gr : zT × Nat × Nat × (Nat → Int64) × (Nat → Nat → Bool)} {t c b p : Nat} {T : zT}
/-- rows with the same value by b, and less by c -/
def zLs (T : zT) (b c row : Nat) : Nat → Bool := fun r => decide (T.ky b r = T.ky b row) && decide (T.ky c r ≠ -9000000000 ∧ T.ky c r < T.ky c row)
def zPv (T : zT) (b row p : Nat) : Nat → Bool := fun j => decide (T.ky b (T.od j) = T.ky b row) && decide (j < p)
theorem zLs_m (wT : zWF T) (hc : c < T.nc) {row r : Nat} (hr : r < T.nr) (hm : T.ky c row = -9000000000) : zLs T b c row r = false := by
  unfold zLs
  rw [decide_eq_false (p := T.ky c r ≠ -9000000000 ∧ T.ky c r < T.ky c row), Bool.and_false]
  rintro ⟨h1, h2⟩
  have := zokK_ge (wT.k hc hr) h1
  rw [hm, zl_t, zl_m] at h2
  omega
abbrev zK90 : Type := Nat → Int32 → Int32 → Int32 → Int32 → Int32 → Int64 → Int64 → Int32 → Int32 → Int64 → Int64 → Int64 → Int32 → zx_H → Option ((Int32 ⊕ Nat) × zx_H)
abbrev zK125 : Type := Nat → Int32 → Int32 → Int32 → Int32 → Int32 → Int64 → Int64 → Int32 → Int32 → Int64 → Int64 → Int64 → Int32 → Int32 → Int64 → Int32 → Int32 → Int32 → zx_H → Option ((Int32 ⊕ Nat) × zx_H)
/-- is the other row less? -/
theorem ztd186 (r : zR h) (w : zWd h now ver tx pr gr) (hT : ver now t = T) (wT : zWF T) (ht : t < 3) (hb : b < T.nc) (hc : c < T.nc) {row other : Nat} (hrow : row < T.nr) (ho : other < T.nr) {K : zK90} {K2 : zK125} {p5 : Int32} {p6 p7 : Int64} {p8 p9 : Int32} {p10 p11 p12 : Int64} {p13 p17 : Int32} {k a : Nat} (hB : zM h ≤ 6700000) : ∃ g, f_ColumnVaultLaw_isTold_186 K K2 1 (nI t) (nI c) (nI (T.kd c)) (nI b) p5 p6 p7 p8 p9 p10 p11 p12 p13 (nI row) (zVl T row c) (nI a) p17 (nI k) (nI other) (zb (decide (T.ky b other = T.ky b row))) h = K2 1 (nI t) (nI c) (nI (T.kd c)) (nI b) p5 p6 p7 p8 p9 p10 p11 p12 p13 (nI row) (zVl T row c) (nI (a + (if zLs T b c row other = true then 1 else 0))) p17 (nI (k + 1)) g ∧ zG 200 0 0 h g := by
  subst hT
  have G0 : zG 200 0 0 h h := zG.refl.w (Nat.zero_le _) (Nat.le_refl _) (Nat.le_refl _)
  have hrw : zVl (ver now t) row c = -9000000000 ↔ (ver now t).ky c row = -9000000000 := ztd_mi (wT.k hc hrow)
  have how : zVl (ver now t) other c = -9000000000 ↔ (ver now t).ky c other = -9000000000 := ztd_mi (wT.k hc ho)
  have nope : ¬ zLs (ver now t) b c row other = true → ∃ g, K2 1 (nI t) (nI c) (nI ((ver now t).kd c)) (nI b) p5 p6 p7 p8 p9 p10 p11 p12 p13 (nI row) (zVl (ver now t) row c) (nI a + (0 : Int32)) p17 (nI k + (1 : Int32)) h = K2 1 (nI t) (nI c) (nI ((ver now t).kd c)) (nI b) p5 p6 p7 p8 p9 p10 p11 p12 p13 (nI row) (zVl (ver now t) row c) (nI (a + (if zLs (ver now t) b c row other = true then 1 else 0))) p17 (nI (k + 1)) g ∧ zG 200 0 0 h g := fun e => ⟨h, by rw [if_neg e, Nat.add_zero, Int32.add_zero, nI_1], G0⟩
  unfold f_ColumnVaultLaw_isTold_186
  by_cases hs : (ver now t).ky b other = (ver now t).ky b row
  · rw [decide_eq_true hs, if_neg (by decide)]
    by_cases hm : (ver now t).ky c row = -9000000000
    · rw [if_pos (hrw.mpr hm)]
      exact nope (by rw [zLs_m wT hc ho hm]; decide)
    · rw [if_neg (fun x => hm (hrw.mp x)), ze_b w.is, ze_b3 (w.get ht hc ho)]
      by_cases hm2 : (ver now t).ky c other = -9000000000
      · rw [if_pos (how.mpr hm2)]
        refine nope fun x => ?_
        unfold zLs at x
        exact (of_decide_eq_true (Bool.and_eq_true_iff.mp x).2).1 hm2
      · rw [if_neg (fun x => hm2 (how.mp x)), ze_b w.is, ze_b3 (w.get ht hc ho)]
        obtain ⟨g, eth, G⟩ := zthan (h := h) (wT.k hc ho) (wT.k hc hrow) hm2 hm hB
        have eth : f_ColumnVaultLaw_than (nI ((ver now t).kd c)) (zVl (ver now t) other c) (zVl (ver now t) row c) h = _ := eth
        rw [ze_b2 eth]
        by_cases hl : (ver now t).ky c other < (ver now t).ky c row
        · have e : zLs (ver now t) b c row other = true := Bool.and_eq_true_iff.mpr ⟨decide_eq_true hs, decide_eq_true ⟨hm2, hl⟩⟩
          have ez : zcm ((ver now t).ky c other) ((ver now t).ky c row) = -1 := if_pos hl
          rw [ez, if_neg (by decide), if_pos e, nI_1, nI_1]
          exact ⟨g, rfl, G⟩
        · have e : ¬ zLs (ver now t) b c row other = true := fun x => hl (of_decide_eq_true (Bool.and_eq_true_iff.mp x).2).2
          have ez : (0 : Int32) ≤ zcm ((ver now t).ky c other) ((ver now t).ky c row) := by
            unfold zcm
            rw [if_neg hl]
            by_cases e : (ver now t).ky c other = (ver now t).ky c row
            · rw [if_pos e]; decide
            · rw [if_neg e]; decide
          rw [if_pos ez, if_neg e, Nat.add_zero, Int32.add_zero, nI_1]
          exact ⟨g, rfl, G⟩
  · rw [decide_eq_false hs, if_pos (show zb false = 0 from rfl)]
    refine nope fun x => hs (of_decide_eq_true (Bool.and_eq_true_iff.mp x).1)
/-- all rows looked at: what follows -/
theorem ztd125 (hT : ver now t = T) (wT : zWF T) (ht : t < 3) (hb : b < T.nc) (hc : c < T.nc) (hp : p < T.nr) {K : zK90} {p6 p7 : Int64} {p8 p9 : Int32} {p10 p11 p12 : Int64} : ∀ n k h x, k ≤ T.nr → T.nr - k < n → zR h → zWd h now ver tx pr gr → zLst (zPv T b (T.od p) p) k T.od x → zM h + 200 * (T.nr - k) + 20 ≤ 6700000 → ∃ g, f_ColumnVaultLaw_isTold_125 K n 1 (nI t) (nI c) (nI (T.kd c)) (nI b) (nI T.nr) p6 p7 p8 p9 p10 p11 p12 (nI p) (nI (T.od p)) (zVl T (T.od p) c) (nI (1 + fb_ct (fun j => zLs T b c (T.od p) (T.od j)) k)) x (nI k) h = (if ¬ nI (T.kd c) = 0 then f_ColumnVaultLaw_isTold_357 K 1 (nI t) (nI c) (nI (T.kd c)) (nI b) (nI T.nr) p6 p7 p8 p9 p10 p11 p12 (nI p) (nI (T.od p)) (zVl T (T.od p) c) g else if ¬ zVl T (T.od p) c = (-9000000000 : Int64) then f_ColumnVaultLaw_isTold_338 K 1 (nI t) (nI c) (nI (T.kd c)) (nI b) (nI T.nr) p6 p7 p8 p9 p10 p11 (nI p) (nI (T.od p)) (zVl T (T.od p) c) p12 (zVl T (T.od p) c) g else f_ColumnVaultLaw_isTold_338 K 1 (nI t) (nI c) (nI (T.kd c)) (nI b) (nI T.nr) p6 p7 p8 p9 p10 p11 (nI p) (nI (T.od p)) (zVl T (T.od p) c) p12 (0 : Int64) g) ∧ zR g ∧ zWd g now ver tx pr gr ∧ zM g ≤ zM h + 200 * (T.nr - k) + 20 := by
  subst hT
  have h40 := wT.r40
  have hrow := wT.o hp
  intro n
  induction n with
  | zero => intro k _ _ _ hn; exact absurd hn (Nat.not_lt_zero _)
  | succ n ih =>
    intro k h x hk hn r w hx hB
    rcases Nat.lt_or_ge k (ver now t).nr with hlt | hge
    · have ho := wT.o hlt
      -- on with the next place
      have go : ∀ x', zLst (zPv (ver now t) b ((ver now t).od p) p) (k + 1) (ver now t).od x' → ∃ g1, f_ColumnVaultLaw_isTold_186 K (f_ColumnVaultLaw_isTold_125 K n) 1 (nI t) (nI c) (nI ((ver now t).kd c)) (nI b) (nI (ver now t).nr) p6 p7 p8 p9 p10 p11 p12 (nI p) (nI ((ver now t).od p)) (zVl (ver now t) ((ver now t).od p) c) (nI (1 + fb_ct (fun j => zLs (ver now t) b c ((ver now t).od p) ((ver now t).od j)) k)) x' (nI k) (nI ((ver now t).od k)) (zb (decide ((ver now t).ky b ((ver now t).od k) = (ver now t).ky b ((ver now t).od p)))) h = f_ColumnVaultLaw_isTold_125 K n 1 (nI t) (nI c) (nI ((ver now t).kd c)) (nI b) (nI (ver now t).nr) p6 p7 p8 p9 p10 p11 p12 (nI p) (nI ((ver now t).od p)) (zVl (ver now t) ((ver now t).od p) c) (nI (1 + fb_ct (fun j => zLs (ver now t) b c ((ver now t).od p) ((ver now t).od j)) (k + 1))) x' (nI (k + 1)) g1 ∧ zG 200 0 0 h g1 := fun x' _ => by
        obtain ⟨g1, e1, G1⟩ := ztd186 (K := K) (K2 := f_ColumnVaultLaw_isTold_125 K n) (p5 := nI (ver now t).nr) (p6 := p6) (p7 := p7) (p8 := p8) (p9 := p9) (p10 := p10) (p11 := p11) (p12 := p12) (p13 := nI p) (p17 := x') (k := k) (a := 1 + fb_ct (fun j => zLs (ver now t) b c ((ver now t).od p) ((ver now t).od j)) k) r w rfl wT ht hb hc hrow ho (by omega)
        have es : 1 + fb_ct (fun j => zLs (ver now t) b c ((ver now t).od p) ((ver now t).od j)) k + (if zLs (ver now t) b c ((ver now t).od p) ((ver now t).od k) = true then 1 else 0) = 1 + fb_ct (fun j => zLs (ver now t) b c ((ver now t).od p) ((ver now t).od j)) (k + 1) := Nat.add_assoc _ _ _
        rw [es] at e1
        exact ⟨g1, e1, G1⟩
      have fin : ∀ x', zLst (zPv (ver now t) b ((ver now t).od p) p) (k + 1) (ver now t).od x' → ∃ g, f_ColumnVaultLaw_isTold_186 K (f_ColumnVaultLaw_isTold_125 K n) 1 (nI t) (nI c) (nI ((ver now t).kd c)) (nI b) (nI (ver now t).nr) p6 p7 p8 p9 p10 p11 p12 (nI p) (nI ((ver now t).od p)) (zVl (ver now t) ((ver now t).od p) c) (nI (1 + fb_ct (fun j => zLs (ver now t) b c ((ver now t).od p) ((ver now t).od j)) k)) x' (nI k) (nI ((ver now t).od k)) (zb (decide ((ver now t).ky b ((ver now t).od k) = (ver now t).ky b ((ver now t).od p)))) h = (if ¬ nI ((ver now t).kd c) = 0 then f_ColumnVaultLaw_isTold_357 K 1 (nI t) (nI c) (nI ((ver now t).kd c)) (nI b) (nI (ver now t).nr) p6 p7 p8 p9 p10 p11 p12 (nI p) (nI ((ver now t).od p)) (zVl (ver now t) ((ver now t).od p) c) g else if ¬ zVl (ver now t) ((ver now t).od p) c = (-9000000000 : Int64) then f_ColumnVaultLaw_isTold_338 K 1 (nI t) (nI c) (nI ((ver now t).kd c)) (nI b) (nI (ver now t).nr) p6 p7 p8 p9 p10 p11 (nI p) (nI ((ver now t).od p)) (zVl (ver now t) ((ver now t).od p) c) p12 (zVl (ver now t) ((ver now t).od p) c) g else f_ColumnVaultLaw_isTold_338 K 1 (nI t) (nI c) (nI ((ver now t).kd c)) (nI b) (nI (ver now t).nr) p6 p7 p8 p9 p10 p11 (nI p) (nI ((ver now t).od p)) (zVl (ver now t) ((ver now t).od p) c) p12 (0 : Int64) g) ∧ zR g ∧ zWd g now ver tx pr gr ∧ zM g ≤ zM h + 200 * ((ver now t).nr - k) + 20 := fun x' hx' => by
        obtain ⟨g1, e1, G1⟩ := go x' hx'
        have m1 := G1.m
        obtain ⟨g, e2, r2, w2, m2⟩ := ih (k + 1) g1 x' hlt (by omega) (r.G G1 (Or.inr rfl)) (w.G G1 (Or.inr (by decide))) hx' (by omega)
        exact ⟨g, e1.trans e2, r2, w2, by omega⟩
      have hinj : zVl (ver now t) ((ver now t).od k) b = zVl (ver now t) ((ver now t).od p) b ↔ (ver now t).ky b ((ver now t).od k) = (ver now t).ky b ((ver now t).od p) := ztd_inj (wT.k hb ho) (wT.k hb hrow)
      unfold f_ColumnVaultLaw_isTold_125
      rw [if_neg (nI_ge hlt (by omega)), ze_b w.is, ze_b3 (w.rowAt ht hlt), ze_b w.is, ze_b3 (w.get ht hb ho), ze_b w.is, ze_b3 (w.get ht hb hrow)]
      by_cases hs : (ver now t).ky b ((ver now t).od k) = (ver now t).ky b ((ver now t).od p)
      · rw [decide_eq_true hs] at fin
        rw [if_neg (fun z => z (hinj.mpr hs))]
        by_cases hkp : k < p
        · rw [if_neg (nI_ge hkp (by omega)), if_neg (by decide)]
          exact fin _ (zLst_n (by unfold zPv; rw [decide_eq_true hs, decide_eq_true hkp]; rfl))
        · rw [if_pos (nI_le (show p ≤ k by omega) (by omega))]
          exact fin _ (zLst_f hx (by unfold zPv; rw [decide_eq_false hkp, Bool.and_false]))
      · rw [decide_eq_false hs] at fin
        have ef := fin x (zLst_f hx (by unfold zPv; rw [decide_eq_false hs, Bool.false_and]))
        rw [if_pos (fun z => hs (hinj.mp z))]
        by_cases hkp : k < p
        · rw [if_neg (nI_ge hkp (by omega)), if_pos (show (0 : Int32) = 0 from rfl)]
          exact ef
        · rw [if_pos (nI_le (show p ≤ k by omega) (by omega))]
          exact ef
    · have e : k = (ver now t).nr := Nat.le_antisymm hk hge
      subst e
      obtain ⟨v, ev, hv⟩ := w.previous ht hb hrow
      have hv2 : zLst (zPv (ver now t) b ((ver now t).od p) p) (ver now t).nr (ver now t).od v := zLst_c (fun j hj => by
        unfold zPv
        rw [zpl_p wT.p hj, zpl_p wT.p hp]) hv
      have evx : v = x := zLst_one hv2 hx
      have hrk : fb_ct (fun j => zLs (ver now t) b c ((ver now t).od p) ((ver now t).od j)) (ver now t).nr = fb_ct (zLs (ver now t) b c ((ver now t).od p)) (ver now t).nr := zct_perm wT.p (zLs (ver now t) b c ((ver now t).od p))
      have hmi := ztd_mi (wT.k hc hrow)
      unfold f_ColumnVaultLaw_isTold_125
      rw [if_pos (nI_le (Nat.le_refl _) (by omega)), ze_b w.is, ze_b3 ev, evx, if_neg (fun z => z rfl)]
      by_cases hm : (ver now t).ky c ((ver now t).od p) = -9000000000
      · have hm1 : zVl (ver now t) ((ver now t).od p) c = -9000000000 := hmi.mpr hm
        rw [if_neg (fun z => z hm1)]
        by_cases hbc : b = c
        · have e1 := zask13E (c := (nI ((ver now t).od p)).toInt64) w.is z16 (by
            rw [Int32.toInt32_toInt64]
            exact w.rankNo ht hc hc hrow hm (by omega))
          have G1 : zG 20 0 0 h (h ++ [.inr (16, [])]) := zG_exc (ci := 16)
          have m1 := G1.m
          rw [if_neg (fun z => z (by rw [hbc])), ze_b2 e1, if_pos (show zxc 16 = -3000000002 from rfl)]
          exact ⟨_, rfl, r.G G1 (Or.inr rfl), w.G G1 (Or.inr (by decide)), by omega⟩
        · have h4 := wT.c4
          rw [if_pos (by rw [nI_eq (by omega) (by omega)]; exact hbc)]
          exact ⟨h, rfl, r, w, by omega⟩
      · have hm1 : ¬ zVl (ver now t) ((ver now t).od p) c = -9000000000 := fun z => hm (hmi.mp z)
        have erk := w.rank ht hb hc hrow hm
        have erk : f_ColumnVault_rank 1 (nI t) (nI b) (nI c) (nI ((ver now t).od p)) h = some (.inl (nI (1 + fb_ct (zLs (ver now t) b c ((ver now t).od p)) (ver now t).nr)), h) := erk
        rw [if_pos hm1, ze_b w.is, ze_b3 erk, hrk, if_pos rfl]
        exact ⟨h, rfl, r, w, by omega⟩
end ZTE

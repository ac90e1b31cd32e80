/-! ===== isTold: all places, and what is asked ===== -/
section ZTH
variable {h : zx_H} {now : Nat} {ver : Nat → Nat → zT} {tx : List Nat} {pr : Nat × (Nat → Nat) × (Nat → Int32)} {gr : zT × Nat × Nat × (Nat → Int64) × (Nat → Nat → Bool)} {t c b p : Nat} {T : zT} {kf kt : Int64}
theorem zask_n15 (w : zWd h now ver tx pr gr) (ht : t < 3) (hc : c < (ver now t).nc) (hkf : zokK ((ver now t).kd c) kf) (hkf' : kf ≠ -9000000000) (hB : zM h ≤ 7000000) : ∃ g best, f_ColumnVaultLaw_asks 1 15 (nI t) (nI c) (ztd ((ver now t).kd c) kf) h = some (zEb ((ver now t).kd c) best, g) ∧ zNear (ver now t) c kf true (ver now t).nr best ∧ zG 20 0 0 h g := by
  obtain ⟨best, h1, e⟩ := w.nearest ht hc hkf hkf' true (by omega)
  by_cases hb : best = -9000000000
  · rw [if_pos hb] at e
    refine ⟨_, best, ?_, h1, zG_exc (ci := 16)⟩
    unfold zEb
    rw [if_pos hb]
    exact zask15E w.is z16 e
  · rw [if_neg hb] at e
    refine ⟨h, best, ?_, h1, zG.refl.w (Nat.zero_le _) (Nat.le_refl _) (Nat.le_refl _)⟩
    unfold zEb
    rw [if_neg hb]
    exact zask15 w.is e
theorem zask_n16 (w : zWd h now ver tx pr gr) (ht : t < 3) (hc : c < (ver now t).nc) (hkf : zokK ((ver now t).kd c) kf) (hkf' : kf ≠ -9000000000) (hB : zM h ≤ 7000000) : ∃ g best, f_ColumnVaultLaw_asks 1 16 (nI t) (nI c) (ztd ((ver now t).kd c) kf) h = some (zEb ((ver now t).kd c) best, g) ∧ zNear (ver now t) c kf false (ver now t).nr best ∧ zG 20 0 0 h g := by
  obtain ⟨best, h1, e⟩ := w.nearest ht hc hkf hkf' false (by omega)
  by_cases hb : best = -9000000000
  · rw [if_pos hb] at e
    refine ⟨_, best, ?_, h1, zG_exc (ci := 16)⟩
    unfold zEb
    rw [if_pos hb]
    exact zask16E w.is z16 e
  · rw [if_neg hb] at e
    refine ⟨h, best, ?_, h1, zG.refl.w (Nat.zero_le _) (Nat.le_refl _) (Nat.le_refl _)⟩
    unfold zEb
    rw [if_neg hb]
    exact zask16 w.is e
/-- the running sum so far -/
def zRn (T : zT) (c p : Nat) : Int64 := if T.kd c = 0 then zs (fun j => if T.ky c (T.od j) = -9000000000 then 0 else T.ky c (T.od j)) p else 0
/-- behind all places -/
theorem ztdE (hT : ver now t = T) (wT : zWF T) (ht : t < 3) (hc : c < T.nc) (hkf : zokK (T.kd c) kf) (hkf' : kf ≠ -9000000000) (hkt : zokK (T.kd c) kt) (hkt' : kt ≠ -9000000000) (r : zR h) (w : zWd h now ver tx pr gr) {x y : Int64} {p4 : Int32} {p12 : Int64} (hx : zNq T c kf true T.nr x) (hy : zNq T c kf false T.nr y) (hB : zM h ≤ 6600000) (n : Nat) : ∃ g, f_ColumnVaultLaw_isTold_90 (n + 1) 1 (nI t) (nI c) (nI (T.kd c)) p4 (nI T.nr) (ztd (T.kd c) kf) (ztd (T.kd c) kt) (nI (fb_ct (fun j => zWi T c kf kt (T.od j)) T.nr)) (nI (fb_ct (fun j => zKn T c T.ch (T.od j)) T.nr)) x y p12 (nI T.nr) h = some (.inl 1, g) ∧ zR g ∧ zWd g now ver tx pr gr ∧ zM g ≤ zM h + 9000 := by
  subst hT
  have h40 := wT.r40
  have hbt := w.between ht hc hkf hkt hkf' hkt'
  have hw : fb_ct (fun j => zWi (ver now t) c kf kt ((ver now t).od j)) (ver now t).nr = fb_ct (fun r => decide (kf ≤ (ver now t).ky c r ∧ (ver now t).ky c r ≤ kt)) (ver now t).nr := zct_perm wT.p (zWi (ver now t) c kf kt)
  have hk : fb_ct (fun j => zKn (ver now t) c (ver now t).ch ((ver now t).od j)) (ver now t).nr = fb_ct (zKn (ver now t) c (ver now t).ch) (ver now t).nr := zct_perm wT.p (zKn (ver now t) c (ver now t).ch)
  have hkl := fb_ct_le (zKn (ver now t) c (ver now t).ch) (ver now t).nr
  obtain ⟨g1, b1, e1, n1, G1⟩ := zask_n15 w ht hc hkf hkf' (by omega)
  have w1 := w.G G1 (Or.inr (by decide))
  have m1 := G1.m
  obtain ⟨g2, b2, e2, n2, G2⟩ := zask_n16 w1 ht hc hkf hkf' (by omega)
  have w2 := w1.G G2 (Or.inr (by decide))
  have m2 := G2.m
  have r2 := (r.G G1 (Or.inr rfl)).G G2 (Or.inr rfl)
  obtain ⟨bx, x1, x2⟩ := hx
  obtain ⟨yy, y1, y2⟩ := hy
  have ex : zEb ((ver now t).kd c) b1 = x := by rw [x2, zNear_one n1 (zNear_o wT x1)]
  have ey : zEb ((ver now t).kd c) b2 = y := by rw [y2, zNear_one n2 (zNear_o wT y1)]
  have e0 := w2.totalE ht hc 0 ((w2.T ht).total0 (w2.F ht) hc (ver now t).ch)
  unfold f_ColumnVaultLaw_isTold_90
  rw [if_pos (nI_le (Nat.le_refl _) (by omega)), ze_b w.is, ze_b3 hbt, hw, if_neg (fun z => z rfl), ze_b2 e1, if_neg (fun z => z ex), ze_b2 e2, if_neg (fun z => z ey), ze_b w2.is, ze_b3 e0, hk, nI_l (by omega), if_pos rfl]
  by_cases hz : fb_ct (zKn (ver now t) c (ver now t).ch) (ver now t).nr = 0
  · obtain ⟨g3, o3, m3, r3, h3, G3, e3⟩ := (w2.T ht).total2 (w2.F ht) hc (ver now t).ch (x := 4) (Or.inr (Or.inr rfl)) (by omega)
    have em : m3 = 0 := (zEn_m r3.en).trans hz
    rw [if_pos em] at e3
    have e3 := zask12E (c := 4) w2.is z16 (w2.totalE ht hc _ e3)
    have w3 := w2.G G3 (Or.inr (by decide))
    have mm3 := G3.m
    obtain ⟨g4, o4, m4, r4, h4, G4, e4⟩ := (w3.T ht).total5 (w3.F ht) hc (ver now t).ch (by omega)
    have em4 : m4 = 0 := (zEn_m r4.en).trans hz
    rw [em4] at e4
    have e4 := w3.totalE ht hc 5 e4
    have mm4 := G4.m
    rw [if_neg (fun y => y (by rw [hz]; rfl)), ze_b2 e3, if_neg (fun y => y (show zxc 16 = -3000000002 from rfl)), ze_b w3.is, ze_b3 e4, if_neg (fun y => y rfl)]
    exact ⟨g4, rfl, (r2.G G3 (Or.inr rfl)).G G4 (Or.inr rfl), w3.G G4 (Or.inr (by decide)), by omega⟩
  · obtain ⟨g3, o3, m3, r3, h3, G3, e3⟩ := (w2.T ht).total2 (w2.F ht) hc (ver now t).ch (x := 4) (Or.inr (Or.inr rfl)) (by omega)
    have em : m3 = fb_ct (zKn (ver now t) c (ver now t).ch) (ver now t).nr := zEn_m r3.en
    rw [if_neg (show ¬ m3 = 0 by omega)] at e3
    have e3 := w2.totalE ht hc (nI 4) e3
    have w3 := w2.G G3 (Or.inr (by decide))
    have mm3 := G3.m
    obtain ⟨g4, e4, r4, w4, m4⟩ := ztd638 (tx := tx) (pr := pr) (gr := gr) rfl wT ht hc r3 (by omega) h3 zF 0 g3 (Nat.zero_le _) (by unfold zF; omega) (r2.G G3 (Or.inr rfl)) w3 (by omega)
    rw [nI_0] at e4
    rw [if_pos (nI_ne0 (by omega) (by omega)), ze_b w2.is, show (4 : Int32) = nI 4 from rfl, ze_b3 e3, ← em]
    exact ⟨g4, e4, r4, w4, by omega⟩
theorem ztd90 (hT : ver now t = T) (wT : zWF T) (ht : t < 3) (hb : b < T.nc) (hc : c < T.nc) (hkf : zokK (T.kd c) kf) (hkf' : kf ≠ -9000000000) (hkt : zokK (T.kd c) kt) (hkt' : kt ≠ -9000000000) : ∀ n p h x y, p ≤ T.nr → T.nr - p < n → zR h → zWd h now ver tx pr gr → zNq T c kf true p x → zNq T c kf false p y → zM h + 9300 * (T.nr - p) ≤ 6200000 → ∃ g, f_ColumnVaultLaw_isTold_90 n 1 (nI t) (nI c) (nI (T.kd c)) (nI b) (nI T.nr) (ztd (T.kd c) kf) (ztd (T.kd c) kt) (nI (fb_ct (fun j => zWi T c kf kt (T.od j)) p)) (nI (fb_ct (fun j => zKn T c T.ch (T.od j)) p)) x y (zRn T c p) (nI p) h = some (.inl 1, g) ∧ zR g ∧ zWd g now ver tx pr gr ∧ zM g ≤ zM h + 9300 * (T.nr - p) + 9000 := by
  have h40 := wT.r40
  intro n
  induction n with
  | zero => intro p _ _ _ _ hn; exact absurd hn (Nat.not_lt_zero _)
  | succ n ih =>
    intro p h x y hp hn r w hx hy hB
    rcases Nat.lt_or_ge p T.nr with hlt | hge
    · have hrow := wT.o hlt
      have hlt' : p < (ver now t).nr := by rw [hT]; exact hlt
      have hrow' : T.od p < (ver now t).nr := by rw [hT]; exact hrow
      have hc' : c < (ver now t).nc := by rw [hT]; exact hc
      have hmi : zVl T (T.od p) c = -9000000000 ↔ T.ky c (T.od p) = -9000000000 := ztd_mi (wT.k hc hrow)
      obtain ⟨g1, e1, r1, w1, m1⟩ := ztd125 (K := f_ColumnVaultLaw_isTold_90 n) (p := p) (p6 := ztd (T.kd c) kf) (p7 := ztd (T.kd c) kt) (p8 := nI (fb_ct (fun j => zWi T c kf kt (T.od j)) p)) (p9 := nI (fb_ct (fun j => zKn T c T.ch (T.od j)) p)) (p10 := x) (p11 := y) (p12 := zRn T c p) hT wT ht hb hc hlt zF 0 h (-1) (Nat.zero_le _) (by unfold zF; omega) r w zLst_0 (by omega)
      have eg := w.get ht hc' hrow'
      rw [hT] at eg
      have ero := w.rowAt ht hlt'
      rw [hT] at ero
      rw [show fb_ct (fun j => zLs T b c (T.od p) (T.od j)) 0 = 0 from rfl, nI_0] at e1
      have e1 : f_ColumnVaultLaw_isTold_125 (f_ColumnVaultLaw_isTold_90 n) zF 1 (nI t) (nI c) (nI (T.kd c)) (nI b) (nI T.nr) (ztd (T.kd c) kf) (ztd (T.kd c) kt) (nI (fb_ct (fun j => zWi T c kf kt (T.od j)) p)) (nI (fb_ct (fun j => zKn T c T.ch (T.od j)) p)) x y (zRn T c p) (nI p) (nI (T.od p)) (zVl T (T.od p) c) (1 : Int32) (-1 : Int32) (0 : Int32) h = _ := e1
      obtain ⟨g2, x', y', e2, hx', hy', G2⟩ := ztd357 (K := f_ColumnVaultLaw_isTold_90 n) (p4 := nI b) (p5 := nI T.nr) (p12 := zRn T c (p + 1)) w1 hT wT ht hc hlt hkf hkf' hkt hkt' hx hy (by omega)
      have m2 := G2.m
      obtain ⟨g3, e3, r3, w3, m3⟩ := ih (p + 1) g2 x' y' hlt (by omega) (r1.G G2 (Or.inr rfl)) (w1.G G2 (Or.inr (by decide))) hx' hy' (by omega)
      refine ⟨g3, ?_, r3, w3, by omega⟩
      unfold f_ColumnVaultLaw_isTold_90
      rw [if_neg (nI_ge hlt (by omega)), ze_b w.is, ze_b3 ero, ze_b w.is, ze_b3 eg, e1]
      by_cases hk0 : T.kd c = 0
      · have run := w1.running ht hc' (by rw [hT]; exact hk0) hlt'
        rw [hT, zrun_p wT (show p + 1 ≤ T.nr from hlt)] at run
        have en : zRn T c (p + 1) = zs (fun j => if T.ky c (T.od j) = -9000000000 then 0 else T.ky c (T.od j)) (p + 1) := if_pos hk0
        have ep : zRn T c p = zs (fun j => if T.ky c (T.od j) = -9000000000 then 0 else T.ky c (T.od j)) p := if_pos hk0
        rw [← en] at run
        have fin : ∀ v : Int64, zRn T c p + v = zRn T c (p + 1) → f_ColumnVaultLaw_isTold_338 (f_ColumnVaultLaw_isTold_90 n) 1 (nI t) (nI c) (nI (T.kd c)) (nI b) (nI T.nr) (ztd (T.kd c) kf) (ztd (T.kd c) kt) (nI (fb_ct (fun j => zWi T c kf kt (T.od j)) p)) (nI (fb_ct (fun j => zKn T c T.ch (T.od j)) p)) x y (nI p) (nI (T.od p)) (zVl T (T.od p) c) (zRn T c p) v g1 = some (.inl 1, g3) := fun v hv => by
          unfold f_ColumnVaultLaw_isTold_338
          rw [ze_b w1.is, ze_b3 run, hv, if_pos rfl, e2]
          exact e3
        rw [if_neg (fun z => z (by rw [hk0]; rfl))]
        by_cases hm : T.ky c (T.od p) = -9000000000
        · rw [if_neg (fun z => z (hmi.mpr hm))]
          refine fin 0 ?_
          rw [ep, en, Int64.add_zero]
          show _ = zs _ p + (if T.ky c (T.od p) = -9000000000 then 0 else T.ky c (T.od p))
          rw [if_pos hm, Int64.add_zero]
        · rw [if_pos (fun z => hm (hmi.mp z))]
          refine fin _ ?_
          have ev : zVl T (T.od p) c = T.ky c (T.od p) := by unfold zVl; rw [hk0, ztd_0]
          rw [ep, en, ev]
          show _ = zs _ p + (if T.ky c (T.od p) = -9000000000 then 0 else T.ky c (T.od p))
          rw [if_neg hm]
      · have k1 := wT.k1 hc
        have en : zRn T c (p + 1) = 0 := if_neg hk0
        have ep : zRn T c p = 0 := if_neg hk0
        rw [en] at e2 e3
        rw [if_pos (nI_ne0 (by omega) (by omega)), ep, e2]
        exact e3
    · have e : p = T.nr := Nat.le_antisymm hp hge
      subst e
      obtain ⟨g, a1, a2, a3, a4⟩ := ztdE hT wT ht hc hkf hkf' hkt hkt' r w (p4 := nI b) (p12 := zRn T c T.nr) hx hy (by omega) n
      exact ⟨g, a1, a2, a3, by omega⟩
theorem zNq_st (T : zT) (c : Nat) (kf : Int64) (below : Bool) : zNq T c kf below 0 (-3000000002) := ⟨-9000000000, Or.inl ⟨rfl, fun r hr => absurd hr (Nat.not_lt_zero _)⟩, (if_pos rfl).symm⟩
theorem ztold (r : zR h) (w : zWd h now ver tx pr gr) (ht : t < 3) (h1 : 1 ≤ (ver now t).nc) (hB : zM h ≤ 5700000) : ∃ g, f_ColumnVaultLaw_isTold 1 0 (nI t) h = some (.inl 1, g) ∧ zR g ∧ zWd g now ver tx pr gr ∧ zM g ≤ zM h + 390000 := by
  have h4 := (w.T ht).c4
  have h40 := (w.T ht).r40
  obtain ⟨c, g1, hc, e1, r1, w1, G1⟩ := zdrawW r w (n := (ver now t).nc) (by omega) (by omega)
  obtain ⟨b, g2, hb, e2, r2, w2, G2⟩ := zdrawW r1 w1 (n := (ver now t).nc) (by omega) (by omega)
  have m1 := G1.m
  have m2 := G2.m
  have hwl := w2.len
  obtain ⟨g3, v, e3, ok3, r3, G3⟩ := zvalue r2 (by omega) (by omega) ((w.F ht).k1 hc)
  have m3 := G3.m
  have w3 := w2.G G3 (Or.inr (Nat.le_refl _))
  obtain ⟨kf, okf, nef, ef⟩ := zokV_k ok3
  obtain ⟨d, g4, hd, e4, r4, w4, G4⟩ := zdrawW r3 w3 (n := 3) (by decide) (by decide)
  have m4 := G4.m
  have e4 : f_ColumnVaultLaw_draw 0 (3 : Int32) g3 = _ := e4
  have fin : ∀ (g : zx_H) (kt : Int64), zokK ((ver now t).kd c) kt → kt ≠ -9000000000 → zR g → zWd g now ver tx pr gr → zM g ≤ zM h + 1000 → ∃ g', f_ColumnVaultLaw_isTold_66 1 (nI t) (nI c) (nI ((ver now t).kd c)) (nI b) (nI (ver now t).nr) (ztd ((ver now t).kd c) kf) (ztd ((ver now t).kd c) kt) g = some (.inl 1, g') ∧ zR g' ∧ zWd g' now ver tx pr gr ∧ zM g' ≤ zM h + 390000 := by
    intro g kt okt net rg wg mg
    obtain ⟨g', a1, a2, a3, a4⟩ := ztd90 (tx := tx) (pr := pr) (gr := gr) rfl (w.F ht) ht hb hc okf nef okt net zF 0 g (-3000000002) (-3000000002) (Nat.zero_le _) (by unfold zF; omega) rg wg (zNq_st _ _ _ _) (zNq_st _ _ _ _) (by omega)
    have z : zRn (ver now t) c 0 = 0 := by
      unfold zRn
      by_cases x : (ver now t).kd c = 0
      · rw [if_pos x]; rfl
      · rw [if_neg x]
    rw [z, nI_0] at a1
    exact ⟨g', a1, a2, a3, by omega⟩
  unfold f_ColumnVaultLaw_isTold
  rw [ze_b w.is, ze_b3 (w.size1 ht), ze_b2 e1, ze_b w1.is, ze_b3 (w1.kind ht hc), ze_b w1.is, ze_b3 (w1.size1 ht), ze_b2 e2, ze_b w2.is, ze_b3 (w2.size0 ht), ze_b2 e3, ze_b2 e4, ← ef]
  by_cases hz : d = 0
  · rw [if_neg (fun x => x (by rw [hz]; rfl))]
    exact fin g4 kf okf nef r4 w4 (by omega)
  · have hwl4 := w4.len
    obtain ⟨g5, v5, e5, ok5, r5, G5⟩ := zvalue r4 (by omega) (by omega) ((w.F ht).k1 hc)
    have m5 := G5.m
    have w5 := w4.G G5 (Or.inr (Nat.le_refl _))
    obtain ⟨kt, okt, net, et⟩ := zokV_k ok5
    rw [if_pos (nI_ne0 (by omega) (by omega)), ze_b2 e5, ← et]
    exact fin g5 kt okt net r5 w5 (by omega)
end ZTH

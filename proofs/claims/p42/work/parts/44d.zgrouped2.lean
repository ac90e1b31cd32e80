/-! ===== isGrouped: all groups, and behind them ===== -/
section ZGQ
variable {h : zx_H} {now : Nat} {ver : Nat → Nat → zT} {tx : List Nat} {pr : Nat × (Nat → Nat) × (Nat → Int32)} {t c b m k : Nat} {T : zT} {G : Nat → Int64}
/-- the sum of a group -/
def zSg (T : zT) (b c : Nat) (G : Nat → Int64) : Nat → Int64 := fun g => zs (fun r => if T.ky c r ≠ -9000000000 ∧ zMb T b T.nr (G g) r = true then T.ky c r else 0) T.nr
/-- what is left at the end -/
def zGe (t now : Nat) (ver : Nat → Nat → zT) (tx : List Nat) (pr : Nat × (Nat → Nat) × (Nat → Int32)) (h : zx_H) (x : Option ((Int32 ⊕ Nat) × zx_H)) : Prop := ∃ g now' ver' gr', x = some (.inl 1, g) ∧ zR g ∧ zWd g now' ver' tx pr gr' ∧ zSp t 2 1000 h now ver g now' ver' ∧ (ver' now' t).nc = (ver now t).nc ∧ (ver' now' t).kd = (ver now t).kd ∧ (ver' now' t).nr = (ver now t).nr + 1
theorem zGe_m {h h' : zx_H} {x : Option ((Int32 ⊕ Nat) × zx_H)} {k : Nat} (a : ∃ g now' ver' gr', x = some (.inl 1, g) ∧ zR g ∧ zWd g now' ver' tx pr gr' ∧ zSp t 2 k h' now ver g now' ver' ∧ (ver' now' t).nc = (ver now t).nc ∧ (ver' now' t).kd = (ver now t).kd ∧ (ver' now' t).nr = (ver now t).nr + 1) (hm : zM h' + k ≤ zM h + 1000) : zGe t now ver tx pr h x := by
  obtain ⟨g, n', v', g', a1, a2, a3, ⟨b1, b2, b3, b4⟩, a5⟩ := a
  exact ⟨g, n', v', g', a1, a2, a3, ⟨b1, b2, by omega, b4⟩, a5⟩
/-- the mean -/
theorem zgd564 {gr : zT × Nat × Nat × (Nat → Int64) × (Nat → Nat → Bool)} (w : zWd h now ver tx pr gr) (ht : t < 3) (hc : c < (ver now t).nc) {isN : Bool} (hN : isN = decide ((ver now t).kd c = 0)) : f_ColumnVaultLaw_isGrouped_564 1 (nI t) (nI c) (zb isN) h = some (.inl 1, h) := by
  have h40 := (w.T ht).r40
  have hle := fb_ct_le (zKn (ver now t) c (ver now t).ch) (ver now t).nr
  unfold f_ColumnVaultLaw_isGrouped_564
  by_cases hk : (ver now t).kd c = 0
  · rw [hN, decide_eq_true hk, if_neg (by decide)]
    have e0 := w.totalE ht hc 0 ((w.T ht).total0 (w.F ht) hc (ver now t).ch)
    have e1 := w.totalE ht hc 1 ((w.T ht).total1 hc hk (ver now t).ch)
    by_cases hz : fb_ct (zKn (ver now t) c (ver now t).ch) (ver now t).nr = 0
    · rw [ze_b w.is, ze_b3 e0, if_pos (by rw [hz]; rfl)]
    · have hne : ¬ lN (fb_ct (zKn (ver now t) c (ver now t).ch) (ver now t).nr) = (0 : Int64) := fun x => hz ((zN_i (b := 0) (by omega) (by decide)).mp x)
      have em := w.mean ht hc hk hz
      obtain ⟨k1, k2⟩ := zmean_ok (zs (fun r => if (ver now t).ky c r ≠ -9000000000 ∧ (ver now t).ch r = true then (ver now t).ky c r else 0) (ver now t).nr) (n := fb_ct (zKn (ver now t) c (ver now t).ch) (ver now t).nr) (by omega) (by omega)
      rw [zi2d (by omega)] at k1 k2 em
      rw [ze_b w.is, ze_b3 e0, if_neg hne, ze_b w.is, ze_b3 em, ze_b w.is, ze_b3 e1, ze_b w.is, ze_b3 e0, if_pos k1, k2, if_neg (fun x => x rfl)]
  · rw [hN, decide_eq_false hk, if_pos (by decide)]
/-- a row more, with a value: the groups stay -/
theorem zgd509 (r : zR h) (w : zWd h now ver tx pr (zgr T b m G)) (hT : ver now t = T) (wT : zWF T) (ht : t < 3) (hc : c < T.nc) (hr : T.nr < 40) (hm40 : m ≤ 40) (hNow : now < 90000) {isN : Bool} (hN : isN = decide (T.kd c = 0)) {v : Int64} (hv : 0 < m → v = lN (fb_ct (zKn T c (zMb T b T.nr (G 0))) T.nr)) (hB : zM h ≤ 6600000) : ∃ g now' ver' gr', f_ColumnVaultLaw_isGrouped_509 1 0 (nI t) (nI c) (zb isN) (nI m) v h = some (.inl 1, g) ∧ zR g ∧ zWd g now' ver' tx pr gr' ∧ zSp t 2 170 h now ver g now' ver' ∧ (ver' now' t).nc = (ver now t).nc ∧ (ver' now' t).kd = (ver now t).kd ∧ (ver' now' t).nr = (ver now t).nr + 1 := by
  subst hT
  obtain ⟨g1, e1, w1, U1⟩ := w.addRow (by omega) ht hr
  have r1 := r.U U1
  have m1 := zU_m U1
  have hwl := w1.len
  have t1 : zvc ver now t (zRow (ver now t)) (now + 1) t = zRow (ver now t) := zvc_t
  have hc1 : c < (zvc ver now t (zRow (ver now t)) (now + 1) t).nc := by rw [t1]; exact hc
  have hr1 : (ver now t).nr < (zvc ver now t (zRow (ver now t)) (now + 1) t).nr := by rw [t1]; exact Nat.lt_succ_self _
  have kd1 : (zvc ver now t (zRow (ver now t)) (now + 1) t).kd c = (ver now t).kd c := by rw [t1]; rfl
  have ek := w1.kind ht hc1
  rw [kd1] at ek
  obtain ⟨g2, x, e2, ok, r2, G2⟩ := zvalue r1 (by omega) (by omega) (wT.k1 hc)
  have m2 := G2.m
  have w2 := w1.G G2 (Or.inr (Nat.le_refl _))
  obtain ⟨y, oky, ney, ey⟩ := zokV_k ok
  obtain ⟨g3, e3, w3, U3⟩ := w2.set (by omega) ht hc1 hr1 (by rw [kd1]; exact oky) ney
  rw [kd1, ey] at e3
  have r3 := r2.U U3
  have m3 := zU_m U3
  have hmiss : (zvc ver now t (zRow (ver now t)) (now + 1) t).ky c (ver now t).nr = -9000000000 := by
    rw [t1]
    show (if (ver now t).nr = (ver now t).nr then (-9000000000 : Int64) else _) = _
    rw [if_pos rfl]
  have hch : decide (y ≠ (zvc ver now t (zRow (ver now t)) (now + 1) t).ky c (ver now t).nr) = true := decide_eq_true (by rw [hmiss]; exact ney)
  rw [hch] at e3
  generalize hT3 : zPut (zvc ver now t (zRow (ver now t)) (now + 1) t) c (ver now t).nr y = T3 at w3
  have t3 : zvc (zvc ver now t (zRow (ver now t))) (now + 1) t T3 (now + 1 + 1) t = T3 := zvc_t
  have q1 : T3.nc = (ver now t).nc := by rw [← hT3, t1]; rfl
  have q2 : T3.kd = (ver now t).kd := by rw [← hT3, t1]; rfl
  have q3 : T3.nr = (ver now t).nr + 1 := by rw [← hT3, t1]; rfl
  have e4 := zgd564 (c := c) w3 ht (by rw [t3, q1]; exact hc) (isN := isN) (by rw [t3, q2]; exact hN)
  refine ⟨g3, now + 1 + 1, zvc (zvc ver now t (zRow (ver now t))) (now + 1) t T3, zgr (ver now t) b m G, ?_, r3, w3, (((zSp.c (u := t) (n1 := now) (v1 := ver) (T := zRow (ver now t)) U1).t (zSp.g G2)).t (zSp.c (u := t) (T := T3) U3)).w (by omega) (by omega), by rw [t3, q1], by rw [t3, q2], by rw [t3, q3]⟩
  unfold f_ColumnVaultLaw_isGrouped_509
  rw [ze_b w.is, ze_b3 e1, ze_b w1.is, ze_b3 ek, ze_b2 e2, ze_b w2.is, ze_b3 e3, if_neg (by decide)]
  by_cases hm : m = 0
  · rw [if_pos (by rw [hm]; rfl)]
    exact e4
  · obtain ⟨-, S, F, -⟩ := w3.grs
    have e5 := w3.groupTotalE (a := 0) (by omega) hc 0 (S.total0 F hc (zMb (ver now t) b (ver now t).nr (G 0)))
    rw [nI_0] at e5
    rw [if_neg (nI_ne0 (by omega) (by omega)), ze_b w3.is, ze_b3 e5, if_neg (fun z => z (hv (by omega)).symm)]
    exact e4
theorem zgd473 (r : zR h) (w : zWd h now ver tx pr (zgr T b m G)) (hT : ver now t = T) (wT : zWF T) (ht : t < 3) (hc : c < T.nc) (hr : T.nr < 40) (hm40 : m ≤ 40) (hNow : now < 90000) {isN : Bool} (hN : isN = decide (T.kd c = 0)) (hB : zM h ≤ 6500000) : ∃ g now' ver' gr', f_ColumnVaultLaw_isGrouped_473 1 0 (nI t) (nI c) (zb isN) (nI m) h = some (.inl 1, g) ∧ zR g ∧ zWd g now' ver' tx pr gr' ∧ zSp t 2 190 h now ver g now' ver' ∧ (ver' now' t).nc = (ver now t).nc ∧ (ver' now' t).kd = (ver now t).kd ∧ (ver' now' t).nr = (ver now t).nr + 1 := by
  have e1 := zask11E (c := 0) w.is z13 (w.groupAtNo (a := m) (Nat.le_refl _) (by omega) 0 (by omega))
  have G1 : zG 20 0 0 h (h ++ [.inr (13, [])]) := zG_exc
  generalize h ++ [(.inr (13, []) : zx_E)] = g1 at e1 G1
  have w1 := w.G G1 (Or.inr (by decide))
  have r1 := r.G G1 (Or.inr rfl)
  have m1 := G1.m
  unfold f_ColumnVaultLaw_isGrouped_473
  rw [ze_b2 e1, if_pos (show zxc 13 = -3000000001 from rfl)]
  by_cases hm : m = 0
  · obtain ⟨g, n', v', gr', a1, a2, a3, a4, a5⟩ := zgd509 (c := c) (v := 0) r1 w1 hT wT ht hc hr hm40 hNow hN (fun x => by omega) (by omega)
    rw [if_neg (fun z => z (by rw [hm]; rfl))]
    exact ⟨g, n', v', gr', a1, a2, a3, ((zSp.g G1).t a4).w (by omega) (by omega), a5⟩
  · obtain ⟨-, S, F, -⟩ := w1.grs
    have e5 := w1.groupTotalE (a := 0) (by omega) hc 0 (S.total0 F hc (zMb T b T.nr (G 0)))
    rw [nI_0] at e5
    obtain ⟨g, n', v', gr', a1, a2, a3, a4, a5⟩ := zgd509 (c := c) r1 w1 hT wT ht hc hr hm40 hNow hN (fun _ => rfl) (by omega)
    rw [if_pos (nI_ne0 (by omega) (by omega)), ze_b w1.is, ze_b3 e5]
    exact ⟨g, n', v', gr', a1, a2, a3, ((zSp.g G1).t a4).w (by omega) (by omega), a5⟩
theorem zgd431 (r : zR h) (w : zWd h now ver tx pr (zgr T b m G)) (hT : ver now t = T) (wT : zWF T) (ht : t < 3) (hc : c < T.nc) (hr : T.nr < 40) (hm40 : m ≤ 40) (hNow : now < 90000) {isN : Bool} (hN : isN = decide (T.kd c = 0)) {l : Int64} (hl : zLeast T c T.ch l) (hB : zM h ≤ 6400000) : ∃ g now' ver' gr', f_ColumnVaultLaw_isGrouped_431 1 0 (nI t) (nI c) (zb isN) (nI m) l h = some (.inl 1, g) ∧ zR g ∧ zWd g now' ver' tx pr gr' ∧ zSp t 2 300 h now ver g now' ver' ∧ (ver' now' t).nc = (ver now t).nc ∧ (ver' now' t).kd = (ver now t).kd ∧ (ver' now' t).nr = (ver now t).nr + 1 := by
  have hc' : c < (ver now t).nc := by rw [hT]; exact hc
  obtain ⟨g1, x, e1, hx, G1⟩ := zask_least w ht hc' (by omega)
  rw [hT] at hx
  have ex := zLeast_one hx hl
  have w1 := w.G G1 (Or.inr (by decide))
  have r1 := r.G G1 (Or.inr rfl)
  have m1 := G1.m
  unfold f_ColumnVaultLaw_isGrouped_431
  rw [ze_b2 e1, if_pos ex]
  by_cases hk : T.kd c = 0
  · obtain ⟨g, n', v', gr', a1, a2, a3, a4, a5⟩ := zgd473 (c := c) r1 w1 hT wT ht hc hr hm40 hNow hN (by omega)
    rw [if_pos (by rw [hN, decide_eq_true hk]; decide)]
    exact ⟨g, n', v', gr', a1, a2, a3, ((zSp.g G1).t a4).w (by omega) (by omega), a5⟩
  · have k1 := wT.k1 hc
    have e2 := zask12E (c := 1) w1.is z14 (w1.totalE ht hc' ((1 : Int64)).toInt32 ((w1.T ht).total1No hc' (by rw [hT]; omega) _ (by omega)))
    have G2 : zG 20 0 0 g1 (g1 ++ [.inr (14, [])]) := zG_exc
    generalize g1 ++ [(.inr (14, []) : zx_E)] = g2 at e2 G2
    have w2 := w1.G G2 (Or.inr (by decide))
    have r2 := r1.G G2 (Or.inr rfl)
    have m2 := G2.m
    obtain ⟨g, n', v', gr', a1, a2, a3, a4, a5⟩ := zgd473 (c := c) r2 w2 hT wT ht hc hr hm40 hNow hN (by omega)
    rw [if_neg (fun z => z (by rw [hN, decide_eq_false hk]; rfl)), ze_b2 e2, if_neg (fun z => z (show zxc 14 = -3000000003 from rfl))]
    exact ⟨g, n', v', gr', a1, a2, a3, (((zSp.g G1).t (zSp.g G2)).t a4).w (by omega) (by omega), a5⟩
theorem zar1 (y z : Nat) : y + 200 + 272 + (z + 300) ≤ y + (z + 500 + 300) := by omega
theorem zgd64 (hT : ver now t = T) (wT : zWF T) (ht : t < 3) (hb : b < T.nc) (hc : c < T.nc) (hr : T.nr < 40) (hm40 : m ≤ 40) (gs : zGs T b T.nr m G) (hNow : now < 90000) {isN : Bool} (hN : isN = decide (T.kd c = 0)) : ∀ n k h l, k ≤ m → m - k < n → zR h → zWd h now ver tx pr (zgr T b m G) → zLeast T c (zPk T b G k) l → zM h + 500 * (m - k) ≤ 6300000 → ∃ g now' ver' gr', f_ColumnVaultLaw_isGrouped_64 n 1 0 (nI t) (nI b) (nI c) (zb isN) (nI m) (nI (fb_sm (fun g => fb_ct (zMb T b T.nr (G g)) T.nr) k)) (if isN = true then zs (zSg T b c G) k else 0) (lN (fb_sm (fun g => fb_ct (zKn T c (zMb T b T.nr (G g))) T.nr) k)) l (nI k) h = some (.inl 1, g) ∧ zR g ∧ zWd g now' ver' tx pr gr' ∧ zSp t 2 (500 * (m - k) + 300) h now ver g now' ver' ∧ (ver' now' t).nc = (ver now t).nc ∧ (ver' now' t).kd = (ver now t).kd ∧ (ver' now' t).nr = (ver now t).nr + 1 := by
  have hb' : b < (ver now t).nc := by rw [hT]; exact hb
  have hc' : c < (ver now t).nc := by rw [hT]; exact hc
  intro n
  induction n with
  | zero => intro k _ _ _ hn; exact absurd hn (Nat.not_lt_zero _)
  | succ n ih =>
    intro k h l hk hn r w hl hB
    unfold f_ColumnVaultLaw_isGrouped_64
    rcases Nat.lt_or_ge k m with hlt | hge
    · -- the rows of group k, in a heap a little larger
      have go : ∀ g1, zG 200 0 0 h g1 → ∃ g now' ver' gr', f_ColumnVaultLaw_isGrouped_148 (f_ColumnVaultLaw_isGrouped_64 n) zF 1 0 (nI t) (nI b) (nI c) (zb isN) (nI m) (nI (fb_sm (fun g => fb_ct (zMb T b T.nr (G g)) T.nr) k)) (if isN = true then zs (zSg T b c G) k else 0) (lN (fb_sm (fun g => fb_ct (zKn T c (zMb T b T.nr (G g))) T.nr) k)) l (nI k) (ztd (T.kd b) (G k)) (0 : Int32) (-1 : Int32) (-1 : Int32) (0 : Int32) g1 = some (.inl 1, g) ∧ zR g ∧ zWd g now' ver' tx pr gr' ∧ zSp t 2 (500 * (m - k) + 300) h now ver g now' ver' ∧ (ver' now' t).nc = (ver now t).nc ∧ (ver' now' t).kd = (ver now t).kd ∧ (ver' now' t).nr = (ver now t).nr + 1 := by
        intro g1 G1
        have w1 := w.G G1 (Or.inr (by decide))
        have r1 := r.G G1 (Or.inr rfl)
        have m1 := G1.m
        have e1 := zgd148 (K := f_ColumnVaultLaw_isGrouped_64 n) (p4 := nI c) (p5 := zb isN) (p6 := nI m) (p7 := nI (fb_sm (fun g => fb_ct (zMb T b T.nr (G g)) T.nr) k)) (p8 := if isN = true then zs (zSg T b c G) k else 0) (p9 := lN (fb_sm (fun g => fb_ct (zKn T c (zMb T b T.nr (G g))) T.nr) k)) (p10 := l) w1 hT wT ht hb hlt gs zF 0 (-1) (-1) (Nat.zero_le _) (by unfold zF; omega) zFst_0 zLst_0
        rw [show fb_ct (fun j => zMb T b T.nr (G k) (T.od j)) 0 = 0 from rfl, nI_0, nI_add] at e1
        have s1 : fb_sm (fun g => fb_ct (zMb T b T.nr (G g)) T.nr) k + fb_ct (zMb T b T.nr (G k)) T.nr = fb_sm (fun g => fb_ct (zMb T b T.nr (G g)) T.nr) (k + 1) := rfl
        have s2 : fb_sm (fun g => fb_ct (zKn T c (zMb T b T.nr (G g))) T.nr) k + fb_ct (zKn T c (zMb T b T.nr (G k))) T.nr = fb_sm (fun g => fb_ct (zKn T c (zMb T b T.nr (G g))) T.nr) (k + 1) := rfl
        rw [s1] at e1
        rw [e1]
        -- totals
        have go2 : ∀ p12 : Int64, (if isN = true then zs (zSg T b c G) k else 0) + p12 = (if isN = true then zs (zSg T b c G) (k + 1) else 0) → ∃ g now' ver' gr', f_ColumnVaultLaw_isGrouped_300 (f_ColumnVaultLaw_isGrouped_64 n) 1 0 (nI t) (nI b) (nI c) (zb isN) (nI m) (nI (fb_sm (fun g => fb_ct (zMb T b T.nr (G g)) T.nr) (k + 1))) (lN (fb_sm (fun g => fb_ct (zKn T c (zMb T b T.nr (G g))) T.nr) k)) l (nI k) (if isN = true then zs (zSg T b c G) k else 0) p12 g1 = some (.inl 1, g) ∧ zR g ∧ zWd g now' ver' tx pr gr' ∧ zSp t 2 (500 * (m - k) + 300) h now ver g now' ver' ∧ (ver' now' t).nc = (ver now t).nc ∧ (ver' now' t).kd = (ver now t).kd ∧ (ver' now' t).nr = (ver now t).nr + 1 := by
          intro p12 ep
          obtain ⟨g2, l', e2, r2, w2, hl2, m2⟩ := zgd300 (K := f_ColumnVaultLaw_isGrouped_64 n) (p3 := nI b) (p5 := zb isN) (p6 := nI m) (p7 := nI (fb_sm (fun g => fb_ct (zMb T b T.nr (G g)) T.nr) (k + 1))) (p11 := if isN = true then zs (zSg T b c G) k else 0) (p12 := p12) (a := fb_sm (fun g => fb_ct (zKn T c (zMb T b T.nr (G g))) T.nr) k) r1 w1 hT wT ht hc hlt hl (by omega)
          obtain ⟨g3, n', v', gr', a1, a2, a3, ⟨b1, b2, b3, b4⟩, a5⟩ := ih (k + 1) g2 l' hlt (by omega) r2 w2 hl2 (by omega)
          rw [s2, ep] at e2
          refine ⟨g3, n', v', gr', e2.trans a1, a2, a3, ⟨b1, b2, ?_, b4⟩, a5⟩
          have q : 500 * (m - k) = 500 * (m - (k + 1)) + 500 := by clear s1 s2; omega
          have q2 := Nat.le_trans m2 (Nat.add_le_add_right m1 272)
          have q3 := Nat.le_trans b3 (Nat.add_le_add_right q2 _)
          rw [q]
          refine Nat.le_trans q3 ?_
          exact zar1 _ _
        by_cases hkn : T.kd c = 0
        · have hi : isN = true := by rw [hN]; exact decide_eq_true hkn
          obtain ⟨-, S, F, -⟩ := w1.grs
          have e5 := w1.groupTotalE (a := k) hlt hc 1 (S.total1 hc hkn (zMb T b T.nr (G k)))
          rw [if_neg (show ¬ zb isN = 0 from zb1 hi), ze_b w1.is, ze_b3 e5]
          refine go2 _ ?_
          rw [if_pos hi, if_pos hi]
          rfl
        · have hi : ¬ isN = true := by rw [hN, decide_eq_false hkn]; decide
          rw [if_pos (zbt0 hi)]
          refine go2 _ ?_
          rw [if_neg hi, if_neg hi, Int64.add_zero]
      have e0 := w.groupAt0 hb gs hlt
      rw [if_neg (nI_ge hlt (by omega)), ze_b w.is, ze_b3 e0]
      by_cases hz : k = 0
      · rw [if_pos (by rw [hz]; decide)]
        exact go h (zG.refl.w (Nat.zero_le _) (Nat.le_refl _) (Nat.le_refl _))
      · have ep := w.groupAt0 hb gs (a := k - 1) (by omega)
        have e1 : nI k - (1 : Int32) = nI (k - 1) := pk_sub (a := k) (b := 1) (by omega)
        have hrk := gs.1 (k - 1) k (by omega) hlt
        obtain ⟨r0, hr0, hc0, ek0⟩ := gs.2.1 k hlt
        obtain ⟨r1, hr1, hc1, ek1⟩ := gs.2.1 (k - 1) (by omega)
        have kG : zokK (T.kd b) (G k) := by rw [← ek0]; exact wT.k hb hr0
        have kG1 : zokK (T.kd b) (G (k - 1)) := by rw [← ek1]; exact wT.k hb hr1
        have ra := zrk_rng (G k)
        have hpm : G (k - 1) ≠ -9000000000 := fun x => by
          rw [x, zrk_m, if_neg (by decide)] at hrk
          by_cases y : G k = -9000000000
          · rw [y, zrk_m, if_neg (by decide)] at hrk; omega
          · rw [zrk_n y, if_neg (by decide)] at hrk; omega
        rw [if_neg (nI_nle (by omega) (by omega)), ze_b w.is, e1, ze_b3 ep, if_neg (fun x => hpm ((ztd_mi kG1).mp x))]
        by_cases hm : G k = -9000000000
        · rw [if_pos ((ztd_mi kG).mpr hm)]
          exact go h (zG.refl.w (Nat.zero_le _) (Nat.le_refl _) (Nat.le_refl _))
        · rw [zrk_n hpm, zrk_n hm, if_neg (by decide), if_neg (by decide)] at hrk
          obtain ⟨g1, eth, G1⟩ := zthan kG1 kG hpm hm (show zM h ≤ 6700000 by omega)
          have ez : zcm (G (k - 1)) (G k) = -1 := if_pos (by rw [zl_t]; exact hrk)
          rw [ez] at eth
          have kd := w.kind ht hb'
          rw [hT] at kd
          rw [if_neg (fun x => hm ((ztd_mi kG).mp x)), ze_b w.is, ze_b3 kd, ze_b w.is, ze_b3 ep, ze_b2 eth, if_pos (by decide)]
          exact go g1 G1
    · have e : k = m := Nat.le_antisymm hk hge
      subst e
      have s2 := w.size2 ht
      rw [hT] at s2
      have e0 := w.totalE ht hc' 0 ((w.T ht).total0 (w.F ht) hc' (ver now t).ch)
      rw [hT] at e0
      have hl' : zLeast T c T.ch l := zLeast_c (fun r hr => zPk_all gs hr) hl
      obtain ⟨g, n', v', gr', a1, a2, a3, a4, a5⟩ := zgd431 (c := c) r w hT wT ht hc hr hm40 hNow hN hl' (by omega)
      rw [if_pos (nI_le (Nat.le_refl _) (by omega)), ze_b w.is, ze_b3 s2, gs.cnt, if_neg (fun x => x rfl), ze_b w.is, ze_b3 e0, zgs_kn gs c, if_neg (fun x => x rfl)]
      by_cases hkn : T.kd c = 0
      · have hi : isN = true := by rw [hN]; exact decide_eq_true hkn
        have e1 := w.totalE ht hc' 1 ((w.T ht).total1 hc' (by rw [hT]; exact hkn) (ver now t).ch)
        rw [hT] at e1
        have hsum : zs (zSg T b c G) k = zs (fun r => if T.ky c r ≠ -9000000000 ∧ T.ch r = true then T.ky c r else 0) T.nr := gs.sum (T.ky c)
        rw [if_neg (show ¬ zb isN = 0 from zb1 hi), ze_b w.is, ze_b3 e1, if_pos hi, hsum, if_neg (fun x => x rfl)]
        exact ⟨g, n', v', gr', a1, a2, a3, a4.w (by omega) (by omega), a5⟩
      · have hi : ¬ isN = true := by rw [hN, decide_eq_false hkn]; decide
        rw [if_pos (zbt0 hi)]
        exact ⟨g, n', v', gr', a1, a2, a3, a4.w (by omega) (by omega), a5⟩
theorem zgrouped {gr : zT × Nat × Nat × (Nat → Int64) × (Nat → Nat → Bool)} (r : zR h) (w : zWd h now ver tx pr gr) (ht : t < 3) (h1 : 1 ≤ (ver now t).nc) (hr : (ver now t).nr < 40) (hNow : now < 90000) (hB : zM h ≤ 6200000) : ∃ g now' ver' gr', f_ColumnVaultLaw_isGrouped 1 0 (nI t) h = some (.inl 1, g) ∧ zR g ∧ zWd g now' ver' tx pr gr' ∧ zSp t 2 22000 h now ver g now' ver' ∧ (ver' now' t).nc = (ver now t).nc ∧ (ver' now' t).kd = (ver now t).kd ∧ (ver' now' t).nr = (ver now t).nr + 1 := by
  have h4 := (w.T ht).c4
  obtain ⟨b, g1, hb, e1, r1, w1, G1⟩ := zdrawW r w (n := (ver now t).nc) (by omega) (by omega)
  obtain ⟨c, g2, hc, e2, r2, w2, G2⟩ := zdrawW r1 w1 (n := (ver now t).nc) (by omega) (by omega)
  have m1 := G1.m
  have m2 := G2.m
  have k1 := (w.F ht).k1 hc
  obtain ⟨g3, m, G, e3, w3, gs, hm, U3⟩ := w2.group ht hb
  have G3 := zG_U U3 (a := 157) (b := 164) (Nat.le_refl _) (by decide)
  have r3 := r2.G G3 (Or.inl (by decide))
  have m3 := G3.m
  have tail : ∀ isN : Bool, isN = decide ((ver now t).kd c = 0) → ∃ g now' ver' gr', f_ColumnVaultLaw_isGrouped_36 1 0 (nI t) (nI b) (nI c) (zb isN) g2 = some (.inl 1, g) ∧ zR g ∧ zWd g now' ver' tx pr gr' ∧ zSp t 2 22000 h now ver g now' ver' ∧ (ver' now' t).nc = (ver now t).nc ∧ (ver' now' t).kd = (ver now t).kd ∧ (ver' now' t).nr = (ver now t).nr + 1 := by
    intro isN hN
    obtain ⟨g, n', v', gr', a1, a2, a3, a4, a5⟩ := zgd64 (t := t) (b := b) (c := c) (m := m) (G := G) (ver := ver) (now := now) (tx := tx) (pr := pr) rfl (w.F ht) ht hb hc hr hm gs hNow hN zF 0 g3 (-3000000002) (Nat.zero_le _) (by unfold zF; omega) r3 w3 (zLeast_0 fun _ _ => rfl) (by omega)
    refine ⟨g, n', v', gr', ?_, a2, a3, ((((zSp.g G1).t (zSp.g G2)).t (zSp.g G3)).t a4).w (by omega) (by omega), a5⟩
    unfold f_ColumnVaultLaw_isGrouped_36
    rw [ze_b w2.is, ze_b3 e3]
    have z1 : (if isN = true then zs (zSg (ver now t) b c G) 0 else 0) = (0 : Int64) := by
      by_cases x : isN = true
      · rw [if_pos x]; rfl
      · rw [if_neg x]
    rw [z1] at a1
    exact a1
  have kd := w2.kind ht hc
  unfold f_ColumnVaultLaw_isGrouped
  rw [ze_b w.is, ze_b3 (w.size1 ht), ze_b2 e1, ze_b2 e2, ze_b w2.is, ze_b3 kd]
  by_cases hk : (ver now t).kd c = 0
  · rw [if_neg (fun x => x (by rw [hk]; rfl))]
    exact tail true (decide_eq_true hk).symm
  · rw [if_pos (nI_ne0 (by omega) (by omega))]
    exact tail false (decide_eq_false hk).symm
end ZGQ

/-! ===== isTold: one place more ===== -/
section ZTF
variable {h : zx_H} {now : Nat} {ver : Nat → Nat → zT} {tx : List Nat} {pr : Nat × (Nat → Nat) × (Nat → Int32)} {gr : zT × Nat × Nat × (Nat → Int64) × (Nat → Nat → Bool)} {t c p : Nat} {T : zT} {K : zK90} {kf kt : Int64} {below : Bool} {y : Int64}
/-- told of the best key, or nothing -/
def zEb (kd : Nat) (best : Int64) : Int64 := if best = -9000000000 then -3000000002 else ztd kd best
def zNq (T : zT) (c : Nat) (kf : Int64) (below : Bool) (p : Nat) (y : Int64) : Prop := ∃ best, zNear (zOt T) c kf below p best ∧ y = zEb (T.kd c) best
theorem zNear_k {best : Int64} (h : zNear (zOt T) c kf below p best) (hb : best ≠ -9000000000) (hp : p ≤ T.nr) : ∃ r, r < p ∧ T.ky c (T.od r) = best := by
  rcases h with ⟨h1, _⟩ | ⟨_, ⟨r, hr, e⟩, _⟩
  · exact absurd h1 hb
  · exact ⟨r, hr, e⟩
theorem zNq_0 (a : zNq T c kf below p y) (h : ¬ (T.ky c (T.od p) ≠ -9000000000 ∧ (if below = true then T.ky c (T.od p) ≤ kf else kf ≤ T.ky c (T.od p)))) : zNq T c kf below (p + 1) y := by
  obtain ⟨best, h1, h2⟩ := a
  have h3 := zNear_s h1
  have e : (zOt T).ky c p = T.ky c (T.od p) := rfl
  rw [e, if_neg (fun x => h ⟨x.1, x.2.1⟩)] at h3
  exact ⟨best, h3, h2⟩
theorem zNq_1 (a : zNq T c kf below p y) (hm : T.ky c (T.od p) ≠ -9000000000) (hf : if below = true then T.ky c (T.od p) ≤ kf else kf ≤ T.ky c (T.od p)) (hy : y = -3000000002) (wT : zWF T) (hc : c < T.nc) (hp : p < T.nr) : zNq T c kf below (p + 1) (ztd (T.kd c) (T.ky c (T.od p))) := by
  obtain ⟨best, h1, h2⟩ := a
  have hb : best = -9000000000 := by
    refine Classical.byContradiction fun x => ?_
    obtain ⟨r, hr, e⟩ := zNear_k h1 x (by omega)
    rw [h2] at hy
    unfold zEb at hy
    rw [if_neg x] at hy
    refine zE_ne ?_ x hy
    rw [← e]
    exact wT.k hc (wT.o (by omega))
  have h3 := zNear_s h1
  have e : (zOt T).ky c p = T.ky c (T.od p) := rfl
  rw [e, if_pos ⟨hm, hf, Or.inl hb⟩] at h3
  refine ⟨_, h3, ?_⟩
  unfold zEb
  rw [if_neg hm]
theorem zNq_2 (a : zNq T c kf below p y) (hm : T.ky c (T.od p) ≠ -9000000000) (hf : if below = true then T.ky c (T.od p) ≤ kf else kf ≤ T.ky c (T.od p)) (hy : y ≠ -3000000002) (wT : zWF T) (hc : c < T.nc) (hp : p < T.nr) : ∃ best, best ≠ -9000000000 ∧ zokK (T.kd c) best ∧ y = ztd (T.kd c) best ∧ ((if below = true then best < T.ky c (T.od p) else T.ky c (T.od p) < best) → zNq T c kf below (p + 1) (ztd (T.kd c) (T.ky c (T.od p)))) ∧ (¬ (if below = true then best < T.ky c (T.od p) else T.ky c (T.od p) < best) → zNq T c kf below (p + 1) y) := by
  obtain ⟨best, h1, h2⟩ := a
  have hb : best ≠ -9000000000 := fun x => hy (by rw [h2]; exact if_pos x)
  obtain ⟨r, hr, er⟩ := zNear_k h1 hb (by omega)
  have h3 := zNear_s h1
  have e : (zOt T).ky c p = T.ky c (T.od p) := rfl
  rw [e] at h3
  refine ⟨best, hb, by rw [← er]; exact wT.k hc (wT.o (by omega)), by rw [h2]; exact if_neg hb, fun hx => ?_, fun hx => ?_⟩
  · rw [if_pos ⟨hm, hf, Or.inr hx⟩] at h3
    exact ⟨_, h3, (if_neg hm).symm⟩
  · rw [if_neg (fun z => z.2.2.elim hb hx)] at h3
    exact ⟨_, h3, h2⟩
theorem zcm_lt (a b : Int64) : zcm a b < 0 ↔ a < b := by
  unfold zcm
  by_cases h1 : a < b
  · rw [if_pos h1]; exact ⟨fun _ => h1, fun _ => by decide⟩
  · rw [if_neg h1]
    by_cases h2 : a = b
    · rw [if_pos h2]; exact ⟨fun x => absurd x (by decide), fun x => absurd x h1⟩
    · rw [if_neg h2]; exact ⟨fun x => absurd x (by decide), fun x => absurd x h1⟩
theorem zcm_gt (a b : Int64) : 0 < zcm a b ↔ b < a := by
  unfold zcm
  by_cases h1 : a < b
  · rw [if_pos h1]; exact ⟨fun x => absurd x (by decide), fun x => by rw [zl_t] at h1 x; omega⟩
  · rw [if_neg h1]
    by_cases h2 : a = b
    · rw [if_pos h2]; exact ⟨fun x => absurd x (by decide), fun x => by rw [h2, zl_t] at x; omega⟩
    · rw [if_neg h2]
      exact ⟨fun _ => by rw [zl_t] at h1 ⊢; rw [zl_i] at h2; omega, fun _ => by decide⟩
theorem zcm_ge (a b : Int64) : 0 ≤ zcm a b ↔ b ≤ a := by
  have h1 := zcm_lt a b
  rw [zi_t] at h1
  rw [zi_e, zl_e]
  rw [zl_t] at h1
  have e : ((0 : Int32)).toInt = 0 := by decide
  rw [e] at h1 ⊢
  omega
theorem zcm_le (a b : Int64) : zcm a b ≤ 0 ↔ a ≤ b := by
  have h1 := zcm_gt a b
  rw [zi_t] at h1
  rw [zi_e, zl_e]
  rw [zl_t] at h1
  have e : ((0 : Int32)).toInt = 0 := by decide
  rw [e] at h1 ⊢
  omega
/-- the least one above -/
theorem ztd463 (w : zWd h now ver tx pr gr) (wT : zWF T) (hc : c < T.nc) (hp : p < T.nr) (hkf : zokK (T.kd c) kf) (hkf' : kf ≠ -9000000000) (hm : T.ky c (T.od p) ≠ -9000000000) {p4 p5 : Int32} {p7 : Int64} {p8 p9 : Int32} {p11 p14 : Int64} (hy : zNq T c kf false p y) (hB : zM h ≤ 6500000) : ∃ g y', f_ColumnVaultLaw_isTold_463 K 1 (nI t) (nI c) (nI (T.kd c)) p4 p5 (ztd (T.kd c) kf) p7 p8 p9 y p11 (nI p) (ztd (T.kd c) (T.ky c (T.od p))) p14 h = K 1 (nI t) (nI c) (nI (T.kd c)) p4 p5 (ztd (T.kd c) kf) p7 p8 p9 p14 y' p11 (nI (p + 1)) g ∧ zNq T c kf false (p + 1) y' ∧ zG 400 0 0 h g := by
  have hk := wT.k hc (wT.o hp)
  obtain ⟨g1, e1, G1⟩ := zthan (h := h) hk hkf hm hkf' (by omega)
  have m1 := G1.m
  have G1' : zG 400 0 0 h g1 := G1.w (by omega) (Nat.le_refl _) (Nat.le_refl _)
  unfold f_ColumnVaultLaw_isTold_463
  rw [ze_b2 e1]
  by_cases hlt : T.ky c (T.od p) < kf
  · rw [if_pos ((zcm_lt _ _).mpr hlt), nI_1]
    refine ⟨g1, y, rfl, zNq_0 hy (fun x => ?_), G1'⟩
    have := x.2
    rw [if_neg (by decide), zl_e] at this
    rw [zl_t] at hlt
    omega
  · have hf : if false = true then T.ky c (T.od p) ≤ kf else kf ≤ T.ky c (T.od p) := by
      rw [if_neg (by decide), zl_e]
      rw [zl_t] at hlt
      omega
    rw [if_neg (fun x => hlt ((zcm_lt _ _).mp x))]
    by_cases hye : y = -3000000002
    · rw [if_pos hye, nI_1]
      exact ⟨g1, _, rfl, zNq_1 hy hm hf hye wT hc hp, G1'⟩
    · obtain ⟨best, b1, b2, b3, b4, b5⟩ := zNq_2 hy hm hf hye wT hc hp
      obtain ⟨g2, e2, G2⟩ := zthan (h := g1) hk b2 hm b1 (by omega)
      have e2 : f_ColumnVaultLaw_than (nI (T.kd c)) (ztd (T.kd c) (T.ky c (T.od p))) y g1 = some (zcm (T.ky c (T.od p)) best, g2) := by rw [b3]; exact e2
      rw [if_neg hye, ze_b2 e2]
      by_cases hge : best ≤ T.ky c (T.od p)
      · rw [if_pos ((zcm_ge _ _).mpr hge), nI_1]
        refine ⟨g2, y, rfl, b5 (fun x => ?_), (G1.t G2).w (by omega) (Nat.le_refl _) (Nat.le_refl _)⟩
        rw [if_neg (by decide), zl_t] at x
        rw [zl_e] at hge
        omega
      · rw [if_neg (fun x => hge ((zcm_ge _ _).mp x)), nI_1]
        refine ⟨g2, _, rfl, b4 ?_, (G1.t G2).w (by omega) (Nat.le_refl _) (Nat.le_refl _)⟩
        rw [if_neg (by decide), zl_t]
        rw [zl_e] at hge
        omega
/-- the greatest one below, then the least one above -/
theorem ztd420 (w : zWd h now ver tx pr gr) (wT : zWF T) (hc : c < T.nc) (hp : p < T.nr) (hkf : zokK (T.kd c) kf) (hkf' : kf ≠ -9000000000) (hm : T.ky c (T.od p) ≠ -9000000000) {p4 p5 : Int32} {p7 : Int64} {p8 p14 p15 : Int32} {p11 x : Int64} (hx : zNq T c kf true p x) (hy : zNq T c kf false p y) (hB : zM h ≤ 6400000) : ∃ g x' y', f_ColumnVaultLaw_isTold_420 K 1 (nI t) (nI c) (nI (T.kd c)) p4 p5 (ztd (T.kd c) kf) p7 p8 x y p11 (nI p) (ztd (T.kd c) (T.ky c (T.od p))) p14 p15 h = K 1 (nI t) (nI c) (nI (T.kd c)) p4 p5 (ztd (T.kd c) kf) p7 p8 (p14 + p15) x' y' p11 (nI (p + 1)) g ∧ zNq T c kf true (p + 1) x' ∧ zNq T c kf false (p + 1) y' ∧ zG 800 0 0 h g := by
  have hk := wT.k hc (wT.o hp)
  obtain ⟨g1, e1, G1⟩ := zthan (h := h) hk hkf hm hkf' (by omega)
  have m1 := G1.m
  have w1 := w.G G1 (Or.inr (by decide))
  have fin : ∀ (g2 : zx_H) (x' : Int64), zG 400 0 0 h g2 → zNq T c kf true (p + 1) x' → ∃ g x'' y', f_ColumnVaultLaw_isTold_463 K 1 (nI t) (nI c) (nI (T.kd c)) p4 p5 (ztd (T.kd c) kf) p7 p8 (p14 + p15) y p11 (nI p) (ztd (T.kd c) (T.ky c (T.od p))) x' g2 = K 1 (nI t) (nI c) (nI (T.kd c)) p4 p5 (ztd (T.kd c) kf) p7 p8 (p14 + p15) x'' y' p11 (nI (p + 1)) g ∧ zNq T c kf true (p + 1) x'' ∧ zNq T c kf false (p + 1) y' ∧ zG 800 0 0 h g := by
    intro g2 x' G2 hx'
    have m2 := G2.m
    obtain ⟨g, y', a1, a2, a3⟩ := ztd463 (K := K) (t := t) (p4 := p4) (p5 := p5) (p7 := p7) (p8 := p8) (p9 := p14 + p15) (p11 := p11) (p14 := x') (w.G G2 (Or.inr (by decide))) wT hc hp hkf hkf' hm hy (by omega)
    exact ⟨g, x', y', a1, hx', a2, (G2.t a3).w (by omega) (Nat.le_refl _) (Nat.le_refl _)⟩
  have G1' : zG 400 0 0 h g1 := G1.w (by omega) (Nat.le_refl _) (Nat.le_refl _)
  unfold f_ColumnVaultLaw_isTold_420
  rw [ze_b2 e1]
  by_cases hgt : kf < T.ky c (T.od p)
  · rw [if_pos ((zcm_gt _ _).mpr hgt)]
    refine fin g1 x G1' (zNq_0 hx (fun z => ?_))
    have := z.2
    rw [if_pos rfl, zl_e] at this
    rw [zl_t] at hgt
    omega
  · have hf : if true = true then T.ky c (T.od p) ≤ kf else kf ≤ T.ky c (T.od p) := by
      rw [if_pos rfl, zl_e]
      rw [zl_t] at hgt
      omega
    rw [if_neg (fun z => hgt ((zcm_gt _ _).mp z))]
    by_cases hxe : x = -3000000002
    · rw [if_pos hxe]
      exact fin g1 _ G1' (zNq_1 hx hm hf hxe wT hc hp)
    · obtain ⟨best, b1, b2, b3, b4, b5⟩ := zNq_2 hx hm hf hxe wT hc hp
      obtain ⟨g2, e2, G2⟩ := zthan (h := g1) hk b2 hm b1 (by omega)
      have e2 : f_ColumnVaultLaw_than (nI (T.kd c)) (ztd (T.kd c) (T.ky c (T.od p))) x g1 = some (zcm (T.ky c (T.od p)) best, g2) := by rw [b3]; exact e2
      have G12 := (G1.t G2).w (k' := 400) (by omega) (Nat.le_refl _) (Nat.le_refl _)
      rw [if_neg hxe, ze_b2 e2]
      by_cases hle : T.ky c (T.od p) ≤ best
      · rw [if_pos ((zcm_le _ _).mpr hle)]
        refine fin g2 x G12 (b5 (fun z => ?_))
        rw [if_pos rfl, zl_t] at z
        rw [zl_e] at hle
        omega
      · rw [if_neg (fun z => hle ((zcm_le _ _).mp z))]
        refine fin g2 _ G12 (b4 ?_)
        rw [if_pos rfl, zl_t]
        rw [zl_e] at hle
        omega
/-- within the two values -/
def zWi (T : zT) (c : Nat) (kf kt : Int64) : Nat → Bool := fun r => decide (kf ≤ T.ky c r ∧ T.ky c r ≤ kt)
theorem ztd357 (w : zWd h now ver tx pr gr) (hT : ver now t = T) (wT : zWF T) (ht : t < 3) (hc : c < T.nc) (hp : p < T.nr) (hkf : zokK (T.kd c) kf) (hkf' : kf ≠ -9000000000) (hkt : zokK (T.kd c) kt) (hkt' : kt ≠ -9000000000) {p4 p5 : Int32} {p12 x : Int64} (hx : zNq T c kf true p x) (hy : zNq T c kf false p y) (hB : zM h ≤ 6300000) : ∃ g x' y', f_ColumnVaultLaw_isTold_357 K 1 (nI t) (nI c) (nI (T.kd c)) p4 p5 (ztd (T.kd c) kf) (ztd (T.kd c) kt) (nI (fb_ct (fun j => zWi T c kf kt (T.od j)) p)) (nI (fb_ct (fun j => zKn T c T.ch (T.od j)) p)) x y p12 (nI p) (nI (T.od p)) (zVl T (T.od p) c) h = K 1 (nI t) (nI c) (nI (T.kd c)) p4 p5 (ztd (T.kd c) kf) (ztd (T.kd c) kt) (nI (fb_ct (fun j => zWi T c kf kt (T.od j)) (p + 1))) (nI (fb_ct (fun j => zKn T c T.ch (T.od j)) (p + 1))) x' y' p12 (nI (p + 1)) g ∧ zNq T c kf true (p + 1) x' ∧ zNq T c kf false (p + 1) y' ∧ zG 1200 0 0 h g := by
  subst hT
  have ho := wT.o hp
  have hk := wT.k hc ho
  have hge := zokK_ge hkf hkf'
  have hmi : zVl (ver now t) ((ver now t).od p) c = -9000000000 ↔ (ver now t).ky c ((ver now t).od p) = -9000000000 := ztd_mi hk
  have s1 : fb_ct (fun j => zWi (ver now t) c kf kt ((ver now t).od j)) (p + 1) = fb_ct (fun j => zWi (ver now t) c kf kt ((ver now t).od j)) p + (if zWi (ver now t) c kf kt ((ver now t).od p) = true then 1 else 0) := rfl
  have s2 : fb_ct (fun j => zKn (ver now t) c (ver now t).ch ((ver now t).od j)) (p + 1) = fb_ct (fun j => zKn (ver now t) c (ver now t).ch ((ver now t).od j)) p + (if zKn (ver now t) c (ver now t).ch ((ver now t).od p) = true then 1 else 0) := rfl
  unfold f_ColumnVaultLaw_isTold_357
  by_cases hm : (ver now t).ky c ((ver now t).od p) = -9000000000
  · have f1 : ¬ zWi (ver now t) c kf kt ((ver now t).od p) = true := fun z => by
      have := (of_decide_eq_true z).1
      rw [hm, zl_e, zl_m] at this
      omega
    have f2 : ¬ zKn (ver now t) c (ver now t).ch ((ver now t).od p) = true := fun z => (zKn_1 z).2 hm
    rw [if_neg f1, Nat.add_zero] at s1
    rw [if_neg f2, Nat.add_zero] at s2
    rw [if_neg (fun z => z (hmi.mpr hm)), s1, s2, nI_1]
    exact ⟨h, x, y, rfl, zNq_0 hx (fun z => z.1 hm), zNq_0 hy (fun z => z.1 hm), zG.refl.w (Nat.zero_le _) (Nat.le_refl _) (Nat.le_refl _)⟩
  · obtain ⟨g1, e1, G1⟩ := zthan (h := h) hk hkf hm hkf' (by omega)
    have m1 := G1.m
    have e1 : f_ColumnVaultLaw_than (nI ((ver now t).kd c)) (zVl (ver now t) ((ver now t).od p) c) (ztd ((ver now t).kd c) kf) h = _ := e1
    -- what follows
    have fin : ∀ (g2 : zx_H) (a : Nat), zG 400 0 0 h g2 → (a = if zWi (ver now t) c kf kt ((ver now t).od p) = true then 1 else 0) → ∃ g x' y', f_ColumnVaultLaw_isTold_400 K 1 (nI t) (nI c) (nI ((ver now t).kd c)) p4 p5 (ztd ((ver now t).kd c) kf) (ztd ((ver now t).kd c) kt) (nI (fb_ct (fun j => zKn (ver now t) c (ver now t).ch ((ver now t).od j)) p)) x y p12 (nI p) (nI ((ver now t).od p)) (zVl (ver now t) ((ver now t).od p) c) (nI (fb_ct (fun j => zWi (ver now t) c kf kt ((ver now t).od j)) p)) (nI a) g2 = K 1 (nI t) (nI c) (nI ((ver now t).kd c)) p4 p5 (ztd ((ver now t).kd c) kf) (ztd ((ver now t).kd c) kt) (nI (fb_ct (fun j => zWi (ver now t) c kf kt ((ver now t).od j)) (p + 1))) (nI (fb_ct (fun j => zKn (ver now t) c (ver now t).ch ((ver now t).od j)) (p + 1))) x' y' p12 (nI (p + 1)) g ∧ zNq (ver now t) c kf true (p + 1) x' ∧ zNq (ver now t) c kf false (p + 1) y' ∧ zG 1200 0 0 h g := by
      intro g2 a G2 ha
      have m2 := G2.m
      have w2 := w.G G2 (Or.inr (by decide))
      rw [← ha] at s1
      unfold f_ColumnVaultLaw_isTold_400
      rw [ze_b w2.is, ze_b3 (w2.isChosen ht ho), nI_add, ← s1]
      by_cases hch : (ver now t).ch ((ver now t).od p) = true
      · rw [if_pos (zKn_2 hch hm)] at s2
        obtain ⟨g, x', y', b1, b2, b3, b4⟩ := ztd420 (K := K) (t := t) (p4 := p4) (p5 := p5) (p7 := ztd ((ver now t).kd c) kt) (p8 := nI (fb_ct (fun j => zWi (ver now t) c kf kt ((ver now t).od j)) (p + 1))) (p14 := nI (fb_ct (fun j => zKn (ver now t) c (ver now t).ch ((ver now t).od j)) p)) (p15 := 1) (p11 := p12) w2 wT hc hp hkf hkf' hm hx hy (by omega)
        rw [nI_1, ← s2] at b1
        rw [if_neg (zb1 hch)]
        exact ⟨g, x', y', b1, b2, b3, (G2.t b4).w (by omega) (Nat.le_refl _) (Nat.le_refl _)⟩
      · rw [if_neg (fun z => hch (zKn_1 z).1)] at s2
        obtain ⟨g, x', y', b1, b2, b3, b4⟩ := ztd420 (K := K) (t := t) (p4 := p4) (p5 := p5) (p7 := ztd ((ver now t).kd c) kt) (p8 := nI (fb_ct (fun j => zWi (ver now t) c kf kt ((ver now t).od j)) (p + 1))) (p14 := nI (fb_ct (fun j => zKn (ver now t) c (ver now t).ch ((ver now t).od j)) p)) (p15 := 0) (p11 := p12) w2 wT hc hp hkf hkf' hm hx hy (by omega)
        rw [Int32.add_zero] at b1
        rw [Nat.add_zero] at s2
        rw [if_pos (zbt0 hch), s2]
        exact ⟨g, x', y', b1, b2, b3, (G2.t b4).w (by omega) (Nat.le_refl _) (Nat.le_refl _)⟩
    rw [if_pos (fun z => hm (hmi.mp z)), ze_b2 e1]
    by_cases hlt : (ver now t).ky c ((ver now t).od p) < kf
    · rw [if_pos ((zcm_lt _ _).mpr hlt)]
      refine fin g1 0 (G1.w (by omega) (Nat.le_refl _) (Nat.le_refl _)) ?_
      rw [if_neg]
      intro z
      have := (of_decide_eq_true z).1
      rw [zl_t] at hlt
      rw [zl_e] at this
      omega
    · obtain ⟨g2, e2, G2⟩ := zthan (h := g1) hk hkt hm hkt' (by omega)
      have e2 : f_ColumnVaultLaw_than (nI ((ver now t).kd c)) (zVl (ver now t) ((ver now t).od p) c) (ztd ((ver now t).kd c) kt) g1 = _ := e2
      have G12 := (G1.t G2).w (k' := 400) (by omega) (Nat.le_refl _) (Nat.le_refl _)
      rw [if_neg (fun z => hlt ((zcm_lt _ _).mp z)), ze_b2 e2]
      by_cases hgt : kt < (ver now t).ky c ((ver now t).od p)
      · rw [if_pos ((zcm_gt _ _).mpr hgt)]
        refine fin g2 0 G12 ?_
        rw [if_neg]
        intro z
        have := (of_decide_eq_true z).2
        rw [zl_t] at hgt
        rw [zl_e] at this
        omega
      · rw [if_neg (fun z => hgt ((zcm_gt _ _).mp z))]
        refine fin g2 1 G12 ?_
        rw [if_pos]
        refine decide_eq_true ⟨?_, ?_⟩
        · rw [zl_e]; rw [zl_t] at hlt; omega
        · rw [zl_e]; rw [zl_t] at hgt; omega
end ZTF

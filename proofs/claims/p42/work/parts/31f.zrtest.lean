/-! ===== a test read ===== -/
section ZRT
variable {h g : zx_H} {L : List (Nat × Nat × Int64)} {T : zT} {q qs p : Nat} {ks : List Int64} {fk fp : Int32}
/-- below b nothing changed but the reader's two cells; g has k more at most -/
def zFr (k q b : Nat) (h g : zx_H) : Prop := h.length ≤ g.length ∧ zM g ≤ zM h + k ∧ ∀ p, p < b → p ≠ q → p ≠ q + 1 → g[p]? = h[p]?
theorem zFr.r {b : Nat} : zFr 0 q b h h := ⟨Nat.le_refl _, Nat.le_refl _, fun _ _ _ _ => rfl⟩
theorem zFr.t {k k' b : Nat} {h g j : zx_H} (x : zFr k q b h g) (y : zFr k' q b g j) : zFr (k + k') q b h j := ⟨Nat.le_trans x.1 y.1, by have := x.2.1; have := y.2.1; omega, fun p a b c => (y.2.2 p a b c).trans (x.2.2 p a b c)⟩
theorem zFr.w {k k' b b' : Nat} (x : zFr k q b h g) (hk : k ≤ k') (hb : b' ≤ b) : zFr k' q b' h g := ⟨x.1, by have := x.2.1; omega, fun p a => x.2.2 p (by omega)⟩
theorem zFr_U {b : Nat} (u : zU q 2 h g) : zFr 0 q b h g := ⟨by rw [u.1]; exact Nat.le_refl _, by unfold zM; rw [u.1, u.2.1]; exact Nat.le_refl _, fun p _ a b => u.2.2 p (by omega)⟩
theorem zFr_app {c : zx_E} : zFr (12 + zx_sz1 c) q h.length h (h ++ [c]) := ⟨by rw [List.length_append]; omega, by rw [zM_app]; omega, fun p hp _ _ => List.getElem?_append_left hp⟩
theorem zRd.k1 (R : zRd h q qs T L p ks fk fp) : q + 1 < h.length := by
  obtain ⟨f, e, _⟩ := R.2.1
  exact zlt_of e
/-- the reader stands where cells behind it change -/
theorem zRd.Fr (R : zRd h q qs T L p ks fk fp) (e : ∀ p, p ≤ q + 1 → g[p]? = h[p]?) : zRd g q qs T L p ks fk fp := by
  obtain ⟨c, ⟨f, k1, k2⟩, S, F, K, Lb, h1, h2, h3, h4⟩ := R
  refine ⟨(e q (by omega)).trans c, ⟨f, (e (q + 1) (by omega)).trans k1, k2⟩, ?_, F, ?_, Lb, h1, h2, h3, h4⟩
  · obtain ⟨⟨K', X, O, H, hr⟩, hq9⟩ := S
    exact ⟨⟨K', X, O, ⟨(e _ (by omega)).trans H.c, (e _ (by omega)).trans H.k, (e _ (by omega)).trans H.x, (e _ (by omega)).trans H.o, H.nc4, H.nr40⟩, hr⟩, hq9⟩
  · obtain ⟨c0, ⟨f1, c1, e1⟩, ⟨f2, c2, e2⟩, ⟨f3, c3, e3⟩, h5⟩ := K
    exact ⟨(e _ (by omega)).trans c0, ⟨f1, (e _ (by omega)).trans c1, e1⟩, ⟨f2, (e _ (by omega)).trans c2, e2⟩, ⟨f3, (e _ (by omega)).trans c3, e3⟩, h5⟩
theorem zRd.app (R : zRd h q qs T L p ks fk fp) (c : zx_E) : zRd (h ++ [c]) q qs T L p ks fk fp := R.Fr fun p hp => List.getElem?_append_left (by have := R.k1; omega)
/-- what a reading comes to: the node, or the fault -/
def zRo (D q qs : Nat) (T : zT) (L : List (Nat × Nat × Int64)) (fk fp : Int32) (b : Nat) (h : zx_H) (x : Option (Option Nat × zx_H)) : zR0 → Prop
  | (w, .inl (p', S, k)) => ∃ g n ks', x = some (some n, g) ∧ b ≤ n ∧ zRd g q qs T L p' ks' fk fp ∧ zNo D g n g.length k ∧ zIsN g n ∧ zf_N 8 4 n g = some none ∧ zf_J 8 1 n g = some (zB S T.nr) ∧ zFr (20 * w) q b h g
  | (w, .inr e) => ∃ g p' ks', x = some (none, g) ∧ zRd g q qs T L p' ks' (nI e.1) e.2 ∧ zFr (20 * w) q b h g
theorem zRo_t {D b w1 k1 : Nat} {x y : Option (Option Nat × zx_H)} (f : zFr k1 q b h g) (hk : k1 ≤ 20 * w1) (e : y = x) : ∀ {z : zR0}, zRo D q qs T L fk fp b g x z → zRo D q qs T L fk fp b h y (zrw w1 z)
  | (w, .inl (p', S, k)), ⟨g', n, ks', r, a1, a2, a3, a4, a5, a6, a7⟩ => ⟨g', n, ks', e.trans r, a1, a2, a3, a4, a5, a6, (f.t a7).w (by omega) (Nat.le_refl _)⟩
  | (w, .inr e'), ⟨g', p', ks', r, a2, a7⟩ => ⟨g', p', ks', e.trans r, a2, (f.t a7).w (by omega) (Nat.le_refl _)⟩
theorem zRo_e {D b : Nat} {x y : Option (Option Nat × zx_H)} (e : y = x) {z : zR0} (r : zRo D q qs T L fk fp b h x z) : zRo D q qs T L fk fp b h y z := by rw [e]; exact r
theorem zRo_d {D b : Nat} {x : Option (Option Nat × zx_H)} : ∀ {z : zR0}, zRo D q qs T L fk fp b h x z → zRo (D + 1) q qs T L fk fp b h x z
  | (_, .inl (_, _, _)), ⟨g', n, ks', r, a1, a2, a3, a4, a5, a6, a7⟩ => ⟨g', n, ks', r, a1, a2, zNo_d a3, a4, a5, a6, a7⟩
  | (_, .inr _), x => x
theorem zRo_b {D b b' : Nat} {x : Option (Option Nat × zx_H)} (hb : b' ≤ b) : ∀ {z : zR0}, zRo D q qs T L fk fp b h x z → zRo D q qs T L fk fp b' h x z
  | (_, .inl (_, _, _)), ⟨g', n, ks', r, a1, a2, a3, a4, a5, a6, a7⟩ => ⟨g', n, ks', r, by omega, a2, a3, a4, a5, a6, a7.w (Nat.le_refl _) hb⟩
  | (_, .inr _), ⟨g', p', ks', r, a2, a7⟩ => ⟨g', p', ks', r, a2, a7.w (Nat.le_refl _) hb⟩
/-- a fault -/
theorem zRd.fails (R : zRd h q qs T L p ks fk fp) {D b : Nat} (a : Nat) (v : Int32) {x : Option (Option Nat × zx_H)} (e : x = zf_b2 (f_FilterReader_fail q (nI a) v h) fun v h2 => some (v, h2)) : zRo D q qs T L fk fp b h x (0, .inr (a, v)) := by
  obtain ⟨g, r, R2, U⟩ := R.fail (nI a) v
  refine ⟨g, p, ks, ?_, R2, (zFr_U U).w (Nat.zero_le _) (Nat.le_refl _)⟩
  rw [e, ze_b2 r]
/-! a new node -/
theorem zdef8 : zx_def 8 = [.int 0, .long 0, .null, .null, .null, .null, .null] := by with_unfolding_all rfl
theorem zNinit (f : Int32) (x : Int64) : f_Node_init h.length f x (h ++ [.inr (8, zx_def 8)]) = some ((), h ++ [.inr (8, [.int f, .long x, .null, .null, .null, .null, .null])]) := by
  rw [zdef8]
  unfold f_Node_init
  rw [ze_b (zh_putE (k := 2) (by show _ < 7; decide))]
  rw [ze_b (zh_putE (k := 3) (by show _ < 7; decide))]
  rw [ze_b (zh_putE (k := 4) (by show _ < 7; decide))]
  rw [ze_b (zh_putE (k := 5) (by show _ < 7; decide))]
  rw [ze_b (zh_putE (k := 6) (by show _ < 7; decide))]
  rw [ze_b (zh_putE (k := 0) (by show _ < 7; decide))]
  rw [ze_b (zh_putE (k := 1) (by show _ < 7; decide))]
  rfl
theorem zsz8 {fs : List Value} : 12 + zx_sz1 (.inr (8, fs)) ≤ 20 := by
  show 12 + zt_sz.getD 8 0 ≤ 20
  decide
/-- the rows of a test -/
theorem zRd.rows (R : zRd h q qs T L p ks fk fp) {c : Nat} (hc : c < T.nc) {a : Nat} (ha : a ≤ 255) (h1 : zneed a ≤ ks.length) : f_FilterReader_rowsOfTest q (nI c) (nI a) h = some (zB (zrt T c a ks) T.nr, h) := by
  have h40 := R.S.r40
  obtain ⟨f, e, hf⟩ := R.2.1
  have hk6 := R.2.2.2.2.2.2.2.2.2
  have S := R.S
  have ld : ∀ i, i < ks.length → zf_ldJ (q + 1) (nI i) h = some (ks.getD i 0) := fun i hi => by
    rw [zh_ldJ e (by omega) (by decide), hf i hi]
  have nE : ∀ b : Nat, b ≤ 255 → a ≠ b → ¬ nI a = nI b := fun b hb hn x => hn ((nI_eq (by omega) (by omega)).mp x)
  have A1 := zh_A R.c (k := 1) rfl
  have A2 := zh_A R.c (k := 2) rfl
  unfold f_FilterReader_rowsOfTest zrt
  unfold zneed at h1
  by_cases e1 : a = 60
  · subst e1
    have h1 : 1 ≤ ks.length := h1
    rw [if_pos (by decide), ze_b A1, ze_b A2, ze_b (show zf_ldJ (q + 1) (0 : Int32) h = some (ks.getD 0 0) from ld 0 h1), ze_b S.ok, ze_b2 (S.rft hc _ _)]
    rfl
  · rw [if_neg (show ¬ nI a = (60 : Int32) from nE 60 (by decide) e1)]
    by_cases e2 : a = 62
    · subst e2
      have h1 : 1 ≤ ks.length := h1
      rw [if_pos (by decide), ze_b A1, ze_b A2, ze_b (show zf_ldJ (q + 1) (0 : Int32) h = some (ks.getD 0 0) from ld 0 h1), ze_b S.ok, ze_b2 (S.rft hc _ _)]
      rfl
    · rw [if_neg (show ¬ nI a = (62 : Int32) from nE 62 (by decide) e2)]
      by_cases e3 : a = 109
      · subst e3
        rw [if_pos (by decide), ze_b A1, ze_b S.ok, ze_b2 (S.rft hc _ _)]
        rfl
      · rw [if_neg (show ¬ nI a = (109 : Int32) from nE 109 (by decide) e3)]
        by_cases e4 : a = 116
        · subst e4
          have h1 : 2 ≤ ks.length := h1
          rw [if_pos (by decide), ze_b A1, ze_b A2, ze_b (show zf_ldJ (q + 1) (0 : Int32) h = some (ks.getD 0 0) from ld 0 (by omega)), ze_b A2, ze_b (show zf_ldJ (q + 1) (1 : Int32) h = some (ks.getD 1 0) from ld 1 (by omega)), ze_b S.ok, ze_b2 (S.rft hc _ _)]
          rfl
        · rw [if_neg (show ¬ nI a = (116 : Int32) from nE 116 (by decide) e4)]
          have key : ∀ n i, i ≤ ks.length → ks.length - i < n → f_FilterReader_rowsOfTest_125 n q (nI c) (zB (zan T c ks i) T.nr) (nI i) h = some (zB (zan T c ks ks.length) T.nr, h) := by
            intro n
            induction n with
            | zero => intro i _ hn; exact absurd hn (Nat.not_lt_zero _)
            | succ n ih =>
              intro i hi hn
              unfold f_FilterReader_rowsOfTest_125
              rw [ze_b (zh_I R.c rfl)]
              rcases Nat.lt_or_ge i ks.length with hlt | hge
              · rw [if_neg (nI_ge hlt (by omega)), if_neg (show ¬ (6 : Int32) ≤ nI i from nI_ge (b := 6) (by omega) (by decide)), ze_b A1, ze_b A2, ze_b (ld i hlt), ze_b A2, ze_b (ld i hlt), ze_b S.ok, ze_b2 (S.rft hc _ _), zB_or (by omega), nI_1]
                exact ih (i + 1) hlt (by omega)
              · have e9 : i = ks.length := Nat.le_antisymm hi hge
                rw [if_pos (nI_le hge (by omega)), e9]
          have k0 := key zF 0 (Nat.zero_le _) (by unfold zF; omega)
          have z0 : zB (zan T c ks 0) T.nr = 0 := (zB_zero (by omega)).mpr fun j hj => rfl
          rw [z0] at k0
          rw [show (fun r => if a = 60 then decide ((-8999999999 : Int64) ≤ T.ky c r ∧ T.ky c r ≤ ks.getD 0 0 - 1) else if a = 62 then decide (ks.getD 0 0 + 1 ≤ T.ky c r ∧ T.ky c r ≤ (9223372036854775807 : Int64)) else if a = 109 then decide ((-9000000000 : Int64) ≤ T.ky c r ∧ T.ky c r ≤ (-9000000000 : Int64)) else if a = 116 then decide (ks.getD 0 0 ≤ T.ky c r ∧ T.ky c r ≤ ks.getD 1 0) else zan T c ks ks.length r) = zan T c ks ks.length from by
            funext r
            rw [if_neg e1, if_neg e2, if_neg e3, if_neg e4]]
          exact k0
theorem zRd.asked (R : zRd h q qs T L p ks fk fp) (i : Nat) (hi : i < 2 ^ 29) : f_FilterReader_askedBy q (nI i) h = some (if zask L i = 0 then -1 else nI (zask L i), h) := by
  have hb := (R.Lb i).1
  have nE : ∀ b : Nat, b ≤ 255 → zfo L i ≠ b → ¬ nI (zfo L i) = nI b := fun b hb hn x => hn ((nI_eq (by omega) (by omega)).mp x)
  have A0 := zh_A R.c (k := 0) rfl
  unfold f_FilterReader_askedBy zask
  rw [ze_b A0, ze_b R.K.is, ze_b2 (R.K.form (by omega))]
  by_cases e1 : zfo L i = 60
  · rw [if_pos (show nI (zfo L i) = (60 : Int32) by rw [e1]; rfl), if_pos (Or.inl e1), e1]; rfl
  · rw [if_neg (show ¬ nI (zfo L i) = (60 : Int32) from nE 60 (by decide) e1)]
    by_cases e2 : zfo L i = 62
    · rw [if_pos (show nI (zfo L i) = (62 : Int32) by rw [e2]; rfl), if_pos (Or.inr (Or.inl e2)), e2]; rfl
    · rw [if_neg (show ¬ nI (zfo L i) = (62 : Int32) from nE 62 (by decide) e2)]
      by_cases e3 : zfo L i = 61
      · rw [if_neg (show ¬ ¬ nI (zfo L i) = (61 : Int32) from fun x => x (by rw [e3]; rfl)), if_pos (Or.inr (Or.inr e3)), e3]; rfl
      · have e123 : ¬ (zfo L i = 60 ∨ zfo L i = 62 ∨ zfo L i = 61) := by omega
        rw [if_pos (show ¬ nI (zfo L i) = (61 : Int32) from nE 61 (by decide) e3), if_neg e123]
        by_cases e4 : zfo L i = 97
        · rw [if_neg (show ¬ ¬ nI (zfo L i) = (97 : Int32) from fun x => x (by rw [e4]; rfl)), ze_b A0, ze_b R.K.is, ze_b2 (R.K.value (by omega)), if_pos e4]
          unfold f_FilterReader_askedBy_49
          by_cases e5 : zvu L i = 29807
          · rw [if_neg (fun x => x e5), if_pos e5]; rfl
          · rw [if_pos e5, if_neg e5]
            by_cases e6 : zvu L i = 26990
            · rw [if_neg (fun x => x e6), if_pos e6]; rfl
            · rw [if_pos e6, if_neg e6]
              by_cases e7 : zvu L i = 30796717039906407
              · rw [if_neg (fun x => x e7), if_pos e7]; rfl
              · rw [if_pos e7, if_neg e7]; rfl
        · rw [if_pos (show ¬ nI (zfo L i) = (97 : Int32) from nE 97 (by decide) e4), if_neg e4]
          rfl
end ZRT

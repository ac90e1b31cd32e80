/-! ===== errors(): the checks find nothing ===== -/
section ZCK
theorem fb_ct_uniq {p : Nat → Bool} {m : Nat} (h : ∃ g, g < m ∧ p g = true ∧ ∀ g', g' < m → p g' = true → g' = g) : fb_ct p m = 1 := by
  obtain ⟨g, hg, hp, hu⟩ := h
  have e1 : m = g + (1 + (m - g - 1)) := by omega
  have h0 : fb_ct p g = 0 := fb_ct_zero.mpr fun k hk => ts_nt fun x => by have := hu k (by omega) x; omega
  have h2 : fb_ct (fun k => p (g + (1 + k))) (m - g - 1) = 0 := fb_ct_zero.mpr fun k hk => ts_nt fun x => by have := hu (g + (1 + k)) (by omega) x; omega
  rw [e1, fb_ct_split, h0, fb_ct_split]
  show 0 + (0 + (if p (g + 0) = true then 1 else 0) + fb_ct (fun k => p (g + (1 + k))) (m - g - 1)) = 1
  rw [h2, Nat.add_zero, Nat.add_zero, hp]
  rfl
theorem fb_ct_none {p : Nat → Bool} {m : Nat} (h : ∀ g, g < m → p g = false) : fb_ct p m = 0 := fb_ct_zero.mpr h
/-- parts of a whole, counted -/
theorem zpart {P : Nat → Nat → Bool} {Q : Nat → Bool} {m : Nat} : ∀ {n : Nat}, (∀ r, r < n → fb_ct (fun g => P g r) m = if Q r = true then 1 else 0) → fb_sm (fun g => fb_ct (P g) n) m = fb_ct Q n
  | 0, _ => by
    have e : fb_sm (fun g => fb_ct (P g) 0) m = fb_sm (fun _ => 0) m := fb_sm_cong fun k _ => rfl
    rw [e, fb_sm_const]
    rfl
  | n + 1, h => by
    have e : fb_sm (fun g => fb_ct (P g) (n + 1)) m = fb_sm (fun g => fb_ct (P g) n + (if P g n = true then 1 else 0)) m := fb_sm_cong fun k _ => rfl
    have e2 : ∀ m, fb_sm (fun g => if P g n = true then 1 else 0) m = fb_ct (fun g => P g n) m := by
      intro m
      induction m with
      | zero => rfl
      | succ m ih => rw [fb_sm_succ, fb_ct_succ, ih]
    rw [e, fb_sm_add, zpart (n := n) (fun r hr => h r (by omega)), e2, h n (by omega), fb_ct_succ]
theorem zs_zero (m : Nat) : zs (fun _ => 0) m = 0 := by
  induction m with
  | zero => rfl
  | succ m ih => show zs (fun _ => 0) m + 0 = 0; rw [ih, Int64.add_zero]
theorem zs_add (f g : Nat → Int64) : ∀ n, zs (fun i => f i + g i) n = zs f n + zs g n
  | 0 => rfl
  | n + 1 => by
    show zs (fun i => f i + g i) n + (f n + g n) = zs f n + f n + (zs g n + g n)
    rw [zs_add f g n]
    rw [Int64.add_assoc, Int64.add_assoc]
    congr 1
    rw [← Int64.add_assoc, ← Int64.add_assoc, Int64.add_comm (zs g n)]
theorem zs_uniq {p : Nat → Bool} {x : Int64} : ∀ {m : Nat}, (∃ g, g < m ∧ p g = true ∧ ∀ g', g' < m → p g' = true → g' = g) → zs (fun g => if p g = true then x else 0) m = x
  | 0, h => by obtain ⟨g, hg, _⟩ := h; exact absurd hg (Nat.not_lt_zero _)
  | m + 1, h => by
    obtain ⟨g, hg, hp, hu⟩ := h
    show zs _ m + (if p m = true then x else 0) = x
    by_cases e : p m = true
    · have hgm := hu m (by omega) e
      have h0 : zs (fun g => if p g = true then x else 0) m = zs (fun _ => 0) m := zs_c fun i hi => if_neg fun y => by have := hu i (by omega) y; omega
      rw [h0, zs_zero, if_pos e, Int64.zero_add]
    · have hgm : g < m := by
        rcases Nat.lt_or_ge g m with h1 | h1
        · exact h1
        · have : g = m := by omega
          rw [this] at hp; exact absurd hp e
      rw [if_neg e, Int64.add_zero]
      exact zs_uniq ⟨g, hgm, hp, fun g' hg' y => hu g' (by omega) y⟩
theorem zs_noneP {p : Nat → Bool} {x : Int64} {m : Nat} (h : ∀ g, g < m → p g = false) : zs (fun g => if p g = true then x else 0) m = 0 := by
  have e : zs (fun g => if p g = true then x else 0) m = zs (fun _ => 0) m := zs_c fun i hi => if_neg (show ¬ p i = true by rw [h i hi]; decide)
  rw [e, zs_zero]
theorem zpartS {P : Nat → Nat → Bool} {Q : Nat → Bool} {m : Nat} {f : Nat → Int64} : ∀ {n : Nat}, (∀ r, r < n → (Q r = true → ∃ g, g < m ∧ P g r = true ∧ ∀ g', g' < m → P g' r = true → g' = g) ∧ (Q r = false → ∀ g, g < m → P g r = false)) → zs (fun g => zs (fun r => if P g r = true then f r else 0) n) m = zs (fun r => if Q r = true then f r else 0) n
  | 0, _ => zs_zero m
  | n + 1, h => by
    have ih := zpartS (P := P) (Q := Q) (m := m) (f := f) (n := n) fun r hr => h r (by omega)
    have e : zs (fun g => zs (fun r => if P g r = true then f r else 0) (n + 1)) m = zs (fun g => zs (fun r => if P g r = true then f r else 0) n + (if P g n = true then f n else 0)) m := rfl
    rw [e, zs_add, ih]
    show _ = zs _ n + (if Q n = true then f n else 0)
    congr 1
    obtain ⟨a, b⟩ := h n (by omega)
    by_cases hq : Q n = true
    · rw [if_pos hq]; exact zs_uniq (p := fun g => P g n) (a hq)
    · rw [if_neg hq]; exact zs_noneP (p := fun g => P g n) (b (ts_nt hq))
variable {T : zT} {h : zx_H} {qs : Nat}
theorem zGs.in1 {c m : Nat} {G : Nat → Int64} (gs : zGs T c T.nr m G) {r : Nat} (hr : r < T.nr) : (T.ch r = true → ∃ g, g < m ∧ zMb T c T.nr (G g) r = true ∧ ∀ g', g' < m → zMb T c T.nr (G g') r = true → g' = g) ∧ (T.ch r = false → ∀ g, g < m → zMb T c T.nr (G g) r = false) := by
  constructor
  · intro hc
    obtain ⟨g, hg, e⟩ := gs.2.2 r hr hc
    refine ⟨g, hg, ?_, fun g' hg' e' => ?_⟩
    · unfold zMb
      rw [decide_eq_true hr, hc, decide_eq_true e.symm]; rfl
    · unfold zMb at e'
      rw [Bool.and_eq_true, Bool.and_eq_true, decide_eq_true_eq, decide_eq_true_eq] at e'
      exact gs.one hg' hg (e'.2.2.symm.trans e.symm)
  · intro hc g _
    unfold zMb
    rw [hc, Bool.false_and, Bool.and_false]
theorem zGs.cnt {c m : Nat} {G : Nat → Int64} (gs : zGs T c T.nr m G) : fb_sm (fun g => fb_ct (zMb T c T.nr (G g)) T.nr) m = fb_ct T.ch T.nr := zpart fun r hr => by
  obtain ⟨a, b⟩ := gs.in1 hr
  by_cases hc : T.ch r = true
  · rw [if_pos hc]; exact fb_ct_uniq (a hc)
  · rw [if_neg hc]; exact fb_ct_none (b (ts_nt hc))
theorem zand_if {a b : Prop} [Decidable a] [Decidable b] {x : Int64} : (if a ∧ b then x else 0) = if b then (if a then x else 0) else 0 := by
  by_cases ha : a <;> by_cases hb : b <;> simp [ha, hb]
theorem zGs.sum {c m : Nat} {G : Nat → Int64} (gs : zGs T c T.nr m G) (k : Nat → Int64) : zs (fun g => zs (fun r => if k r ≠ -9000000000 ∧ zMb T c T.nr (G g) r = true then k r else 0) T.nr) m = zs (fun r => if k r ≠ -9000000000 ∧ T.ch r = true then k r else 0) T.nr := by
  have e := zpartS (P := fun g => zMb T c T.nr (G g)) (Q := T.ch) (m := m) (f := fun r => if k r ≠ -9000000000 then k r else 0) (n := T.nr) fun r hr => gs.in1 hr
  have e1 : zs (fun g => zs (fun r => if k r ≠ -9000000000 ∧ zMb T c T.nr (G g) r = true then k r else 0) T.nr) m = zs (fun g => zs (fun r => if zMb T c T.nr (G g) r = true then (if k r ≠ -9000000000 then k r else 0) else 0) T.nr) m := zs_c fun g _ => zs_c fun r _ => zand_if
  have e2 : zs (fun r => if k r ≠ -9000000000 ∧ T.ch r = true then k r else 0) T.nr = zs (fun r => if T.ch r = true then (if k r ≠ -9000000000 then k r else 0) else 0) T.nr := zs_c fun r _ => zand_if
  rw [e1, e, e2]
/-! two sorts -/
theorem zstand44 (S : TS h qs T) (w : zWF T) {x y : Nat} (hx : x < T.nr) (hy : y < T.nr) {k k' : Int64} (hk : zrk false false k < zrk false false k' ∨ (k = k' ∧ zpl T.od x T.nr < zpl T.od y T.nr)) : f_Checks_standsAhead_44 qs (nI x) (nI y) k k' h = some (1, h) := by
  have h40 := S.r40
  unfold f_Checks_standsAhead_44
  rcases hk with hk | ⟨rfl, hk⟩
  · have hne : k ≠ k' := fun e => by rw [e] at hk; omega
    have za := zahead k k' false false h
    have za : f_ColumnVault_isAhead k k' 0 0 h = some (zb (decide (zrk false false k < zrk false false k')), h) := za
    rw [decide_eq_true hk] at za
    rw [if_pos hne, ze_b2 za]
    rfl
  · have p1 := (zpl_r w.p hy).1
    rw [if_neg (fun x => x rfl), ze_b S.ok, ze_b2 (S.placeIn w hx), ze_b S.ok, ze_b2 (S.placeIn w hy), if_neg (nI_ge hk (by omega))]
theorem zstand (S : TS h qs T) (w : zWF T) {c d x y : Nat} (hc : c < T.nc) (hd : d < T.nc) (hx : x < T.nr) (hy : y < T.nr) (hk : zrk false false (T.ky d x) < zrk false false (T.ky d y) ∨ (T.ky d x = T.ky d y ∧ (zrk false false (T.ky c x) < zrk false false (T.ky c y) ∨ (T.ky c x = T.ky c y ∧ zpl T.od x T.nr < zpl T.od y T.nr)))) (p0 : Nat) : f_Checks_standsAhead p0 qs (nI c) (nI d) (nI x) (nI y) h = some (1, h) := by
  unfold f_Checks_standsAhead
  rw [ze_b S.ok, ze_b2 (S.keyAt hd hx), ze_b S.ok, ze_b2 (S.keyAt hd hy)]
  rcases hk with hk | ⟨e, hk⟩
  · have hne : T.ky d x ≠ T.ky d y := fun e => by rw [e] at hk; omega
    rw [if_pos hne]
    exact zstand44 S w hx hy (Or.inl hk)
  · rw [if_neg (fun x => x e), ze_b S.ok, ze_b2 (S.keyAt hc hx), ze_b S.ok, ze_b2 (S.keyAt hc hy)]
    exact zstand44 S w hx hy hk
theorem zChk.U {g : zx_H} {a n : Nat} (x : zU a n h g) (ha : 165 ≤ a) (hb : a + n ≤ 169) (hS : zSh g 165) (C : zChk h) : zChk g := by
  obtain ⟨c1, c2, ⟨⟨x1, y1, d1⟩, d2, ⟨f4, d3⟩, f6, d4⟩, f5, c4⟩ := C
  exact ⟨by rw [x.2.2 _ (by omega)]; exact c1, hS, ⟨⟨x1, y1, by rw [x.2.2 _ (by omega)]; exact d1⟩, d2.U x (by omega), ⟨f4, by rw [x.2.2 _ (by omega)]; exact d3⟩, f6, by rw [x.2.2 _ (by omega)]; exact d4⟩, f5, by rw [x.2.2 _ (by omega)]; exact c4⟩
theorem zboth (S : TS h qs T) (w : zWF T) (C : zChk h) (hqs : qs + 4 ≤ 148) {c d : Nat} (hc : c < T.nc) (hd : d < T.nc) : ∃ g, f_Checks_isInBothOrders 164 qs (nI c) (nI d) h = some (1, g) ∧ zChk g ∧ zU 164 13 h g := by
  have h40 := S.r40
  obtain ⟨g1, e1, S1, U1⟩ := S.copy C.2.1 (by omega)
  obtain ⟨g2, o1, e2, S2, p1, s1, U2⟩ := S1.sort w hc false false
  obtain ⟨g3, o2, e3, S3, p2, s2, U3⟩ := S2.sort (w.ord p1) hd false false
  have U : zU 165 4 h g3 := zU_t U1 (zU_t U2 U3)
  have C3 := zChk.U U (by omega) (by omega) S3.sh C
  have Sq : TS g3 qs T := S.U U (by omega)
  refine ⟨g3, ?_, C3, zU_w U (by omega) (by omega)⟩
  have w3 : zWF (zKO (zKO T T.ky o1) T.ky o2) := ⟨w.c4, w.r40, fun _ hc => w.k1 hc, fun _ _ hc hr => w.k hc hr, p2⟩
  have hr2 : ∀ p, p < T.nr → o2 p < T.nr := fun p hp => p2.1 p hp
  have loop : ∀ n i, 1 ≤ i → i ≤ 50 → T.nr + 1 - i < n → f_Checks_isInBothOrders_31 n 164 qs (nI c) (nI d) (nI i) g3 = some (1, g3) := by
    intro n
    induction n with
    | zero => intro i _ _ hn; exact absurd hn (Nat.not_lt_zero _)
    | succ n ih =>
      intro i hi hi50 hn
      unfold f_Checks_isInBothOrders_31
      have e4 : zf_I 10 4 165 g3 = some (nI T.nr) := S3.I4
      rw [ze_b (zh_A C3.1 rfl), ze_b e4]
      rcases Nat.lt_or_ge i T.nr with hlt | hge
      · obtain ⟨j, rfl⟩ : ∃ j, i = j + 1 := ⟨i - 1, by omega⟩
        have r1 : f_Sheet_rowInOrder 165 (nI j) g3 = some (nI (o2 j), g3) := S3.rowInOrder (p := j) (show j < T.nr by omega)
        have r2 : f_Sheet_rowInOrder 165 (nI (j + 1)) g3 = some (nI (o2 (j + 1)), g3) := S3.rowInOrder (p := j + 1) hlt
        have hst := zstand Sq w hc hd (hr2 j (by omega)) (hr2 (j + 1) hlt) (by
          rcases s2 j (j + 1) (Nat.lt_succ_self _) hlt with x | ⟨x1, x2⟩
          · exact Or.inl x
          · refine Or.inr ⟨zrk_inj.mp x1, ?_⟩
            have x2 : zpl o1 (o2 j) T.nr < zpl o1 (o2 (j + 1)) T.nr := x2
            obtain ⟨a1, a2⟩ := zpl_r p1 (hr2 j (by omega))
            obtain ⟨b1, b2⟩ := zpl_r p1 (hr2 (j + 1) hlt)
            rcases s1 _ _ x2 b1 with y | ⟨y1, y2⟩
            · rw [a2, b2] at y; exact Or.inl y
            · rw [a2, b2] at y1 y2
              exact Or.inr ⟨zrk_inj.mp y1, y2⟩) 164
        rw [if_neg (nI_ge hlt (by omega)), ze_b (zh_A C3.1 rfl), ze_b S3.ok, nI_pred, ze_b2 r1, ze_b (zh_A C3.1 rfl), ze_b S3.ok, ze_b2 r2, ze_b (zh_is C3.1), ze_b2 hst, if_pos (by decide), nI_1]
        exact ih (j + 1 + 1) (by omega) (by omega) (by omega)
      · have u1 : f_Sheet_rowsUpTo 165 (nI T.nr - 1) g3 = some (zB (fun r => decide (zpl o2 r T.nr < T.nr)) T.nr, g3) := S3.upTo w3 (m := T.nr) (Nat.le_refl _)
        have e5 : zB (fun r => decide (zpl o2 r T.nr < T.nr)) T.nr = zB (fun _ => true) T.nr := zB_c fun j hj => decide_eq_true (zpl_r p2 hj).1
        have hnr : nI T.nr ≤ nI i := nI_le hge (by omega)
        rw [if_pos hnr, ze_b (zh_A C3.1 rfl), ze_b (zh_A C3.1 rfl), ze_b e4, ze_b S3.ok, ze_b2 u1, ze_b Sq.ok, ze_b2 Sq.allRows, e5, if_neg (fun x => x rfl)]
  unfold f_Checks_isInBothOrders
  have a0 := zh_A C.1 (k := 0) rfl
  have c1 : g1[164]? = some (.inr (2, [.ref 165, .ref 169, .ref 176])) := by rw [U1.2.2 _ (by omega)]; exact C.1
  have c2 : g2[164]? = some (.inr (2, [.ref 165, .ref 169, .ref 176])) := by rw [U2.2.2 _ (by omega)]; exact c1
  have hsh : zf_is 10 165 h = some () := by
    obtain ⟨⟨K, X, O, nc, nr, ch, H⟩, _⟩ := C.2.1
    exact zh_is H.c
  have e2 : f_Sheet_orderBy 165 (nI c) 0 0 g1 = some ((), g2) := e2
  have e3 : f_Sheet_orderBy 165 (nI d) 0 0 g2 = some ((), g3) := e3
  rw [ze_b a0, ze_b hsh, ze_b2 e1, ze_b (zh_A c1 rfl), ze_b S1.ok, ze_b2 e2, ze_b (zh_A c2 rfl), ze_b S2.ok, ze_b2 e3]
  exact loop zF 1 (Nat.le_refl _) (by decide) (by unfold zF; omega)
/-! groups at 169 -/
theorem zGrp.rows {q c m : Nat} {G : Nat → Int64} {M : Nat → Nat → Bool} (g : zGrp h q T c m G M) {a : Nat} (ha : a < m) : f_Groups_rowsIn q (nI a) h = some (zB (M a) T.nr, h) := by
  obtain ⟨h1, h2, h3, ⟨f4, h4, h5⟩, ⟨f6, h6, h7⟩, h8⟩ := g
  unfold f_Groups_rowsIn
  rw [if_neg (nI_pos (by omega)), ze_b (zh_I h1 rfl)]
  first
    | rw [if_neg (nI_ge ha (by omega)), ze_b (zh_A h1 rfl), ze_b (zh_ldJ h6 (by omega) (by decide)), h7 a ha]
    | rw [if_pos (nI_lt ha (by omega)), ze_b (zh_A h1 rfl), ze_b (zh_ldJ h6 (by omega) (by decide)), h7 a ha]
theorem zGrp.key {q c m : Nat} {G : Nat → Int64} {M : Nat → Nat → Bool} (g : zGrp h q T c m G M) {a : Nat} (ha : a < m) : f_Groups_keyOfGroup q (nI a) h = some (G a, h) := by
  obtain ⟨h1, h2, h3, ⟨f4, h4, h5⟩, ⟨f6, h6, h7⟩, h8⟩ := g
  unfold f_Groups_keyOfGroup
  rw [if_neg (nI_pos (by omega)), ze_b (zh_I h1 rfl)]
  first
    | rw [if_neg (nI_ge ha (by omega)), ze_b (zh_A h1 rfl), ze_b (zh_ldJ h4 (by omega) (by decide)), h5 a ha]
    | rw [if_pos (nI_lt ha (by omega)), ze_b (zh_A h1 rfl), ze_b (zh_ldJ h4 (by omega) (by decide)), h5 a ha]
theorem zGrp.I4 {q c m : Nat} {G : Nat → Int64} {M : Nat → Nat → Bool} (g : zGrp h q T c m G M) : zf_I 5 4 q h = some (nI m) := zh_I g.1 rfl
theorem zGrp.ok {q c m : Nat} {G : Nat → Int64} {M : Nat → Nat → Bool} (g : zGrp h q T c m G M) : zf_is 5 q h = some () := zh_is g.1
/-- the checks' parts, groups known -/
theorem zgfail (S : TS h qs T) (w : zWF T) (C : zChk h) (hqs : qs + 4 ≤ 148) {c : Nat} (hc : c < T.nc) : ∃ g, f_Checks_groupFailures 164 qs (nI c) h = some (0, g) ∧ zChk g ∧ zU 164 13 h g := by
  have h40 := S.r40
  obtain ⟨c1, c2, c3, f5, c4⟩ := C
  obtain ⟨g, m, G, e1, gg, gs, U⟩ := zgmake (q := 169) (by decide) S w hc c3 (by omega)
  have Sq : TS g qs T := S.U U (by omega)
  have d1 : g[164]? = some (.inr (2, [.ref 165, .ref 169, .ref 176])) := by rw [U.2.2 _ (by omega)]; exact c1
  have C3 : zChk g := ⟨d1, c2.U U (by omega), gg.A, f5, by rw [U.2.2 _ (by omega)]; exact c4⟩
  refine ⟨g, ?_, C3, zU_w U (by omega) (by omega)⟩
  have hm40 := gg.2.2.2.2.2
  have a1 := zh_A d1 (k := 1) rfl
  have hT := gg.2.1
  -- the sums of a column
  have sums : ∀ cc, cc < T.nc → f_Checks_sumOfGroups 164 (nI cc) g = some (zs (fun a => zs (fun r => if T.ky cc r ≠ -9000000000 ∧ zMb T c T.nr (G a) r = true then T.ky cc r else 0) T.nr) m, g) := by
    intro cc hcc
    have loop : ∀ n i, i ≤ m → m - i < n → f_Checks_sumOfGroups_5 n 164 (nI cc) (zs (fun a => zs (fun r => if T.ky cc r ≠ -9000000000 ∧ zMb T c T.nr (G a) r = true then T.ky cc r else 0) T.nr) i) (nI i) g = some (zs (fun a => zs (fun r => if T.ky cc r ≠ -9000000000 ∧ zMb T c T.nr (G a) r = true then T.ky cc r else 0) T.nr) m, g) := by
      intro n
      induction n with
      | zero => intro i _ hn; exact absurd hn (Nat.not_lt_zero _)
      | succ n ih =>
        intro i hi hn
        unfold f_Checks_sumOfGroups_5
        rw [ze_b a1, ze_b gg.I4]
        rcases Nat.lt_or_ge i m with hlt | hge
        · rw [if_neg (nI_ge hlt (by omega)), ze_b a1, ze_b (zh_A gg.1 rfl), ze_b a1, ze_b gg.ok, ze_b2 (gg.rows hlt), ze_b hT.ok, ze_b2 (hT.sumOf hcc _), nI_1]
          exact ih (i + 1) hlt (by omega)
        · have e : i = m := Nat.le_antisymm hi hge
          subst e
          rw [if_pos (nI_le (Nat.le_refl _) (by omega))]
    exact loop zF 0 (Nat.zero_le _) (by unfold zF; omega)
  have loop68 : ∀ n i, i ≤ T.nc → T.nc - i < n → f_Checks_groupFailures_68 n 164 qs 0 (nI i) g = some (0, g) := by
    have h4 := S.c4
    intro n
    induction n with
    | zero => intro i _ hn; exact absurd hn (Nat.not_lt_zero _)
    | succ n ih =>
      intro i hi hn
      unfold f_Checks_groupFailures_68
      rw [ze_b Sq.I3]
      rcases Nat.lt_or_ge i T.nc with hlt | hge
      · rw [if_neg (nI_ge hlt (by omega)), ze_b Sq.ok, ze_b2 (Sq.kindOf hlt), nI_1]
        by_cases hk : ¬ nI (T.kd i) = 0
        · rw [if_pos hk]
          exact ih (i + 1) hlt (by omega)
        · rw [if_neg hk, ze_b (zh_is d1), ze_b2 (sums i hlt), ze_b Sq.J5, ze_b Sq.ok, ze_b2 (Sq.sumOf hlt _), if_pos (gs.sum (T.ky i))]
          exact ih (i + 1) hlt (by omega)
      · have e : i = T.nc := Nat.le_antisymm hi hge
        subst e
        rw [if_pos (nI_le (Nat.le_refl _) (by omega))]
  have loop14 : ∀ n i, i ≤ m → m - i < n → f_Checks_groupFailures_14 n 164 qs (nI (fb_sm (fun a => fb_ct (zMb T c T.nr (G a)) T.nr) i)) (nI i) g = some (0, g) := by
    intro n
    induction n with
    | zero => intro i _ hn; exact absurd hn (Nat.not_lt_zero _)
    | succ n ih =>
      intro i hi hn
      unfold f_Checks_groupFailures_14
      rw [ze_b a1, ze_b gg.I4]
      rcases Nat.lt_or_ge i m with hlt | hge
      · rw [if_neg (nI_ge hlt (by omega)), ze_b a1, ze_b gg.ok, ze_b2 (gg.rows hlt), ze_b2 (zB_cnt (by omega) g), nI_add, nI_1]
        exact ih (i + 1) hlt (by omega)
      · have e : i = m := Nat.le_antisymm hi hge
        subst e
        rw [if_pos (nI_le (Nat.le_refl _) (by omega)), ze_b Sq.J5, ze_b2 (zB_cnt (by omega) g), gs.cnt, if_neg (fun x => x rfl)]
        exact loop68 zF 0 (Nat.zero_le _) (by have := S.c4; unfold zF; omega)
  unfold f_Checks_groupFailures
  obtain ⟨⟨x1, y1, k1⟩, _⟩ := c3
  rw [ze_b (zh_A c1 rfl), ze_b (zh_is k1), ze_b2 e1]
  exact loop14 zF 0 (Nat.zero_le _) (by unfold zF; omega)
end ZCK

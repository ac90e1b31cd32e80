/-! ===== groups ===== -/
section ZGR
/-- groups of the chosen rows below i: strictly rising, each with a row, each row in one -/
def zGs (T : zT) (c i m : Nat) (G : Nat → Int64) : Prop := (∀ a b, a < b → b < m → zrk false false (G a) < zrk false false (G b)) ∧ (∀ g, g < m → ∃ r, r < i ∧ T.ch r = true ∧ T.ky c r = G g) ∧ ∀ r, r < i → T.ch r = true → ∃ g, g < m ∧ G g = T.ky c r
def zMb (T : zT) (c i : Nat) (k : Int64) : Nat → Bool := fun r => decide (r < i) && (T.ch r && decide (T.ky c r = k))
theorem zGs.one {T : zT} {c i m : Nat} {G : Nat → Int64} (g : zGs T c i m G) {a b : Nat} (ha : a < m) (hb : b < m) (e : G a = G b) : a = b := by
  rcases Nat.lt_trichotomy a b with h | h | h
  · have := g.1 a b h hb; rw [e] at this; omega
  · exact h
  · have := g.1 b a h ha; rw [e] at this; omega
/-- x put at s among the first m, those behind moved by one -/
def zgpL {α : Type} (o : Nat → α) (g i : Nat) : Nat → α := fun p => if g < p ∧ p ≤ i then o (p - 1) else o p
def zinL {α : Type} (o : Nat → α) (s i : Nat) (x : α) : Nat → α := fun p => if p = s then x else zgpL o s i p
theorem zinL_lt {α : Type} {o : Nat → α} {s i p : Nat} {x : α} (h : p < s) : zinL o s i x p = o p := by
  unfold zinL zgpL
  rw [if_neg (by omega), if_neg (by omega)]
theorem zinL_s {α : Type} {o : Nat → α} {s i : Nat} {x : α} : zinL o s i x s = x := if_pos rfl
theorem zinL_gt {α : Type} {o : Nat → α} {s i p : Nat} {x : α} (h : s < p) (h2 : p ≤ i) : zinL o s i x p = o (p - 1) := by
  unfold zinL zgpL
  rw [if_neg (by omega), if_pos ⟨h, h2⟩]
variable {q : Nat}
/-- the cells of groups at q, while they are made -/
def zGc (h : zx_H) (q c m : Nat) (F M : Nat → Int64) : Prop := h[q]? = some (.inr (5, [.ref (q + 1), .ref (q + 5), .ref (q + 6), .int (nI c), .int (nI m)])) ∧ h[q + 5]? = some (.inl (2, 40, .inr (.inl F))) ∧ h[q + 6]? = some (.inl (2, 40, .inr (.inl M)))
theorem zgopen (hq : q ≤ 300) {c m s : Nat} {key : Int64} {G Z : Nat → Int64} (hs : s ≤ m) (hm : m < 40) : ∀ n i h F M, s ≤ i → i ≤ m → i - s < n → zGc h q c m F M → (∀ p, p ≤ m → p ≠ i → F p = zgpL G i m p) → (∀ p, p ≤ m → p ≠ i → M p = zgpL Z i m p) → ∃ g F' M', f_Groups_open_16 n q (nI s) key (nI i) h = some ((), g) ∧ zGc g q c (m + 1) F' M' ∧ (∀ p, p ≤ m → F' p = zinL G s m key p) ∧ (∀ p, p ≤ m → M' p = zinL Z s m 0 p) ∧ zU q 7 h g ∧ ∀ p, q < p → p < q + 5 → g[p]? = h[p]? := by
  intro n
  induction n with
  | zero => intro i _ _ _ _ _ hn; exact absurd hn (Nat.not_lt_zero _)
  | succ n ih =>
    intro i h F M h1 h2 hn ⟨c0, c1, c2⟩ hF hM
    unfold f_Groups_open_16
    rcases Nat.lt_or_ge s i with hlt | hge
    · obtain ⟨j, rfl⟩ : ∃ j, i = j + 1 := ⟨i - 1, by omega⟩
      have l1 := zh_ldJ c1 (show j < 40 by omega) (by decide)
      have t1 := zh_stJ (x := F j) c1 (show j + 1 < 40 by omega) (by decide)
      generalize hg1 : h.set (q + 5) (.inl (2, 40, .inr (.inl (vp_updL F (j + 1) (F j))))) = g1 at t1
      have d0 := zh_set_k hg1 (by omega) c0
      have d1 := zh_set_r c1 hg1
      have d2 := zh_set_k hg1 (by omega) c2
      have u1 : zU q 7 h g1 := by rw [← hg1]; exact zU_s c1 rfl (by omega)
      have l2 := zh_ldJ d2 (show j < 40 by omega) (by decide)
      have t2 := zh_stJ (x := M j) d2 (show j + 1 < 40 by omega) (by decide)
      generalize hg2 : g1.set (q + 6) (.inl (2, 40, .inr (.inl (vp_updL M (j + 1) (M j))))) = g2 at t2
      have u2 : zU q 7 g1 g2 := by rw [← hg2]; exact zU_s d2 rfl (by omega)
      have hfr : ∀ p, q < p → p < q + 5 → g2[p]? = h[p]? := fun p p1 p2 => by rw [← hg2, zh_set_n (by omega), ← hg1, zh_set_n (by omega)]
      obtain ⟨g, F', M', e, z1, z2, z3, z4, z5⟩ := ih j g2 (vp_updL F (j + 1) (F j)) (vp_updL M (j + 1) (M j)) (by omega) (by omega) (by omega) ⟨by rw [← hg2, zh_set_n (by omega)]; exact d0, by rw [← hg2, zh_set_n (by omega)]; exact d1, by rw [← hg2]; exact zh_set_s d2⟩ (fun p p1 p2 => by
        by_cases e : p = j + 1
        · rw [e, pk_uLs, hF j (by omega) (by omega)]
          unfold zgpL
          rw [if_neg (by omega), if_pos (by omega), Nat.add_sub_cancel]
        · rw [pk_uLn e, hF p p1 e]
          unfold zgpL
          by_cases e9 : j < p ∧ p ≤ m
          · rw [if_pos e9, if_pos (by omega)]
          · rw [if_neg e9, if_neg (by omega)]) (fun p p1 p2 => by
        by_cases e : p = j + 1
        · rw [e, pk_uLs, hM j (by omega) (by omega)]
          unfold zgpL
          rw [if_neg (by omega), if_pos (by omega), Nat.add_sub_cancel]
        · rw [pk_uLn e, hM p p1 e]
          unfold zgpL
          by_cases e9 : j < p ∧ p ≤ m
          · rw [if_pos e9, if_pos (by omega)]
          · rw [if_neg e9, if_neg (by omega)])
      refine ⟨g, F', M', ?_, z1, z2, z3, zU_t u1 (zU_t u2 z4), fun p p1 p2 => (z5 p p1 p2).trans (hfr p p1 p2)⟩
      rw [if_neg (nI_ge hlt (by omega)), ze_b (zh_A c0 rfl), ze_b (zh_A c0 rfl), nI_pred, ze_b l1, ze_b t1, ze_b (zh_A d0 rfl), ze_b (zh_A d0 rfl), ze_b l2, ze_b t2, pk_m1]
      exact e
    · have e : i = s := by omega
      subst e
      have t1 := zh_stJ (x := key) c1 (show i < 40 by omega) (by decide)
      generalize hg1 : h.set (q + 5) (.inl (2, 40, .inr (.inl (vp_updL F i key)))) = g1 at t1
      have d0 := zh_set_k hg1 (by omega) c0
      have d1 := zh_set_r c1 hg1
      have d2 := zh_set_k hg1 (by omega) c2
      have u1 : zU q 7 h g1 := by rw [← hg1]; exact zU_s c1 rfl (by omega)
      have t2 := zh_stJ (x := 0) d2 (show i < 40 by omega) (by decide)
      generalize hg2 : g1.set (q + 6) (.inl (2, 40, .inr (.inl (vp_updL M i 0)))) = g2 at t2
      have f0 := zh_set_k hg2 (by omega) d0
      have f1 := zh_set_k hg2 (by omega) d1
      have f2 := zh_set_r d2 hg2
      have u2 : zU q 7 g1 g2 := by rw [← hg2]; exact zU_s d2 rfl (by omega)
      have t3 := zh_put (k := 4) (v := .int (nI (m + 1))) f0 (by show _ < 5; decide)
      generalize hg3 : g2.set q (.inr (5, [.ref (q + 1), .ref (q + 5), .ref (q + 6), .int (nI c), .int (nI (m + 1))])) = g3
      have t3 : zf_put 5 4 q (.int (nI (m + 1))) g2 = some g3 := t3.trans (congrArg some hg3)
      have u3 : zU q 7 g2 g3 := by rw [← hg3]; exact zU_s f0 rfl (by omega)
      refine ⟨g3, _, _, ?_, ⟨by rw [← hg3]; exact zh_set_s f0, by rw [← hg3, zh_set_n (by omega)]; exact f1, by rw [← hg3, zh_set_n (by omega)]; exact f2⟩, fun p hp => ?_, fun p hp => ?_, zU_t u1 (zU_t u2 u3), fun p p1 p2 => ?_⟩
      · rw [if_pos (nI_le (Nat.le_refl _) (by omega)), ze_b (zh_A c0 rfl), ze_b t1, ze_b (zh_A d0 rfl), ze_b t2, ze_b (zh_I f0 rfl), nI_1, ze_b t3]
      · unfold zinL
        by_cases e : p = i
        · rw [e, pk_uLs, if_pos rfl]
        · rw [pk_uLn e, if_neg e]; exact hF p hp e
      · unfold zinL
        by_cases e : p = i
        · rw [e, pk_uLs, if_pos rfl]
        · rw [pk_uLn e, if_neg e]; exact hM p hp e
      · rw [← hg3, zh_set_n (by omega), ← hg2, zh_set_n (by omega), ← hg1, zh_set_n (by omega)]
variable {T : zT}
/-- one row more -/
theorem zgput (hq : q ≤ 300) {c i m : Nat} {G : Nat → Int64} {F M : Nat → Int64} {h : zx_H} (S : TS h (q + 1) T) (w : zWF T) (hc : c < T.nc) (hi : i < T.nr) (hch : T.ch i = true) (gc : zGc h q c m F M) (hm : m ≤ i) (gs : zGs T c i m G) (hF : ∀ p, p < m → F p = G p) (hM : ∀ p, p < m → M p = zB (zMb T c i (G p)) T.nr) : ∃ g m' G' F' M', f_Groups_put q (nI i) h = some ((), g) ∧ TS g (q + 1) T ∧ zGc g q c m' F' M' ∧ m' ≤ i + 1 ∧ zGs T c (i + 1) m' G' ∧ (∀ p, p < m' → F' p = G' p) ∧ (∀ p, p < m' → M' p = zB (zMb T c (i + 1) (G' p)) T.nr) ∧ zU q 7 h g := by
  have h40 := S.r40
  obtain ⟨c0, c1, c2⟩ := gc
  generalize hkey : T.ky c i = key
  -- where it belongs
  have hmem : ∀ g, zB (zMb T c (i + 1) (G g)) T.nr = if G g = key then zB (zMb T c i (G g)) T.nr ||| ((1 : Int64) <<< ((nI i).toInt64 &&& 63)) else zB (zMb T c i (G g)) T.nr := by
    intro g
    by_cases e : G g = key
    · rw [if_pos e, zB_put (by omega) hi]
      refine zB_c fun j hj => ?_
      unfold zMb
      by_cases e2 : j = i
      · subst e2
        simp [hch, hkey, e]
      · have : (j < i + 1) ↔ (j < i) := by omega
        simp [e2, this]
    · rw [if_neg e]
      refine zB_c fun j hj => ?_
      unfold zMb
      by_cases e2 : j = i
      · subst e2
        have : ¬ T.ky c j = G g := fun x => e (x.symm.trans hkey)
        simp [this]
      · have : (j < i + 1) ↔ (j < i) := by omega
        simp [this]
  -- the row is written into group s, that has its key
  have p75 : ∀ (h2 : zx_H) (s m2 : Nat) (F2 M2 : Nat → Int64), s < m2 → m2 ≤ 40 → zGc h2 q c m2 F2 M2 → ∃ g M3, f_Groups_put_75 q (nI i) (nI s) h2 = some ((), g) ∧ zGc g q c m2 F2 M3 ∧ M3 s = M2 s ||| ((1 : Int64) <<< ((nI i).toInt64 &&& 63)) ∧ (∀ p, p ≠ s → M3 p = M2 p) ∧ zU q 7 h2 g ∧ ∀ p, q < p → p < q + 5 → g[p]? = h2[p]? := by
    intro h2 s m2 F2 M2 hs hm2 ⟨d0, d1, d2⟩
    have l2 := zh_ldJ d2 (show s < 40 by omega) (by decide)
    have t2 := zh_stJ (x := M2 s ||| ((1 : Int64) <<< ((nI i).toInt64 &&& 63))) d2 (show s < 40 by omega) (by decide)
    refine ⟨_, _, ?_, ⟨by rw [zh_set_n (by omega)]; exact d0, by rw [zh_set_n (by omega)]; exact d1, zh_set_s d2⟩, pk_uLs, fun p hp => pk_uLn hp, zU_s d2 rfl (by omega), fun p p1 p2 => zh_set_n (by omega)⟩
    unfold f_Groups_put_75
    rw [ze_b (zh_I d0 rfl), if_neg (nI_ge hs (by omega)), ze_b (zh_A d0 rfl), ze_b l2, ze_b t2]
  have loop : ∀ n s, s ≤ m → m - s < n → (∀ a, a < s → zrk false false (G a) < zrk false false key) → ∃ g m' G' F' M', f_Groups_put_16 n q (nI i) key (nI s) h = some ((), g) ∧ TS g (q + 1) T ∧ zGc g q c m' F' M' ∧ m' ≤ i + 1 ∧ zGs T c (i + 1) m' G' ∧ (∀ p, p < m' → F' p = G' p) ∧ (∀ p, p < m' → M' p = zB (zMb T c (i + 1) (G' p)) T.nr) ∧ zU q 7 h g := by
    intro n
    induction n with
    | zero => intro s _ hn; exact absurd hn (Nat.not_lt_zero _)
    | succ n ih =>
      intro s hs hn hlow
      -- a new group at s
      have hnew : (∀ a, s ≤ a → a < m → zrk false false key < zrk false false (G a)) → ∃ g m' G' F' M', (zf_b (zf_is 5 q h) fun _ => zf_b2 (f_Groups_open q (nI s) key h) fun _ h3 => f_Groups_put_75 q (nI i) (nI s) h3) = some ((), g) ∧ TS g (q + 1) T ∧ zGc g q c m' F' M' ∧ m' ≤ i + 1 ∧ zGs T c (i + 1) m' G' ∧ (∀ p, p < m' → F' p = G' p) ∧ (∀ p, p < m' → M' p = zB (zMb T c (i + 1) (G' p)) T.nr) ∧ zU q 7 h g := by
        intro hup
        have hno : ∀ r, r < i → T.ch r = true → T.ky c r ≠ key := by
          intro r hr hcr e
          obtain ⟨g, hg, eg⟩ := gs.2.2 r hr hcr
          rw [e] at eg
          rcases Nat.lt_or_ge g s with h1 | h1
          · have := hlow g h1; rw [eg] at this; omega
          · have := hup g h1 hg; rw [eg] at this; omega
        obtain ⟨g1, F1, M1, e1, gc1, z2, z3, U1, fr1⟩ := zgopen hq (key := key) (G := G) (Z := fun p => zB (zMb T c i (G p)) T.nr) hs (show m < 40 by omega) zF m h F M hs (Nat.le_refl _) (by unfold zF; omega) ⟨c0, c1, c2⟩ (fun p p1 p2 => by
          unfold zgpL
          rw [if_neg (by omega)]; exact hF p (by omega)) (fun p p1 p2 => by
          unfold zgpL
          rw [if_neg (by omega)]; exact hM p (by omega))
        obtain ⟨g2, M2, e2, gc2, y1, y2, U2, fr2⟩ := p75 g1 s (m + 1) F1 M1 (by omega) (by omega) gc1
        have S2 : TS g2 (q + 1) T := by
          obtain ⟨⟨K, X, O, H, hr⟩, hq9⟩ := S
          refine ⟨⟨K, X, O, ⟨?_, ?_, ?_, ?_, H.nc4, H.nr40⟩, hr⟩, hq9⟩
          · rw [fr2 _ (by omega) (by omega), fr1 _ (by omega) (by omega)]; exact H.c
          · rw [fr2 _ (by omega) (by omega), fr1 _ (by omega) (by omega)]; exact H.k
          · rw [fr2 _ (by omega) (by omega), fr1 _ (by omega) (by omega)]; exact H.x
          · rw [fr2 _ (by omega) (by omega), fr1 _ (by omega) (by omega)]; exact H.o
        refine ⟨g2, m + 1, zinL G s m key, F1, M2, ?_, S2, gc2, by omega, ⟨fun a b hab hb => ?_, fun g hg => ?_, fun r hr hcr => ?_⟩, fun p hp => z2 p (by omega), fun p hp => ?_, zU_t U1 U2⟩
        · have eo : f_Groups_open q (nI s) key h = some ((), g1) := by
            unfold f_Groups_open
            rw [ze_b (zh_I c0 rfl), if_pos (show nI m < (40 : Int32) from nI_lt (b := 40) (by omega) (by decide)), ze_b (zh_I c0 rfl)]
            exact e1
          rw [ze_b (zh_is c0), ze_b2 eo]
          exact e2
        · rcases Nat.lt_trichotomy b s with e | e | e
          · rw [zinL_lt (by omega), zinL_lt e]; exact gs.1 a b hab (by omega)
          · subst e; rw [zinL_lt hab, zinL_s]; exact hlow a hab
          · rw [zinL_gt e (by omega)]
            rcases Nat.lt_trichotomy a s with e2 | e2 | e2
            · rw [zinL_lt e2]; exact gs.1 a (b - 1) (by omega) (by omega)
            · subst e2; rw [zinL_s]; exact hup (b - 1) (by omega) (by omega)
            · rw [zinL_gt e2 (by omega)]; exact gs.1 (a - 1) (b - 1) (by omega) (by omega)
        · rcases Nat.lt_trichotomy g s with e | e | e
          · rw [zinL_lt e]
            obtain ⟨r, x1, x2, x3⟩ := gs.2.1 g (by omega)
            exact ⟨r, by omega, x2, x3⟩
          · rw [e, zinL_s]; exact ⟨i, by omega, hch, hkey⟩
          · rw [zinL_gt e (by omega)]
            obtain ⟨r, x1, x2, x3⟩ := gs.2.1 (g - 1) (by omega)
            exact ⟨r, by omega, x2, x3⟩
        · rcases Nat.lt_or_ge r i with h1 | h1
          · obtain ⟨g, hg, eg⟩ := gs.2.2 r h1 hcr
            rcases Nat.lt_or_ge g s with h2 | h2
            · exact ⟨g, by omega, by rw [zinL_lt h2]; exact eg⟩
            · exact ⟨g + 1, by omega, by rw [zinL_gt (by omega) (by omega), Nat.add_sub_cancel]; exact eg⟩
          · have : r = i := by omega
            rw [this, hkey]
            exact ⟨s, by omega, zinL_s⟩
        · -- the members
          have hz : zB (zMb T c i key) T.nr = 0 := (zB_zero (by omega)).mpr fun j hj => by
            unfold zMb
            by_cases h1 : j < i
            · cases h2 : T.ch j
              · simp
              · have := hno j h1 h2
                simp [this]
            · simp [h1]
          have hself : zB (zMb T c (i + 1) key) T.nr = (0 : Int64) ||| ((1 : Int64) <<< ((nI i).toInt64 &&& 63)) := by
            rw [← hz, zB_put (by omega) hi]
            refine zB_c fun j hj => ?_
            unfold zMb
            by_cases e2 : j = i
            · subst e2
              simp [hch, hkey]
            · have : (j < i + 1) ↔ (j < i) := by omega
              simp [e2, this]
          have hsame : ∀ g, g < m → zB (zMb T c (i + 1) (G g)) T.nr = zB (zMb T c i (G g)) T.nr := by
            intro g hg
            rw [hmem g, if_neg]
            intro e
            obtain ⟨r, x1, x2, x3⟩ := gs.2.1 g hg
            exact hno r x1 x2 (x3.trans e)
          rcases Nat.lt_trichotomy p s with e | e | e
          · rw [y2 p (by omega), z3 p (by omega), zinL_lt e, zinL_lt e, hsame p (by omega)]
          · rw [e, y1, z3 s (by omega), zinL_s, zinL_s, hself]
          · rw [y2 p (by omega), z3 p (by omega), zinL_gt e (by omega), zinL_gt e (by omega), hsame (p - 1) (by omega)]
      unfold f_Groups_put_16
      rw [ze_b (zh_I c0 rfl)]
      rcases Nat.lt_or_ge s m with hlt | hge
      · have l1 := zh_ldJ c1 (show s < 40 by omega) (by decide)
        rw [hF s hlt] at l1
        have za := zahead (G s) key false false h
        have za : f_ColumnVault_isAhead (G s) key 0 0 h = some (zb (decide (zrk false false (G s) < zrk false false key)), h) := za
        rw [if_neg (nI_ge hlt (by omega)), ze_b (zh_A c0 rfl), ze_b l1, ze_b2 za]
        by_cases hb : zrk false false (G s) < zrk false false key
        · rw [decide_eq_true hb, if_neg (show ¬ zb true = 0 by decide), nI_1]
          exact ih (s + 1) hlt (by omega) (lt_s hlow hb)
        · rw [decide_eq_false hb, if_pos (show zb false = 0 from rfl)]
          unfold f_Groups_put_47
          rw [ze_b (zh_I c0 rfl), if_neg (by rw [nI_eq (by omega) (by omega)]; omega), ze_b (zh_A c0 rfl), ze_b l1]
          by_cases he : G s = key
          · rw [if_pos he]
            obtain ⟨g2, M2, e2, gc2, y1, y2, U2, fr2⟩ := p75 h s m F M hlt (by omega) ⟨c0, c1, c2⟩
            have S2 : TS g2 (q + 1) T := by
              obtain ⟨⟨K, X, O, H, hr⟩, hq9⟩ := S
              refine ⟨⟨K, X, O, ⟨?_, ?_, ?_, ?_, H.nc4, H.nr40⟩, hr⟩, hq9⟩
              · rw [fr2 _ (by omega) (by omega)]; exact H.c
              · rw [fr2 _ (by omega) (by omega)]; exact H.k
              · rw [fr2 _ (by omega) (by omega)]; exact H.x
              · rw [fr2 _ (by omega) (by omega)]; exact H.o
            refine ⟨g2, m, G, F, M2, e2, S2, gc2, by omega, ⟨gs.1, fun g hg => ?_, fun r hr hcr => ?_⟩, hF, fun p hp => ?_, U2⟩
            · obtain ⟨r, x1, x2, x3⟩ := gs.2.1 g hg
              exact ⟨r, by omega, x2, x3⟩
            · rcases Nat.lt_or_ge r i with h1 | h1
              · exact gs.2.2 r h1 hcr
              · have : r = i := by omega
                rw [this, hkey]
                exact ⟨s, hlt, he⟩
            · rw [hmem p]
              by_cases e : p = s
              · rw [e, if_pos he, y1, hM s hlt]
              · rw [if_neg (fun x => e (gs.one hp hlt (x.trans he.symm))), y2 p e, hM p hp]
          · rw [if_neg he]
            refine hnew fun a ha1 ha2 => ?_
            have h1 : zrk false false key < zrk false false (G s) := by
              have := mt (zrk_inj (down := false) (first := false) (k := G s) (k' := key)).mp he
              omega
            rcases Nat.lt_or_ge s a with h2 | h2
            · have := gs.1 s a h2 ha2
              omega
            · have : a = s := by omega
              rw [this]; exact h1
      · have e : s = m := Nat.le_antisymm hs hge
        rw [if_pos (nI_le hge (by omega))]
        unfold f_Groups_put_47
        rw [ze_b (zh_I c0 rfl), if_pos (by rw [e])]
        exact hnew fun a ha1 ha2 => absurd ha2 (by omega)
  unfold f_Groups_put
  rw [ze_b (zh_A c0 rfl), ze_b (zh_I c0 rfl), ze_b S.ok, ze_b2 (S.keyAt hc hi), hkey]
  exact loop zF 0 (Nat.zero_le _) (by unfold zF; omega) (fun a ha => absurd ha (Nat.not_lt_zero _))
theorem zgmake {qs : Nat} {h : zx_H} (hq : q ≤ 300) (S : TS h qs T) (w : zWF T) {c : Nat} (hc : c < T.nc) (A : zGrA h q) (hd : q + 5 ≤ qs ∨ qs + 4 ≤ q) : ∃ g m G, f_Groups_make q qs (nI c) h = some ((), g) ∧ zGrp g q T c m G (fun a => zMb T c T.nr (G a)) ∧ zGs T c T.nr m G ∧ zU q 7 h g := by
  have h40 := S.r40
  obtain ⟨⟨x0, y0, c0⟩, hs, ⟨F0, c1⟩, M0, c2⟩ := A
  obtain ⟨g1, e1, S1, U1⟩ := S.copy hs (by omega)
  have d0 : g1[q]? = some (.inr (5, [.ref (q + 1), .ref (q + 5), .ref (q + 6), .int x0, .int y0])) := by rw [U1.2.2 q (by omega)]; exact c0
  have d1 : g1[q + 5]? = some (.inl (2, 40, .inr (.inl F0))) := by rw [U1.2.2 (q + 5) (by omega)]; exact c1
  have d2 : g1[q + 6]? = some (.inl (2, 40, .inr (.inl M0))) := by rw [U1.2.2 (q + 6) (by omega)]; exact c2
  have t3 := zh_put (k := 3) (v := .int (nI c)) d0 (by show _ < 5; decide)
  generalize hg2 : g1.set q (.inr (5, [.ref (q + 1), .ref (q + 5), .ref (q + 6), .int (nI c), .int y0])) = g2
  have t3 : zf_put 5 3 q (.int (nI c)) g1 = some g2 := t3.trans (congrArg some hg2)
  have f0 : g2[q]? = some (.inr (5, [.ref (q + 1), .ref (q + 5), .ref (q + 6), .int (nI c), .int y0])) := by rw [← hg2]; exact zh_set_s d0
  have u2 : zU q 1 g1 g2 := by rw [← hg2]; exact zU_s d0 rfl (by omega)
  have t4 := zh_put (k := 4) (v := .int (nI 0)) f0 (by show _ < 5; decide)
  generalize hg3 : g2.set q (.inr (5, [.ref (q + 1), .ref (q + 5), .ref (q + 6), .int (nI c), .int (nI 0)])) = g3
  have t4 : zf_put 5 4 q (.int (nI 0)) g2 = some g3 := t4.trans (congrArg some hg3)
  have u3 : zU q 1 g2 g3 := by rw [← hg3]; exact zU_s f0 rfl (by omega)
  have S3 : TS g3 (q + 1) T := (S1.U u2 (by omega)).U u3 (by omega)
  have gc3 : zGc g3 q c 0 F0 M0 := ⟨by rw [← hg3]; exact zh_set_s f0, by rw [u3.2.2 _ (by omega), u2.2.2 _ (by omega)]; exact d1, by rw [u3.2.2 _ (by omega), u2.2.2 _ (by omega)]; exact d2⟩
  have key : ∀ n i m G F M g0, i ≤ T.nr → T.nr - i < n → TS g0 (q + 1) T → zGc g0 q c m F M → m ≤ i → zGs T c i m G → (∀ p, p < m → F p = G p) → (∀ p, p < m → M p = zB (zMb T c i (G p)) T.nr) → ∃ g m' G', f_Groups_make_20 n q (nI i) g0 = some ((), g) ∧ zGrp g q T c m' G' (fun a => zMb T c T.nr (G' a)) ∧ zGs T c T.nr m' G' ∧ zU q 7 g0 g := by
    intro n
    induction n with
    | zero => intro i _ _ _ _ _ _ hn; exact absurd hn (Nat.not_lt_zero _)
    | succ n ih =>
      intro i m G F M g0 hi hn SZ gc hm gs hF hM
      have b0 := gc.1
      unfold f_Groups_make_20
      rw [ze_b (zh_A b0 rfl), ze_b SZ.I4]
      rcases Nat.lt_or_ge i T.nr with hlt | hge
      · rw [if_neg (nI_ge hlt (by omega)), ze_b (zh_A b0 rfl), ze_b SZ.J5, ze_b2 (SZ.holds hlt)]
        by_cases hch : T.ch i = true
        · obtain ⟨g1, m1, G1, F1, M1, e1, S1, gc1, hm1, gs1, hF1, hM1, U1⟩ := zgput hq SZ w hc hlt hch gc hm gs hF hM
          obtain ⟨g, m', G', e2, x1, x2, U2⟩ := ih (i + 1) m1 G1 F1 M1 g1 hlt (by omega) S1 gc1 hm1 gs1 hF1 hM1
          refine ⟨g, m', G', ?_, x1, x2, zU_t U1 U2⟩
          rw [hch, if_neg (show ¬ zb true = 0 by decide), ze_b (zh_is b0), ze_b2 e1, nI_1]
          exact e2
        · have hch := ts_nt hch
          rw [hch, if_pos (show zb false = 0 from rfl), nI_1]
          refine ih (i + 1) m G F M g0 hlt (by omega) SZ gc (by omega) ⟨gs.1, fun g hg => ?_, fun r hr hcr => ?_⟩ hF (fun p hp => ?_)
          · obtain ⟨r, x1, x2, x3⟩ := gs.2.1 g hg
            exact ⟨r, by omega, x2, x3⟩
          · rcases Nat.lt_or_ge r i with h1 | h1
            · exact gs.2.2 r h1 hcr
            · have : r = i := by omega
              rw [this, hch] at hcr
              exact absurd hcr (by decide)
          · rw [hM p hp]
            refine zB_c fun j hj => ?_
            unfold zMb
            by_cases e2 : j = i
            · subst e2; simp [hch]
            · have : (j < i + 1) ↔ (j < i) := by omega
              simp [this]
      · have e : i = T.nr := Nat.le_antisymm hi hge
        subst e
        rw [if_pos (nI_le (Nat.le_refl _) (by omega))]
        exact ⟨g0, m, G, rfl, ⟨gc.1, SZ, w, ⟨F, gc.2.1, hF⟩, ⟨M, gc.2.2, hM⟩, by omega⟩, gs, zU_r⟩
  obtain ⟨g, m, G, e, x1, x2, U⟩ := key zF 0 0 (fun _ => 0) F0 M0 g3 (Nat.zero_le _) (by unfold zF; omega) S3 gc3 (Nat.le_refl _) ⟨fun a b _ hb => absurd hb (Nat.not_lt_zero _), fun g hg => absurd hg (Nat.not_lt_zero _), fun r hr => absurd hr (Nat.not_lt_zero _)⟩ (fun p hp => absurd hp (Nat.not_lt_zero _)) (fun p hp => absurd hp (Nat.not_lt_zero _))
  refine ⟨g, m, G, ?_, x1, x2, zU_t (zU_w U1 (by omega) (by omega)) (zU_t (zU_w u2 (by omega) (by omega)) (zU_t (zU_w u3 (by omega) (by omega)) U))⟩
  have hsh : zf_is 10 (q + 1) h = some () := by
    obtain ⟨⟨K, X, O, nc, nr, ch, H⟩, _⟩ := hs
    exact zh_is H.c
  unfold f_Groups_make
  rw [ze_b (zh_A c0 rfl), ze_b hsh, ze_b2 e1, ze_b t3]
  rw [show (0 : Int32) = nI 0 from rfl, ze_b t4]
  exact e
end ZGR

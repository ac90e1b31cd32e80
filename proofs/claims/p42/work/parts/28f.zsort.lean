/-! ===== sorted by insertion ===== -/
section ZSO
variable {h : zx_H} {q : Nat} {T : zT}
/-- what a key counts in an order: isAhead compares by it -/
def zrk (down first : Bool) (k : Int64) : Int := if k = -9000000000 then (if first = true then -1180591620717411303424 else 1180591620717411303424) else if down = true then -k.toInt else k.toInt
theorem zrk_rng (k : Int64) : -9223372036854775808 ≤ k.toInt ∧ k.toInt < 9223372036854775808 := fb_rngL k
theorem zrk_inj {down first : Bool} {k k' : Int64} : zrk down first k = zrk down first k' ↔ k = k' := by
  refine ⟨fun e => ?_, fun e => by rw [e]⟩
  unfold zrk at e
  have a := zrk_rng k
  have b := zrk_rng k'
  rcases Classical.em (k = -9000000000) with h1 | h1 <;> rcases Classical.em (k' = -9000000000) with h2 | h2
  · rw [h1, h2]
  · rw [if_pos h1, if_neg h2] at e
    cases first <;> cases down <;> simp at e <;> omega
  · rw [if_neg h1, if_pos h2] at e
    cases first <;> cases down <;> simp at e <;> omega
  · rw [if_neg h1, if_neg h2] at e
    rw [zl_i]
    cases down <;> simp at e <;> omega
theorem zrk_m {down first : Bool} : zrk down first (-9000000000) = if first = true then -1180591620717411303424 else 1180591620717411303424 := if_pos rfl
theorem zrk_n {down first : Bool} {k : Int64} (h : k ≠ -9000000000) : zrk down first k = if down = true then -k.toInt else k.toInt := if_neg h
theorem zahead (k k' : Int64) (down first : Bool) (h : zx_H) : f_ColumnVault_isAhead k k' (zb down) (zb first) h = some (zb (decide (zrk down first k < zrk down first k')), h) := by
  have a := zrk_rng k
  have b := zrk_rng k'
  unfold f_ColumnVault_isAhead
  by_cases e : k = k'
  · rw [if_neg (fun x => x e), e, decide_eq_false (by omega)]; rfl
  · rw [if_pos e]
    by_cases e1 : k = -9000000000
    · have e2 : k' ≠ -9000000000 := fun x => e (e1.trans x.symm)
      have e3 : decide (zrk down first k < zrk down first k') = first := by
        rw [e1, zrk_m, zrk_n e2]
        cases first
        · cases down
          · exact decide_eq_false (show ¬ (1180591620717411303424 : Int) < k'.toInt by omega)
          · exact decide_eq_false (show ¬ (1180591620717411303424 : Int) < -k'.toInt by omega)
        · cases down
          · exact decide_eq_true (show (-1180591620717411303424 : Int) < k'.toInt by omega)
          · exact decide_eq_true (show (-1180591620717411303424 : Int) < -k'.toInt by omega)
      rw [e3, if_neg (fun x => x e1), if_pos (by cases first <;> rfl)]
    · rw [if_pos e1]
      by_cases e2 : k' = -9000000000
      · have e3 : decide (zrk down first k < zrk down first k') = !first := by
          rw [e2, zrk_m, zrk_n e1]
          cases first
          · cases down
            · exact decide_eq_true (show k.toInt < (1180591620717411303424 : Int) by omega)
            · exact decide_eq_true (show -k.toInt < (1180591620717411303424 : Int) by omega)
          · cases down
            · exact decide_eq_false (show ¬ k.toInt < (-1180591620717411303424 : Int) by omega)
            · exact decide_eq_false (show ¬ -k.toInt < (-1180591620717411303424 : Int) by omega)
        rw [e3, if_neg (fun x => x e2)]
        cases first
        · rw [if_neg (fun x => x rfl)]; rfl
        · rw [if_pos (by decide)]; rfl
      · rw [if_pos e2, zrk_n e1, zrk_n e2]
        cases down
        · rw [if_pos (show zb false = 0 from rfl)]
          by_cases e3 : k' ≤ k
          · have e4 := (zl_e _ _).mp e3
            have e5 : decide ((if false = true then -k.toInt else k.toInt) < (if false = true then -k'.toInt else k'.toInt)) = false := decide_eq_false (show ¬ k.toInt < k'.toInt by omega)
            rw [if_pos e3, e5]; rfl
          · have e4 : ¬ k'.toInt ≤ k.toInt := fun x => e3 ((zl_e _ _).mpr x)
            have e5 : decide ((if false = true then -k.toInt else k.toInt) < (if false = true then -k'.toInt else k'.toInt)) = true := decide_eq_true (show k.toInt < k'.toInt by omega)
            rw [if_neg e3, e5]; rfl
        · rw [if_neg (show ¬ zb true = 0 by decide)]
          by_cases e3 : k ≤ k'
          · have e4 := (zl_e _ _).mp e3
            have e5 : decide ((if true = true then -k.toInt else k.toInt) < (if true = true then -k'.toInt else k'.toInt)) = false := decide_eq_false (show ¬ -k.toInt < -k'.toInt by omega)
            rw [if_pos e3, e5]; rfl
          · have e4 : ¬ k.toInt ≤ k'.toInt := fun x => e3 ((zl_e _ _).mpr x)
            have e5 : decide ((if true = true then -k.toInt else k.toInt) < (if true = true then -k'.toInt else k'.toInt)) = true := decide_eq_true (show -k.toInt < -k'.toInt by omega)
            rw [if_neg e3, e5]; rfl
/-- what stood at g .. i - 1 moved by one -/
def zgap (o : Nat → Nat) (g i : Nat) : Nat → Nat := fun p => if g < p ∧ p ≤ i then o (p - 1) else o p
/-- x put at s, what stood at s .. i - 1 moved by one -/
def zins (o : Nat → Nat) (s i x : Nat) : Nat → Nat := fun p => if p = s then x else zgap o s i p
theorem zins_lt {o : Nat → Nat} {s i x p : Nat} (h : p < s) : zins o s i x p = o p := by
  unfold zins zgap
  rw [if_neg (by omega), if_neg (by omega)]
theorem zins_s {o : Nat → Nat} {s i x : Nat} : zins o s i x s = x := if_pos rfl
theorem zins_gt {o : Nat → Nat} {s i x p : Nat} (h : s < p) (h2 : p ≤ i) : zins o s i x p = o (p - 1) := by
  unfold zins zgap
  rw [if_neg (by omega), if_pos ⟨h, h2⟩]
theorem zins_out {o : Nat → Nat} {s i x p : Nat} (hs : s ≤ i) (h : i < p) : zins o s i x p = o p := by
  unfold zins zgap
  rw [if_neg (by omega), if_neg (by omega)]
theorem zins_sorted {R : Nat → Nat → Prop} {o : Nat → Nat} {s i x : Nat} (hs : s ≤ i) (h : ∀ a b, a < b → b < i → R (o a) (o b)) (h1 : ∀ p, p < s → R (o p) x) (h2 : ∀ p, s ≤ p → p < i → R x (o p)) : ∀ a b, a < b → b < i + 1 → R (zins o s i x a) (zins o s i x b) := by
  intro a b hab hb
  rcases Nat.lt_trichotomy b s with e | e | e
  · rw [zins_lt (by omega), zins_lt e]; exact h a b hab (by omega)
  · subst e; rw [zins_lt hab, zins_s]; exact h1 a hab
  · rw [zins_gt e (by omega)]
    rcases Nat.lt_trichotomy a s with e2 | e2 | e2
    · rw [zins_lt e2]; exact h a (b - 1) (by omega) (by omega)
    · subst e2; rw [zins_s]; exact h2 (b - 1) (by omega) (by omega)
    · rw [zins_gt e2 (by omega)]; exact h (a - 1) (b - 1) (by omega) (by omega)
theorem zins_mem {o : Nat → Nat} {s i x y : Nat} (hs : s ≤ i) : (∃ a, a < i + 1 ∧ zins o s i x a = y) ↔ y = x ∨ ∃ a, a < i ∧ o a = y := by
  constructor
  · rintro ⟨a, ha, e⟩
    rcases Nat.lt_trichotomy a s with e2 | e2 | e2
    · rw [zins_lt e2] at e; exact Or.inr ⟨a, by omega, e⟩
    · subst e2; rw [zins_s] at e; exact Or.inl e.symm
    · rw [zins_gt e2 (by omega)] at e; exact Or.inr ⟨a - 1, by omega, e⟩
  · rintro (e | ⟨a, ha, e⟩)
    · exact ⟨s, by omega, by rw [zins_s]; exact e.symm⟩
    · rcases Nat.lt_or_ge a s with e2 | e2
      · exact ⟨a, by omega, by rw [zins_lt e2]; exact e⟩
      · exact ⟨a + 1, by omega, by rw [zins_gt (by omega) (by omega)]; exact e⟩
theorem zsort34 (c : Nat) (hc : c < T.nc) (down first : Bool) (k : Nat → Int32 → Int32 → Int32 → Int32 → zx_H → Option (Unit × zx_H)) (o : Nat → Nat) {i : Nat} (hi : i < T.nr) (h40 : T.nr ≤ 40) (ho : ∀ p, p < T.nr → o p < T.nr) : ∀ n g h0, g ≤ i → g < n → TS h0 q (zKO T T.ky (zgap o g i)) → (∀ p, g ≤ p → p < i → zrk down first (T.ky c (o i)) < zrk down first (T.ky c (o p))) → ∃ g1 s, f_Sheet_orderBy_34 k n q (nI c) (zb down) (zb first) (nI i) (nI (o i)) (T.ky c (o i)) (nI g) h0 = k q (nI c) (zb down) (zb first) (nI (i + 1)) g1 ∧ TS g1 q (zKO T T.ky (zins o s i (o i))) ∧ s ≤ i ∧ (0 < s → ¬ zrk down first (T.ky c (o i)) < zrk down first (T.ky c (o (s - 1)))) ∧ (∀ p, s ≤ p → p < i → zrk down first (T.ky c (o i)) < zrk down first (T.ky c (o p))) ∧ zU q 4 h0 g1 := by
  intro n
  induction n with
  | zero => intro g _ _ hn; exact absurd hn (Nat.not_lt_zero _)
  | succ n ih =>
    intro g h0 hg hn S hgt
    have hput : ∀ x, ∃ g1, zf_stI (q + 3) (nI g) (nI x) h0 = some g1 ∧ TS g1 q (zKO T T.ky (fun j => if j = g then x else zgap o g i j)) ∧ zU q 4 h0 g1 := fun x => S.setO (p := g) (show g < T.nr by omega) x
    have hend : (0 < g → ¬ zrk down first (T.ky c (o i)) < zrk down first (T.ky c (o (g - 1)))) → ∃ g1 s, (zf_b (zf_A 10 2 q h0) fun v1 => zf_b (zf_stI v1 (nI g) (nI (o i)) h0) fun h2 => k q (nI c) (zb down) (zb first) (nI i + (1 : Int32)) h2) = k q (nI c) (zb down) (zb first) (nI (i + 1)) g1 ∧ TS g1 q (zKO T T.ky (zins o s i (o i))) ∧ s ≤ i ∧ (0 < s → ¬ zrk down first (T.ky c (o i)) < zrk down first (T.ky c (o (s - 1)))) ∧ (∀ p, s ≤ p → p < i → zrk down first (T.ky c (o i)) < zrk down first (T.ky c (o p))) ∧ zU q 4 h0 g1 := by
      intro hz
      obtain ⟨g1, e1, S1, U1⟩ := hput (o i)
      exact ⟨g1, g, by rw [ze_b S.A2, ze_b e1, nI_1], S1, hg, hz, hgt, U1⟩
    unfold f_Sheet_orderBy_34
    cases g with
    | zero =>
      rw [if_pos (show nI 0 ≤ (0 : Int32) by decide)]
      exact hend (fun x => absurd x (Nat.not_lt_zero _))
    | succ g =>
      have hx : ¬ nI (g + 1) ≤ 0 := nI_nle (by omega) (by omega)
      have e1 : zf_ldI (q + 3) (nI g) h0 = some (nI (o g)) := by
        have := S.o (p := g) (show g < T.nr by omega)
        rw [this]
        show some (nI (zgap o (g + 1) i g)) = _
        unfold zgap
        rw [if_neg (by omega)]
      have e2 : f_Sheet_keyAt q (nI c) (nI (o g)) h0 = some (T.ky c (o g), h0) := S.keyAt (c := c) (r := o g) hc (ho g (by omega))
      rw [if_neg hx, nI_pred, ze_b S.A2, ze_b e1, ze_b S.ok, ze_b2 e2, ze_b2 (zahead _ _ down first h0)]
      by_cases hb : zrk down first (T.ky c (o i)) < zrk down first (T.ky c (o g))
      · rw [decide_eq_true hb, if_neg (show ¬ zb true = 0 by decide), ze_b S.A2, ze_b S.A2, ze_b e1, pk_m1]
        obtain ⟨g1, r1, S1, U1⟩ := hput (o g)
        rw [ze_b r1]
        obtain ⟨g2, s, e3, S2, b1, b2, b3, U2⟩ := ih g g1 (by omega) (by omega) (by
          refine S1.same rfl rfl (fun _ _ => rfl) (fun _ _ _ _ => rfl) (fun p hp => ?_) (fun _ _ => rfl)
          show zgap o g i p = if p = g + 1 then o g else zgap o (g + 1) i p
          unfold zgap
          by_cases e : p = g + 1
          · rw [if_pos e, if_pos (by omega), e, Nat.add_sub_cancel]
          · rw [if_neg e]
            by_cases e9 : g < p ∧ p ≤ i
            · rw [if_pos e9, if_pos (by omega)]
            · rw [if_neg e9, if_neg (by omega)]) (fun p hp hp2 => by
          rcases Nat.lt_or_ge g p with h1 | h1
          · exact hgt p h1 hp2
          · have : p = g := by omega
            rw [this]; exact hb)
        exact ⟨g2, s, e3, S2, b1, b2, b3, zU_t U1 U2⟩
      · rw [decide_eq_false hb, if_pos (show zb false = 0 from rfl)]
        exact hend (fun _ => by rw [Nat.add_sub_cancel]; exact hb)
/-- o' is o sorted by the ranks of column c, rows alike as they stood -/
def zSrt (T : zT) (c : Nat) (down first : Bool) (o' : Nat → Nat) (m : Nat) : Prop := ∀ a b, a < b → b < m → zrk down first (T.ky c (o' a)) < zrk down first (T.ky c (o' b)) ∨ (zrk down first (T.ky c (o' a)) = zrk down first (T.ky c (o' b)) ∧ zpl T.od (o' a) T.nr < zpl T.od (o' b) T.nr)
theorem TS.sort (S : TS h q T) (w : zWF T) {c : Nat} (hc : c < T.nc) (down first : Bool) : ∃ g o', f_Sheet_orderBy q (nI c) (zb down) (zb first) h = some ((), g) ∧ TS g q (zKO T T.ky o') ∧ zPerm o' T.nr ∧ zSrt T c down first o' T.nr ∧ zU q 4 h g := by
  have h40 := S.r40
  have key : ∀ n i o h0, 1 ≤ i → i ≤ T.nr → T.nr - i < n → TS h0 q (zKO T T.ky o) → (∀ p, i ≤ p → p < T.nr → o p = T.od p) → (∀ y, (∃ a, a < i ∧ o a = y) ↔ ∃ a, a < i ∧ T.od a = y) → zSrt T c down first o i → ∃ g o', f_Sheet_orderBy_3 n q (nI c) (zb down) (zb first) (nI i) h0 = some ((), g) ∧ TS g q (zKO T T.ky o') ∧ zSrt T c down first o' T.nr ∧ (∀ y, (∃ a, a < T.nr ∧ o' a = y) ↔ ∃ a, a < T.nr ∧ T.od a = y) ∧ zU q 4 h0 g := by
    intro n
    induction n with
    | zero => intro i _ _ _ _ hn; exact absurd hn (Nat.not_lt_zero _)
    | succ n ih =>
      intro i o h0 h1 hi hn SZ hz1 hz2 hz3
      unfold f_Sheet_orderBy_3
      have e0 : zf_I 10 4 q h0 = some (nI T.nr) := SZ.I4
      rw [ze_b e0]
      rcases Nat.lt_or_ge i T.nr with hlt | hge
      · have ho : ∀ p, p < T.nr → o p < T.nr := by
          intro p hp
          rcases Nat.lt_or_ge p i with h2 | h2
          · obtain ⟨a, ha, e⟩ := (hz2 (o p)).mp ⟨p, h2, rfl⟩
            rw [← e]; exact w.o (by omega)
          · rw [hz1 p h2 hp]; exact w.o hp
        have e1 : zf_ldI (q + 3) (nI i) h0 = some (nI (o i)) := SZ.o (p := i) hlt
        have e2 : f_Sheet_keyAt q (nI c) (nI (o i)) h0 = some (T.ky c (o i), h0) := SZ.keyAt (c := c) (r := o i) hc (ho i hlt)
        rw [if_neg (nI_ge hlt (by omega)), ze_b SZ.A2, ze_b e1, ze_b SZ.ok, ze_b2 e2]
        obtain ⟨g1, s, e3, S1, b1, b2, b3, U1⟩ := zsort34 c hc down first (f_Sheet_orderBy_3 n) o hlt h40 ho zF i h0 (Nat.le_refl _) (by unfold zF; omega) (SZ.same rfl rfl (fun _ _ => rfl) (fun _ _ _ _ => rfl) (fun p hp => by
          show zgap o i i p = o p
          unfold zgap
          rw [if_neg (by omega)]) (fun _ _ => rfl)) (fun p a b => absurd b (by omega))
        have hoi : o i = T.od i := hz1 i (Nat.le_refl _) hlt
        have hpi : zpl T.od (o i) T.nr = i := by rw [hoi, zpl_p w.p hlt]
        have hpp : ∀ p, p < i → zpl T.od (o p) T.nr < i := by
          intro p hp
          obtain ⟨a, ha, e⟩ := (hz2 (o p)).mp ⟨p, hp, rfl⟩
          rw [← e, zpl_p w.p (by omega)]; exact ha
        obtain ⟨g, o', e4, S2, c1, c2, U2⟩ := ih (i + 1) _ g1 (by omega) hlt (by omega) S1 (fun p hp hp2 => by
          rw [zins_out b1 (by omega)]; exact hz1 p (by omega) hp2) (fun y => by
          rw [zins_mem b1]
          constructor
          · rintro (e | x)
            · exact ⟨i, by omega, by rw [e, hoi]⟩
            · obtain ⟨a, ha, e⟩ := (hz2 y).mp x
              exact ⟨a, by omega, e⟩
          · rintro ⟨a, ha, e⟩
            rcases Nat.lt_or_ge a i with h2 | h2
            · exact Or.inr ((hz2 y).mpr ⟨a, h2, e⟩)
            · have : a = i := by omega
              left; rw [hoi, ← e, this]) (by
          refine zins_sorted (R := fun a b => zrk down first (T.ky c a) < zrk down first (T.ky c b) ∨ (zrk down first (T.ky c a) = zrk down first (T.ky c b) ∧ zpl T.od a T.nr < zpl T.od b T.nr)) b1 hz3 (fun p hp => ?_) (fun p hp hp2 => ?_)
          · have d1 := b2 (by omega)
            have d2 : zrk down first (T.ky c (o p)) ≤ zrk down first (T.ky c (o (s - 1))) := by
              rcases Nat.lt_or_ge p (s - 1) with d3 | d3
              · rcases hz3 p (s - 1) d3 (by omega) with d4 | d4 <;> omega
              · have : p = s - 1 := by omega
                rw [this]; omega
            have d5 := hpp p (by omega)
            rw [hpi]
            omega
          · exact Or.inl (b3 p hp hp2))
        exact ⟨g, o', e3.trans e4, S2, c1, c2, zU_t U1 U2⟩
      · have e : i = T.nr := Nat.le_antisymm hi hge
        subst e
        rw [if_pos (nI_le (Nat.le_refl _) (by omega))]
        exact ⟨h0, o, rfl, SZ, hz3, hz2, zU_r⟩
  have hfin : ∀ {o' : Nat → Nat}, zSrt T c down first o' T.nr → (∀ y, (∃ a, a < T.nr ∧ o' a = y) ↔ ∃ a, a < T.nr ∧ T.od a = y) → zPerm o' T.nr := by
    intro o' h1 h2
    refine ⟨fun i hi => ?_, fun i j hij hj e => ?_⟩
    · obtain ⟨a, ha, e⟩ := (h2 (o' i)).mp ⟨i, hi, rfl⟩
      rw [← e]; exact w.o ha
    · rcases h1 i j hij hj with d | d
      · rw [e] at d; omega
      · rw [e] at d; omega
  unfold f_Sheet_orderBy
  rcases Nat.eq_zero_or_pos T.nr with hz | hz
  · refine ⟨h, T.od, ?_, S.same rfl rfl (fun _ _ => rfl) (fun _ _ _ _ => rfl) (fun _ _ => rfl) (fun _ _ => rfl), w.p, fun a b _ hb => absurd hb (by omega), zU_r⟩
    show f_Sheet_orderBy_3 (4999 + 1) _ _ _ _ _ _ = _
    unfold f_Sheet_orderBy_3
    rw [ze_b S.I4, hz, if_pos (by decide)]
  · obtain ⟨g, o', e, S9, c1, c2, U9⟩ := key zF 1 T.od h (Nat.le_refl _) hz (by unfold zF; omega) (S.same rfl rfl (fun _ _ => rfl) (fun _ _ _ _ => rfl) (fun _ _ => rfl) (fun _ _ => rfl)) (fun _ _ _ => rfl) (fun _ => Iff.rfl) (fun a b _ hb => absurd hb (by omega))
    exact ⟨g, o', e, S9, hfin c1 c2, c1, U9⟩
theorem TS.unlike {B : zT} {q' : Nat} (S : TS h q T) (S' : TS h q' B) (he : T.nr = B.nr) (w : zWF T) (w' : zWF B) : f_Sheet_placesUnlike q q' h = some (nI (fb_ct (fun p => decide (T.od p ≠ B.od p)) T.nr), h) := by
  have h40 := S.r40
  have key : ∀ n i, i ≤ T.nr → T.nr - i < n → f_Sheet_placesUnlike_4 n q q' (nI (fb_ct (fun p => decide (T.od p ≠ B.od p)) i)) (nI i) h = some (nI (fb_ct (fun p => decide (T.od p ≠ B.od p)) T.nr), h) := by
    intro n
    induction n with
    | zero => intro i _ hn; exact absurd hn (Nat.not_lt_zero _)
    | succ n ih =>
      intro i hi hn
      unfold f_Sheet_placesUnlike_4
      rcases Nat.lt_or_ge i T.nr with hlt | hge
      · have h1 := ih (i + 1) hlt (by omega)
        rw [fb_ct_succ] at h1
        have o1 := w.o hlt
        have o2 := w'.o (show i < B.nr by omega)
        rw [ze_b S.I4, if_neg (nI_ge hlt (by omega)), ze_b S.ok, ze_b2 (S.rowInOrder hlt), ze_b S'.ok, ze_b2 (S'.rowInOrder (by omega))]
        by_cases e : T.od i = B.od i
        · rw [if_neg (by rw [e]; exact fun x => x rfl), nI_1, show (0 : Int32) = nI 0 from rfl, nI_add]
          rw [decide_eq_false (fun x => x e)] at h1
          exact h1
        · rw [if_pos (by rw [nI_eq (by omega) (by omega)]; exact e), nI_1, nI_1]
          rw [decide_eq_true e] at h1
          exact h1
      · have e : i = T.nr := Nat.le_antisymm hi hge
        subst e
        rw [ze_b S.I4, if_pos (nI_le (Nat.le_refl _) (by omega))]
  exact key zF 0 (Nat.zero_le _) (by unfold zF; omega)
theorem zWF.ord {T : zT} (w : zWF T) {o : Nat → Nat} (h : zPerm o T.nr) : zWF (zKO T T.ky o) := ⟨w.c4, w.r40, fun _ hc => w.k1 hc, fun _ _ hc hr => w.k hc hr, h⟩
end ZSO

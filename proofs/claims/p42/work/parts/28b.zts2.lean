/-! ===== a table: first, last, nearest, alike ===== -/
section ZTU
variable {h : zx_H} {q : Nat} {T : zT}
def zFst (g : Nat → Bool) (n : Nat) (o : Nat → Nat) (x : Int32) : Prop := (∃ i, i < n ∧ g i = true ∧ (∀ j, j < i → g j = false) ∧ x = nI (o i)) ∨ ((∀ j, j < n → g j = false) ∧ x = -1)
def zLst (g : Nat → Bool) (n : Nat) (o : Nat → Nat) (x : Int32) : Prop := (∃ i, i < n ∧ g i = true ∧ (∀ j, i < j → j < n → g j = false) ∧ x = nI (o i)) ∨ ((∀ j, j < n → g j = false) ∧ x = -1)
theorem zFst_one {g : Nat → Bool} {n : Nat} {o : Nat → Nat} {x y : Int32} (a : zFst g n o x) (b : zFst g n o y) : x = y := by
  rcases a with ⟨i, h1, h2, h3, rfl⟩ | ⟨h1, rfl⟩
  · rcases b with ⟨j, k1, k2, k3, rfl⟩ | ⟨k1, rfl⟩
    · rcases Nat.lt_trichotomy i j with e | e | e
      · rw [k3 i e] at h2; exact absurd h2 (by decide)
      · rw [e]
      · rw [h3 j e] at k2; exact absurd k2 (by decide)
    · rw [k1 i h1] at h2; exact absurd h2 (by decide)
  · rcases b with ⟨j, k1, k2, k3, rfl⟩ | ⟨k1, rfl⟩
    · rw [h1 j k1] at k2; exact absurd k2 (by decide)
    · rfl
theorem zLst_one {g : Nat → Bool} {n : Nat} {o : Nat → Nat} {x y : Int32} (a : zLst g n o x) (b : zLst g n o y) : x = y := by
  rcases a with ⟨i, h1, h2, h3, rfl⟩ | ⟨h1, rfl⟩
  · rcases b with ⟨j, k1, k2, k3, rfl⟩ | ⟨k1, rfl⟩
    · rcases Nat.lt_trichotomy i j with e | e | e
      · rw [h3 j e k1] at k2; exact absurd k2 (by decide)
      · rw [e]
      · rw [k3 i e h1] at h2; exact absurd h2 (by decide)
    · rw [k1 i h1] at h2; exact absurd h2 (by decide)
  · rcases b with ⟨j, k1, k2, k3, rfl⟩ | ⟨k1, rfl⟩
    · rw [h1 j k1] at k2; exact absurd k2 (by decide)
    · rfl
theorem TS.first2 (S : TS h q T) (w : zWF T) (p : Nat → Bool) : ∀ n i, i ≤ T.nr → T.nr - i < n → (∀ j, j < i → p (T.od j) = false) → ∃ x, f_Sheet_firstOf_2 n q (zB p T.nr) (nI i) h = some (x, h) ∧ zFst (fun i => p (T.od i)) T.nr T.od x := by
  have h40 := S.r40
  intro n
  induction n with
  | zero => intro i _ hn; exact absurd hn (Nat.not_lt_zero _)
  | succ n ih =>
    intro i hi hn hj
    unfold f_Sheet_firstOf_2
    rcases Nat.lt_or_ge i T.nr with hlt | hge
    · rw [ze_b S.I4, if_neg (nI_ge hlt (by omega)), ze_b S.A2, ze_b (S.o hlt), ze_b2 (S.holds (w.o hlt)), nI_1]
      by_cases e : p (T.od i) = true
      · rw [e, if_neg (by decide), ze_b S.A2, ze_b (S.o hlt)]
        exact ⟨_, rfl, Or.inl ⟨i, hlt, e, hj, rfl⟩⟩
      · have e := ts_nt e
        rw [e, if_pos (by decide)]
        exact ih (i + 1) hlt (by omega) (lt_s hj e)
    · have e : i = T.nr := Nat.le_antisymm hi hge
      subst e
      rw [ze_b S.I4, if_pos (nI_le (Nat.le_refl _) (by omega))]
      exact ⟨_, rfl, Or.inr ⟨hj, rfl⟩⟩
theorem TS.first (S : TS h q T) (w : zWF T) (p : Nat → Bool) : ∃ x, f_Sheet_firstOf q (zB p T.nr) h = some (x, h) ∧ zFst (fun i => p (T.od i)) T.nr T.od x := S.first2 w p zF 0 (Nat.zero_le _) (by have := S.r40; unfold zF; omega) (fun j hj => absurd hj (Nat.not_lt_zero _))
theorem TS.last7 (S : TS h q T) (w : zWF T) (p : Nat → Bool) : ∀ n i, i ≤ T.nr → i < n → (∀ j, i ≤ j → j < T.nr → p (T.od j) = false) → ∃ x, f_Sheet_lastOf_7 n q (zB p T.nr) (nI i - 1) h = some (x, h) ∧ zLst (fun i => p (T.od i)) T.nr T.od x := by
  have h40 := S.r40
  intro n
  induction n with
  | zero => intro i _ hn; exact absurd hn (Nat.not_lt_zero _)
  | succ n ih =>
    intro i hi hn hj
    unfold f_Sheet_lastOf_7
    cases i with
    | zero =>
      rw [if_pos (by decide)]
      exact ⟨_, rfl, Or.inr ⟨fun j hj2 => hj j (Nat.zero_le _) hj2, rfl⟩⟩
    | succ i =>
      have hlt : i < T.nr := hi
      have e1 : nI i + (-1 : Int32) = nI i - 1 := by
        cases i with
        | zero => decide
        | succ k => rw [pk_m1, nI_pred]
      rw [nI_pred, if_neg (nI_pos (by omega)), ze_b S.A2, ze_b (S.o hlt), ze_b2 (S.holds (w.o hlt)), e1]
      by_cases e : p (T.od i) = true
      · rw [e, if_neg (by decide), ze_b S.A2, ze_b (S.o hlt)]
        exact ⟨_, rfl, Or.inl ⟨i, hlt, e, fun j a b => hj j a b, rfl⟩⟩
      · have e := ts_nt e
        rw [e, if_pos (by decide)]
        refine ih i (by omega) (by omega) fun j a b => ?_
        rcases Nat.lt_or_ge i j with h1 | h1
        · exact hj j h1 b
        · have : j = i := by omega
          rw [this]; exact e
theorem TS.last (S : TS h q T) (w : zWF T) (p : Nat → Bool) : ∃ x, f_Sheet_lastOf q (zB p T.nr) h = some (x, h) ∧ zLst (fun i => p (T.od i)) T.nr T.od x := by
  unfold f_Sheet_lastOf
  rw [ze_b S.I4]
  exact S.last7 w p zF T.nr (Nat.le_refl _) (by have := S.r40; unfold zF; omega) (fun j a b => absurd b (by omega))
/-- the nearest key: of those that fit, best -/
def zNear (T : zT) (c : Nat) (key : Int64) (below : Bool) (m : Nat) (best : Int64) : Prop :=
  (best = -9000000000 ∧ ∀ r, r < m → T.ky c r ≠ -9000000000 → ¬ (if below = true then T.ky c r ≤ key else key ≤ T.ky c r)) ∨
  (best ≠ -9000000000 ∧ (∃ r, r < m ∧ T.ky c r = best) ∧ (if below = true then best ≤ key else key ≤ best) ∧ ∀ r, r < m → T.ky c r ≠ -9000000000 → (if below = true then T.ky c r ≤ key else key ≤ T.ky c r) → if below = true then T.ky c r ≤ best else best ≤ T.ky c r)
theorem zNear_s {T : zT} {c : Nat} {key : Int64} {below : Bool} {m : Nat} {best : Int64} (h : zNear T c key below m best) : zNear T c key below (m + 1) (if T.ky c m ≠ -9000000000 ∧ (if below = true then T.ky c m ≤ key else key ≤ T.ky c m) ∧ (best = -9000000000 ∨ (if below = true then best < T.ky c m else T.ky c m < best)) then T.ky c m else best) := by
  have hx : ∀ r, r < m + 1 → r < m ∨ r = m := fun r hr => by omega
  by_cases h1 : T.ky c m ≠ -9000000000 ∧ (if below = true then T.ky c m ≤ key else key ≤ T.ky c m) ∧ (best = -9000000000 ∨ (if below = true then best < T.ky c m else T.ky c m < best))
  · rw [if_pos h1]
    obtain ⟨a1, a2, a3⟩ := h1
    refine Or.inr ⟨a1, ⟨m, Nat.lt_succ_self _, rfl⟩, a2, fun r hr hn hf => ?_⟩
    rcases hx r hr with hr | rfl
    · rcases h with ⟨b1, b2⟩ | ⟨b1, b2, b3, b4⟩
      · exact absurd hf (b2 r hr hn)
      · have b5 := b4 r hr hn hf
        rcases a3 with a3 | a3
        · exact absurd a3 b1
        · cases below
          · simp only [zl_t, zl_e, Bool.false_eq_true, if_false] at *
            omega
          · simp only [zl_t, zl_e, if_true] at *
            omega
    · cases below
      · simp only [zl_e, Bool.false_eq_true, if_false]; omega
      · simp only [zl_e, if_true]; omega
  · rw [if_neg h1]
    rcases h with ⟨b1, b2⟩ | ⟨b1, b2, b3, b4⟩
    · refine Or.inl ⟨b1, fun r hr hn hf => ?_⟩
      rcases hx r hr with hr | rfl
      · exact b2 r hr hn hf
      · exact h1 ⟨hn, hf, Or.inl b1⟩
    · refine Or.inr ⟨b1, ?_, b3, fun r hr hn hf => ?_⟩
      · obtain ⟨r, hr, e⟩ := b2
        exact ⟨r, by omega, e⟩
      · rcases hx r hr with hr | rfl
        · exact b4 r hr hn hf
        · have a3 : ¬ (if below = true then best < T.ky c r else T.ky c r < best) := fun x => h1 ⟨hn, hf, Or.inr x⟩
          cases below
          · simp only [zl_t, zl_e, Bool.false_eq_true, if_false] at *
            omega
          · simp only [zl_t, zl_e, if_true] at *
            omega
theorem TS.near8 (S : TS h q T) {c : Nat} (hc : c < T.nc) (key : Int64) (below : Bool) : ∀ n i best, i ≤ T.nr → T.nr - i < n → zNear T c key below i best → ∃ best', f_Sheet_nearestKey_8 n q (nI c) key (zb below) best (nI i) h = some (best', h) ∧ zNear T c key below T.nr best' := by
  have h40 := S.r40
  intro n
  induction n with
  | zero => intro i _ _ hn; exact absurd hn (Nat.not_lt_zero _)
  | succ n ih =>
    intro i best hi hn hN
    unfold f_Sheet_nearestKey_8
    rcases Nat.lt_or_ge i T.nr with hlt | hge
    · have h1 := ih (i + 1) _ hlt (by omega) (zNear_s hN)
      rw [ze_b S.I4, if_neg (nI_ge hlt (by omega)), ze_b S.ok, ze_b2 (S.keyAt hc hlt)]
      unfold f_Sheet_nearestKey_62
      rw [nI_1]
      generalize hk : T.ky c i = k at h1 ⊢
      by_cases e1 : k = -9000000000
      · rw [if_pos e1, if_pos rfl]
        rw [if_neg (fun x => x.1 e1)] at h1
        exact h1
      · rw [if_neg e1]
        have hm : (best = -9000000000) = (best = (-9000000000 : Int64)) := rfl
        cases below
        · rw [if_pos (by decide)]
          by_cases e2 : k < key
          · rw [if_pos e2, if_pos rfl]
            rw [if_neg] at h1
            · exact h1
            · rintro ⟨_, x, _⟩
              simp only [zl_t, zl_e, Bool.false_eq_true, if_false] at *
              omega
          · rw [if_neg e2, if_neg (by decide)]
            have e2' : key ≤ k := by
              simp only [zl_t, zl_e] at *
              omega
            by_cases e3 : best = -9000000000
            · rw [if_pos e3]
              rw [if_pos ⟨e1, by simpa using e2', Or.inl e3⟩] at h1
              exact h1
            · rw [if_neg e3, if_pos (by decide)]
              by_cases e4 : best ≤ k
              · rw [if_pos e4]
                rw [if_neg] at h1
                · exact h1
                · rintro ⟨_, _, x | x⟩
                  · exact e3 x
                  · simp only [zl_t, zl_e, Bool.false_eq_true, if_false] at *
                    omega
              · rw [if_neg e4]
                rw [if_pos] at h1
                · exact h1
                · refine ⟨e1, by simpa using e2', Or.inr ?_⟩
                  simp only [zl_t, zl_e, Bool.false_eq_true, if_false] at *
                  omega
        · rw [if_neg (by decide)]
          by_cases e2 : key < k
          · rw [if_pos e2, if_pos rfl]
            rw [if_neg] at h1
            · exact h1
            · rintro ⟨_, x, _⟩
              simp only [zl_t, zl_e, if_true] at *
              omega
          · rw [if_neg e2, if_neg (by decide)]
            have e2' : k ≤ key := by
              simp only [zl_t, zl_e] at *
              omega
            by_cases e3 : best = -9000000000
            · rw [if_pos e3]
              rw [if_pos ⟨e1, by simpa using e2', Or.inl e3⟩] at h1
              exact h1
            · rw [if_neg e3, if_neg (by decide)]
              by_cases e4 : k ≤ best
              · rw [if_pos e4]
                rw [if_neg] at h1
                · exact h1
                · rintro ⟨_, _, x | x⟩
                  · exact e3 x
                  · simp only [zl_t, zl_e, if_true] at *
                    omega
              · rw [if_neg e4]
                rw [if_pos] at h1
                · exact h1
                · refine ⟨e1, by simpa using e2', Or.inr ?_⟩
                  simp only [zl_t, zl_e, if_true] at *
                  omega
    · have e : i = T.nr := Nat.le_antisymm hi hge
      subst e
      rw [ze_b S.I4, if_pos (nI_le (Nat.le_refl _) (by omega))]
      exact ⟨_, rfl, hN⟩
theorem TS.near (S : TS h q T) {c : Nat} (hc : c < T.nc) (key : Int64) (below : Bool) : ∃ best, f_Sheet_nearestKey q (nI c) key (zb below) h = some (best, h) ∧ zNear T c key below T.nr best := S.near8 hc key below zF 0 _ (Nat.zero_le _) (by have := S.r40; unfold zF; omega) (Or.inl ⟨rfl, fun r hr => absurd hr (Nat.not_lt_zero _)⟩)
/-! rows that are alike -/
def zAl (A B : zT) (r s : Nat) : Bool := decide (∀ c, c < A.nc → A.ky c r = B.ky c s)
variable {q' : Nat} {B : zT}
theorem TS.alike3 (S : TS h q T) (S' : TS h q' B) (he : T.nc = B.nc) {r s : Nat} (hr : r < T.nr) (hs : s < B.nr) : ∀ n i, i ≤ T.nc → T.nc - i < n → (∀ c, c < i → T.ky c r = B.ky c s) → f_Sheet_isAlike_3 n q (nI r) q' (nI s) (nI i) h = some (zb (zAl T B r s), h) := by
  have h4 := S.c4
  intro n
  induction n with
  | zero => intro i _ hn; exact absurd hn (Nat.not_lt_zero _)
  | succ n ih =>
    intro i hi hn hj
    unfold f_Sheet_isAlike_3
    rcases Nat.lt_or_ge i T.nc with hlt | hge
    · rw [ze_b S.I3, if_neg (nI_ge hlt (by omega)), ze_b S.ok, ze_b2 (S.keyAt hlt hr), ze_b S'.ok, ze_b2 (S'.keyAt (by omega) hs), nI_1]
      by_cases e : T.ky i r = B.ky i s
      · rw [if_pos e]
        exact ih (i + 1) hlt (by omega) (lt_s hj e)
      · rw [if_neg e]
        have : zAl T B r s = false := decide_eq_false fun x => e (x i hlt)
        rw [this]; rfl
    · have e : i = T.nc := Nat.le_antisymm hi hge
      subst e
      have : zAl T B r s = true := decide_eq_true hj
      rw [ze_b S.I3, if_pos (nI_le (Nat.le_refl _) (by omega)), this]
      rfl
theorem TS.alike (S : TS h q T) (S' : TS h q' B) (he : T.nc = B.nc) {r s : Nat} (hr : r < T.nr) (hs : s < B.nr) : f_Sheet_isAlike q (nI r) q' (nI s) h = some (zb (zAl T B r s), h) := S.alike3 S' he hr hs zF 0 (Nat.zero_le _) (by have := S.c4; unfold zF; omega) (fun j hj => absurd hj (Nat.not_lt_zero _))
theorem zB_step {p : Nat → Bool} {n i : Nat} (hn : n ≤ 64) (hi : i < n) : (if p i = true then zB (fun j => decide (j < i) && p j) n ||| ((1 : Int64) <<< ((nI i).toInt64 &&& 63)) else zB (fun j => decide (j < i) && p j) n) = zB (fun j => decide (j < i + 1) && p j) n := by
  by_cases e : p i = true
  · rw [if_pos e, zB_put hn hi]
    refine zB_c fun j _ => ?_
    by_cases h1 : j = i
    · subst h1; simp [e]
    · have h2 : (j < i + 1) ↔ (j < i) := by omega
      simp [h1, h2]
  · rw [if_neg e]
    refine zB_c fun j _ => ?_
    by_cases h1 : j = i
    · subst h1; simp [e]
    · have h2 : (j < i + 1) ↔ (j < i) := by omega
      simp [h2]
theorem zB_full {p : Nat → Bool} {n : Nat} : zB (fun j => decide (j < n) && p j) n = zB p n := zB_c fun j hj => by rw [decide_eq_true hj, Bool.true_and]
theorem zB_start {p : Nat → Bool} {n : Nat} (hn : n ≤ 64) : zB (fun j => decide (j < 0) && p j) n = 0 := (zB_zero hn).mpr fun i _ => by simp
theorem TS.chosenAlike (S : TS h q T) (S' : TS h q' B) (he : T.nc = B.nc) {r : Nat} (hr : r < T.nr) : f_Sheet_chosenAlike q (nI r) q' h = some (zB (fun s => B.ch s && zAl T B r s) B.nr, h) := by
  have h40 := S'.r40
  have key : ∀ n i, i ≤ B.nr → B.nr - i < n → f_Sheet_chosenAlike_5 n q (nI r) q' (zB (fun j => decide (j < i) && (B.ch j && zAl T B r j)) B.nr) (nI i) h = some (zB (fun s => B.ch s && zAl T B r s) B.nr, h) := by
    intro n
    induction n with
    | zero => intro i _ hn; exact absurd hn (Nat.not_lt_zero _)
    | succ n ih =>
      intro i hi hn
      unfold f_Sheet_chosenAlike_5
      rcases Nat.lt_or_ge i B.nr with hlt | hge
      · have h1 := ih (i + 1) hlt (by omega)
        rw [← zB_step (p := fun j => B.ch j && zAl T B r j) (by omega) hlt] at h1
        rw [ze_b S'.I4, if_neg (nI_ge hlt (by omega)), ze_b S'.J5, ze_b2 (S'.holds hlt), nI_1]
        by_cases e : B.ch i = true
        · rw [e, if_neg (by decide), ze_b S.ok, ze_b2 (S.alike S' he hr hlt)]
          by_cases e2 : zAl T B r i = true
          · rw [e2, if_neg (by decide)]
            rw [if_pos (by rw [e, e2]; rfl)] at h1
            exact h1
          · rw [ts_nt e2, if_pos (by decide)]
            rw [if_neg (by rw [e, ts_nt e2]; decide)] at h1
            exact h1
        · rw [ts_nt e, if_pos (by decide)]
          rw [if_neg (by rw [ts_nt e, Bool.false_and]; decide)] at h1
          exact h1
      · have e : i = B.nr := Nat.le_antisymm hi hge
        subst e
        rw [ze_b S'.I4, if_pos (nI_le (Nat.le_refl _) (by omega)), zB_full]
  have h1 := key zF 0 (Nat.zero_le _) (by unfold zF; omega)
  rw [zB_start (by omega)] at h1
  exact h1
/-- the first of its like among the chosen -/
def zDf (T : zT) (r : Nat) : Bool := T.ch r && decide (∀ s, s < r → ¬ (T.ch s = true ∧ zAl T T r s = true))
theorem TS.diffRows (S : TS h q T) : f_Sheet_differentRows q h = some (zB (zDf T) T.nr, h) := by
  have h40 := S.r40
  have key : ∀ n i, i ≤ T.nr → T.nr - i < n → f_Sheet_differentRows_4 n q (zB (fun j => decide (j < i) && zDf T j) T.nr) (nI i) h = some (zB (zDf T) T.nr, h) := by
    intro n
    induction n with
    | zero => intro i _ hn; exact absurd hn (Nat.not_lt_zero _)
    | succ n ih =>
      intro i hi hn
      unfold f_Sheet_differentRows_4
      rcases Nat.lt_or_ge i T.nr with hlt | hge
      · have h1 := ih (i + 1) hlt (by omega)
        rw [← zB_step (p := zDf T) (by omega) hlt] at h1
        rw [ze_b S.I4, if_neg (nI_ge hlt (by omega)), ze_b S.J5, ze_b2 (S.holds hlt), nI_1]
        by_cases e : T.ch i = true
        · rw [e, if_neg (by decide), ze_b S.ok, ze_b2 (S.chosenAlike S rfl hlt), zB_all i (by omega), zB_more (p := fun _ => true) (Nat.le_of_lt hlt) (by omega), zB_and (by omega)]
          by_cases e2 : zDf T i = true
          · rw [if_pos e2] at h1
            rw [if_neg]
            · exact h1
            · rw [Classical.not_not, zB_zero (by omega)]
              intro j hj
              rcases Nat.lt_or_ge j i with h2 | h2
              · have h3 : ∀ s, s < i → ¬ (T.ch s = true ∧ zAl T T i s = true) := by
                  unfold zDf at e2
                  simp only [Bool.and_eq_true, decide_eq_true_eq] at e2
                  exact e2.2
                have h4 := h3 j h2
                cases h5 : T.ch j <;> cases h6 : zAl T T i j <;> simp_all
              · have : decide (j < i) = false := decide_eq_false (by omega)
                simp [this]
          · rw [if_neg e2] at h1
            rw [if_pos]
            · exact h1
            · rw [zB_zero (by omega)]
              intro hall
              apply e2
              unfold zDf
              simp only [Bool.and_eq_true, decide_eq_true_eq]
              refine ⟨e, fun s hs hx => ?_⟩
              have := hall s (by omega)
              simp [hx.1, hx.2, hs] at this
        · rw [ts_nt e, if_pos (by decide)]
          rw [if_neg (by unfold zDf; rw [ts_nt e, Bool.false_and]; decide)] at h1
          exact h1
      · have e : i = T.nr := Nat.le_antisymm hi hge
        subst e
        rw [ze_b S.I4, if_pos (nI_le (Nat.le_refl _) (by omega)), zB_full]
  have h1 := key zF 0 (Nat.zero_le _) (by unfold zF; omega)
  rw [zB_start (by omega)] at h1
  exact h1
/-- in the first of its like, and like none chosen of the other -/
def zOn (A B : zT) (r : Nat) : Bool := zDf A r && decide (∀ s, s < B.nr → ¬ (B.ch s = true ∧ zAl A B r s = true))
theorem TS.onlyHere (S : TS h q T) (S' : TS h q' B) (he : T.nc = B.nc) : f_Sheet_differentRowsOnlyHere q q' h = some (nI (fb_ct (zOn T B) T.nr), h) := by
  have h40 := S.r40
  have h40' := S'.r40
  have key : ∀ n i, i ≤ T.nr → T.nr - i < n → f_Sheet_differentRowsOnlyHere_11 n q q' (zB (zDf T) T.nr) (nI (fb_ct (zOn T B) i)) (nI i) h = some (nI (fb_ct (zOn T B) T.nr), h) := by
    intro n
    induction n with
    | zero => intro i _ hn; exact absurd hn (Nat.not_lt_zero _)
    | succ n ih =>
      intro i hi hn
      unfold f_Sheet_differentRowsOnlyHere_11
      rcases Nat.lt_or_ge i T.nr with hlt | hge
      · have h1 := ih (i + 1) hlt (by omega)
        rw [fb_ct_succ] at h1
        rw [ze_b S.I4, if_neg (nI_ge hlt (by omega)), ze_b2 (S.holds hlt), nI_1]
        by_cases e : zDf T i = true
        · rw [e, if_neg (by decide), ze_b S.ok, ze_b2 (S.chosenAlike S' he hlt)]
          by_cases e2 : ∀ s, s < B.nr → ¬ (B.ch s = true ∧ zAl T B i s = true)
          · have e3 : zOn T B i = true := by unfold zOn; rw [e, decide_eq_true e2]; rfl
            rw [e3, if_pos rfl] at h1
            rw [if_neg, nI_1]
            · exact h1
            · rw [Classical.not_not, zB_zero (by omega)]
              intro j hj
              have h4 := e2 j hj
              cases h5 : B.ch j <;> cases h6 : zAl T B i j <;> simp_all
          · have e3 : zOn T B i = false := by unfold zOn; rw [decide_eq_false e2, Bool.and_false]
            rw [e3, if_neg (by decide)] at h1
            rw [if_pos]
            · exact h1
            · rw [zB_zero (by omega)]
              intro hall
              apply e2
              intro s hs hx
              have := hall s hs
              simp [hx.1, hx.2] at this
        · have e3 : zOn T B i = false := by unfold zOn; rw [ts_nt e, Bool.false_and]
          rw [e3, if_neg (by decide)] at h1
          rw [ts_nt e, if_pos (by decide)]
          exact h1
      · have e : i = T.nr := Nat.le_antisymm hi hge
        subst e
        rw [ze_b S.I4, if_pos (nI_le (Nat.le_refl _) (by omega))]
  unfold f_Sheet_differentRowsOnlyHere
  rw [ze_b S.ok, ze_b2 S.diffRows]
  exact key zF 0 (Nat.zero_le _) (by unfold zF; omega)
/-- one of the left ones is taken by each row of the other, if there is one like it -/
def zTk (A B : zT) (L : Nat → Bool) (s : Nat) : Nat → Bool := fun r => L r && !(L r && zAl B A s r && decide (∀ r', r' < r → ¬ (L r' = true ∧ zAl B A s r' = true)))
def zTa (A B : zT) : Nat → (Nat → Bool)
  | 0 => A.ch
  | s + 1 => if B.ch s = true then zTk A B (zTa A B s) s else zTa A B s
theorem zTa_ch (A B : zT) : ∀ s r, zTa A B s r = true → A.ch r = true
  | 0, r, e => e
  | s + 1, r, e => by
    have ih := zTa_ch A B s r
    unfold zTa at e
    by_cases hb : B.ch s = true
    · rw [if_pos hb] at e
      unfold zTk at e
      exact ih (Bool.and_eq_true_iff.mp e).1
    · rw [if_neg hb] at e
      exact ih e
theorem TS.left (S : TS h q T) (S' : TS h q' B) (he : T.nc = B.nc) : f_Sheet_rowsLeftBy q q' h = some (nI (fb_ct (zTa T B B.nr) T.nr), h) := by
  have h40 := S.r40
  have h40' := S'.r40
  have key : ∀ n i, i ≤ B.nr → B.nr - i < n → f_Sheet_rowsLeftBy_8 n q q' (zB (zTa T B i) T.nr) (nI i) h = some (nI (fb_ct (zTa T B B.nr) T.nr), h) := by
    intro n
    induction n with
    | zero => intro i _ hn; exact absurd hn (Nat.not_lt_zero _)
    | succ n ih =>
      intro i hi hn
      unfold f_Sheet_rowsLeftBy_8
      rcases Nat.lt_or_ge i B.nr with hlt | hge
      · have h1 := ih (i + 1) hlt (by omega)
        rw [ze_b S'.I4, if_neg (nI_ge hlt (by omega)), ze_b S'.J5, ze_b2 (S'.holds hlt), nI_1]
        by_cases e : B.ch i = true
        · have e0 : zTa T B (i + 1) = zTk T B (zTa T B i) i := if_pos e
          rw [e0] at h1
          rw [e, if_neg (by decide), ze_b S'.ok, ze_b2 (S'.chosenAlike S he.symm hlt), zB_and (by omega)]
          have e1 : zB (fun r => zTa T B i r && (T.ch r && zAl B T i r)) T.nr = zB (fun r => zTa T B i r && zAl B T i r) T.nr := zB_c fun j _ => by
            cases hz : zTa T B i j
            · rfl
            · rw [zTa_ch T B i j hz]; rfl
          rw [e1]
          by_cases e2 : ∃ r, r < T.nr ∧ (zTa T B i r && zAl B T i r) = true
          · obtain ⟨r, hr, hp, hl⟩ := fb_first e2
            have hl' : ∀ j, j < r → (zTa T B i j && zAl B T i j) = false := fun j hj => ts_nt (hl j hj)
            rw [zB_low (by omega) hr hp hl']
            have e3 : (1 : Int64) <<< ((nI r).toInt64 &&& 63) = zB (fun j => decide (j = r)) T.nr := zB_of (by omega) fun j _ => by
              rw [zbt_s (by omega)]
              by_cases h2 : j = r
              · subst h2; simp [hr]
              · simp [h2]
            rw [e3, zB_andn (by omega)]
            have e4 : zB (fun j => zTa T B i j && !decide (j = r)) T.nr = zB (zTk T B (zTa T B i) i) T.nr := zB_c fun j _ => by
              unfold zTk
              cases hz : zTa T B i j
              · rfl
              · rw [Bool.true_and, Bool.true_and, Bool.true_and]
                congr 1
                by_cases h2 : j = r
                · subst h2
                  rw [hz, Bool.true_and] at hp
                  rw [decide_eq_true rfl, hp, Bool.true_and]
                  refine Eq.symm (decide_eq_true (p := ∀ r', r' < j → ¬ (zTa T B i r' = true ∧ zAl B T i r' = true)) fun r' hr' hx => ?_)
                  have := hl' r' hr'
                  rw [hx.1, hx.2] at this
                  exact absurd this (by decide)
                · rw [decide_eq_false h2]
                  rcases Nat.lt_or_ge j r with h3 | h3
                  · have := hl' j h3
                    rw [hz, Bool.true_and] at this
                    rw [this, Bool.false_and]
                  · rw [decide_eq_false (p := ∀ r', r' < j → ¬ (zTa T B i r' = true ∧ zAl B T i r' = true)), Bool.and_false]
                    intro hx
                    exact hx r (by omega) (Bool.and_eq_true_iff.mp hp)
            rw [e4]
            exact h1
          · have e2' : ∀ r, r < T.nr → (zTa T B i r && zAl B T i r) = false := fun r hr => ts_nt fun x => e2 ⟨r, hr, x⟩
            rw [zB_low0 (by omega) e2']
            have e3 : ((0 : Int64) ^^^ (-1)) = zB (fun _ => false) T.nr ^^^ (-1) := by rw [zB_none]
            rw [e3, zB_andn (by omega)]
            have e4 : zB (fun j => zTa T B i j && !false) T.nr = zB (zTk T B (zTa T B i) i) T.nr := zB_c fun j hj => by
              unfold zTk
              rw [e2' j hj, Bool.false_and]
            rw [e4]
            exact h1
        · have e0 : zTa T B (i + 1) = zTa T B i := if_neg e
          rw [e0] at h1
          rw [ts_nt e, if_pos (by decide)]
          exact h1
      · have e : i = B.nr := Nat.le_antisymm hi hge
        subst e
        rw [ze_b S'.I4, if_pos (nI_le (Nat.le_refl _) (by omega)), ze_b2 (zB_cnt (by omega) h)]
  unfold f_Sheet_rowsLeftBy
  rw [ze_b S.J5]
  exact key zF 0 (Nat.zero_le _) (by unfold zF; omega)
theorem TS.kinds (S : TS h q T) (S' : TS h q' B) (w : zWF T) (w' : zWF B) : f_Sheet_hasKindsOf q q' h = some (zb (decide (T.nc = B.nc ∧ ∀ c, c < T.nc → T.kd c = B.kd c)), h) := by
  have h4 := S.c4
  have h4' := S'.c4
  have key : ∀ n i, i ≤ T.nc → T.nc - i < n → T.nc = B.nc → (∀ c, c < i → T.kd c = B.kd c) → f_Sheet_hasKindsOf_19 n q q' 1 (nI i) h = some (zb (decide (T.nc = B.nc ∧ ∀ c, c < T.nc → T.kd c = B.kd c)), h) := by
    intro n
    induction n with
    | zero => intro i _ hn; exact absurd hn (Nat.not_lt_zero _)
    | succ n ih =>
      intro i hi hn2 he hj
      unfold f_Sheet_hasKindsOf_19
      rcases Nat.lt_or_ge i T.nc with hlt | hge
      · have k1 := w.k1 hlt
        have k2 := w'.k1 (show i < B.nc by omega)
        rw [ze_b S.I3, if_neg (nI_ge hlt (by omega)), if_neg (by decide), ze_b S.ok, ze_b2 (S.kindOf hlt), ze_b S'.ok, ze_b2 (S'.kindOf (by omega)), nI_1]
        by_cases e : T.kd i = B.kd i
        · rw [if_neg (by rw [e]; exact fun x => x rfl)]
          exact ih (i + 1) hlt (by omega) he (lt_s hj e)
        · rw [if_pos (by rw [nI_eq (by omega) (by omega)]; exact e)]
          rw [decide_eq_false (fun x => e (x.2 i hlt))]
          cases n with
          | zero => omega
          | succ n =>
            unfold f_Sheet_hasKindsOf_19
            rw [ze_b S.I3]
            by_cases h5 : nI T.nc ≤ nI (i + 1)
            · rw [if_pos h5, if_pos (show narrow .boolean (.int 0) = .int 0 from rfl)]; rfl
            · rw [if_neg h5, if_pos rfl, if_pos (show narrow .boolean (.int 0) = .int 0 from rfl)]; rfl
      · have e : i = T.nc := Nat.le_antisymm hi hge
        subst e
        rw [ze_b S.I3, if_pos (nI_le (Nat.le_refl _) (by omega)), if_pos (show narrow .boolean (.int 1) = .int 1 from rfl), decide_eq_true ⟨he, hj⟩]; rfl
  unfold f_Sheet_hasKindsOf
  rw [ze_b S.I3, ze_b S'.I3]
  by_cases he : T.nc = B.nc
  · rw [if_neg (by rw [he]; exact fun x => x rfl)]
    exact key zF 0 (Nat.zero_le _) (by unfold zF; omega) he (fun j hj => absurd hj (Nat.not_lt_zero _))
  · rw [if_pos (by rw [nI_eq (by omega) (by omega)]; exact he), decide_eq_false (fun x => he x.1)]
    show f_Sheet_hasKindsOf_19 (4999 + 1) q q' 0 0 h = _
    unfold f_Sheet_hasKindsOf_19
    rw [ze_b S.I3]
    by_cases h5 : nI T.nc ≤ 0
    · rw [if_pos h5, if_pos (show narrow .boolean (.int 0) = .int 0 from rfl)]; rfl
    · rw [if_neg h5, if_pos rfl, if_pos (show narrow .boolean (.int 0) = .int 0 from rfl)]; rfl
end ZTU

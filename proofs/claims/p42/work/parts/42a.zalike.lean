/-! ===== rows alike: counted ===== -/
section ZAK
/-- as many at least, if each of the one is sent to one of the other, no two to one -/
theorem fb_ct_inj {p : Nat → Bool} {m : Nat} {f : Nat → Nat} : ∀ {n : Nat} {q : Nat → Bool}, (∀ r, r < n → p r = true → f r < m ∧ q (f r) = true) → (∀ r r', r < n → r' < n → p r = true → p r' = true → f r = f r' → r = r') → fb_ct p n ≤ fb_ct q m
  | 0, _, _, _ => Nat.zero_le _
  | n + 1, q, h1, h2 => by
    rw [fb_ct_succ]
    by_cases hp : p n = true
    · obtain ⟨a, b⟩ := h1 n (Nat.lt_succ_self n) hp
      have e := fb_ct_upd q false (i := f n) (n := m) a
      rw [b, if_pos rfl, if_neg (by decide)] at e
      have ih := fb_ct_inj (p := p) (m := m) (f := f) (n := n) (q := fun k => if k = f n then false else q k) (fun r hr hpr => by
        obtain ⟨c, d⟩ := h1 r (Nat.lt_succ_of_lt hr) hpr
        refine ⟨c, ?_⟩
        show (if f r = f n then false else q (f r)) = true
        rw [if_neg (fun x => by have := h2 r n (Nat.lt_succ_of_lt hr) (Nat.lt_succ_self n) hpr hp x; omega)]
        exact d) (fun r r' hr hr' => h2 r r' (Nat.lt_succ_of_lt hr) (Nat.lt_succ_of_lt hr'))
      rw [if_pos hp]
      omega
    · rw [if_neg hp]
      exact fb_ct_inj (fun r hr => h1 r (Nat.lt_succ_of_lt hr)) (fun r r' hr hr' => h2 r r' (Nat.lt_succ_of_lt hr) (Nat.lt_succ_of_lt hr'))
variable {A B : zT}
theorem zAl_r (A : zT) (r : Nat) : zAl A A r r = true := decide_eq_true fun _ _ => rfl
theorem zAl_s (he : A.nc = B.nc) {r s : Nat} (h : zAl A B r s = true) : zAl B A s r = true := by
  have h1 := of_decide_eq_true h
  exact decide_eq_true fun c hc => (h1 c (by omega)).symm
theorem zAl_t {C : zT} (he : A.nc = B.nc) {r s u : Nat} (h : zAl A B r s = true) (h' : zAl B C s u = true) : zAl A C r u = true := by
  have h1 := of_decide_eq_true h
  have h2 := of_decide_eq_true h'
  exact decide_eq_true fun c hc => (h1 c hc).trans (h2 c (by omega))
theorem zOn_self (A : zT) (r : Nat) (hr : r < A.nr) : zOn A A r = false := by
  unfold zOn
  by_cases h : zDf A r = true
  · have h1 : A.ch r = true := by
      unfold zDf at h
      exact (Bool.and_eq_true_iff.mp h).1
    rw [h, Bool.true_and]
    exact decide_eq_false fun x => x r hr ⟨h1, zAl_r A r⟩
  · rw [ts_nt h, Bool.false_and]
theorem zDf_ch {r : Nat} (h : zDf A r = true) : A.ch r = true := by
  unfold zDf at h
  exact (Bool.and_eq_true_iff.mp h).1
theorem zDf_f {r s : Nat} (h : zDf A r = true) (hs : s < r) : ¬ (A.ch s = true ∧ zAl A A r s = true) := by
  unfold zDf at h
  exact of_decide_eq_true (Bool.and_eq_true_iff.mp h).2 s hs
/-- two of the first of their likes, that are alike: one -/
theorem zDf_one {r s : Nat} (h : zDf A r = true) (h' : zDf A s = true) (e : zAl A A r s = true) : r = s := by
  rcases Nat.lt_or_ge r s with c | c
  · exact absurd ⟨zDf_ch h, zAl_s rfl e⟩ (zDf_f h' c)
  · rcases Nat.lt_or_ge s r with d | d
    · exact absurd ⟨zDf_ch h', e⟩ (zDf_f h d)
    · omega
theorem zDf_ex {n : Nat} (he : A.nc = B.nc) {r : Nat} (hs : ∃ s, s < n ∧ B.ch s = true ∧ zAl A B r s = true) : ∃ s, s < n ∧ zDf B s = true ∧ zAl A B r s = true := by
  obtain ⟨s, h1, ⟨h2, h3⟩, h4⟩ := fb_first (p := fun s => B.ch s = true ∧ zAl A B r s = true) (n := n) (by obtain ⟨s, a, b, c⟩ := hs; exact ⟨s, a, b, c⟩)
  refine ⟨s, h1, ?_, h3⟩
  unfold zDf
  rw [h2, Bool.true_and]
  exact decide_eq_true fun s' hs' x => h4 s' hs' ⟨x.1, zAl_t he h3 x.2⟩
/-- different rows in both, from either side -/
theorem zboth_le (he : A.nc = B.nc) : fb_ct (fun r => zDf A r && !zOn A B r) A.nr ≤ fb_ct (fun s => zDf B s && !zOn B A s) B.nr := by
  have hx : ∀ r, (zDf A r && !zOn A B r) = true → ∃ s, s < B.nr ∧ zDf B s = true ∧ zAl A B r s = true := by
    intro r h
    obtain ⟨h1, h2⟩ := Bool.and_eq_true_iff.mp h
    refine zDf_ex he ?_
    unfold zOn at h2
    rw [h1, Bool.true_and, Bool.not_eq_true'] at h2
    have h3 := of_decide_eq_false h2
    refine Classical.byContradiction fun x => h3 fun s hs y => x ⟨s, hs, y.1, y.2⟩
  refine fb_ct_inj (f := fun r => if h : (zDf A r && !zOn A B r) = true then Classical.choose (hx r h) else 0) (fun r hr hp => ?_) (fun r r' hr hr' hp hp' e => ?_)
  · show (dite _ _ _) < B.nr ∧ _
    have c := Classical.choose_spec (hx r hp)
    have e0 : (if h : (zDf A r && !zOn A B r) = true then Classical.choose (hx r h) else 0) = Classical.choose (hx r hp) := dif_pos hp
    show (if h : (zDf A r && !zOn A B r) = true then Classical.choose (hx r h) else 0) < B.nr ∧ (zDf B (if h : (zDf A r && !zOn A B r) = true then Classical.choose (hx r h) else 0) && !zOn B A (if h : (zDf A r && !zOn A B r) = true then Classical.choose (hx r h) else 0)) = true
    rw [e0]
    generalize Classical.choose (hx r hp) = s at c
    refine ⟨c.1, Bool.and_eq_true_iff.mpr ⟨c.2.1, ?_⟩⟩
    rw [Bool.not_eq_true']
    unfold zOn
    rw [c.2.1, Bool.true_and]
    exact decide_eq_false fun x => x r hr ⟨zDf_ch (Bool.and_eq_true_iff.mp hp).1, zAl_s he c.2.2⟩
  · have c := Classical.choose_spec (hx r hp)
    have c' := Classical.choose_spec (hx r' hp')
    have e0 : (if h : (zDf A r && !zOn A B r) = true then Classical.choose (hx r h) else 0) = Classical.choose (hx r hp) := dif_pos hp
    have e1 : (if h : (zDf A r' && !zOn A B r') = true then Classical.choose (hx r' h) else 0) = Classical.choose (hx r' hp') := dif_pos hp'
    have e2 : Classical.choose (hx r hp) = Classical.choose (hx r' hp') := e0.symm.trans (e.trans e1)
    rw [e2] at c
    exact zDf_one (Bool.and_eq_true_iff.mp hp).1 (Bool.and_eq_true_iff.mp hp').1 (zAl_t he c.2.2 (zAl_s he c'.2.2))
theorem zOn_le (A B : zT) : fb_ct (zOn A B) A.nr ≤ fb_ct (zDf A) A.nr := fb_ct_sub fun k _ hx => by
  unfold zOn at hx
  exact (Bool.and_eq_true_iff.mp hx).1
theorem zboth_ct (A B : zT) : fb_ct (fun r => zDf A r && !zOn A B r) A.nr + fb_ct (zOn A B) A.nr = fb_ct (zDf A) A.nr := by
  rw [← fb_ct_or]
  · refine fb_ct_cong fun r _ => ?_
    by_cases h : zDf A r = true
    · rw [h, Bool.true_and]
      cases zOn A B r <;> rfl
    · have e : zOn A B r = false := by
        unfold zOn
        rw [ts_nt h, Bool.false_and]
      rw [ts_nt h, e]; rfl
  · rintro r _ ⟨h1, h2⟩
    rw [h2, Bool.not_true, Bool.and_false] at h1
    cases h1
theorem zboth_eq (he : A.nc = B.nc) : fb_ct (zDf A) A.nr - fb_ct (zOn A B) A.nr = fb_ct (zDf B) B.nr - fb_ct (zOn B A) B.nr := by
  have h1 := zboth_le he
  have h2 := zboth_le he.symm
  have h3 := zboth_ct A B
  have h4 := zboth_ct B A
  omega
/-! one taken by each -/
/-- how many chosen rows ahead are like row r -/
def zrk1 (A : zT) (r : Nat) : Nat := fb_ct (fun r' => A.ch r' && zAl A A r r') r
/-- how many of the first n chosen rows of the other -/
def zcb (A B : zT) (n r : Nat) : Nat := fb_ct (fun s => B.ch s && zAl B A s r) n
theorem zcb_c (he : A.nc = B.nc) {n r r' : Nat} (h : zAl A A r r' = true) : zcb A B n r = zcb A B n r' := by
  unfold zcb
  refine fb_ct_cong fun s _ => ?_
  have : zAl B A s r = zAl B A s r' := by
    by_cases c : zAl B A s r = true
    · rw [c, zAl_t he.symm c h]
    · rw [ts_nt c]
      refine (ts_nt fun d => c (zAl_t he.symm d (zAl_s rfl h))).symm
  rw [this]
theorem zTa_eq (he : A.nc = B.nc) : ∀ n r, zTa A B n r = (A.ch r && decide (zcb A B n r ≤ zrk1 A r))
  | 0, r => by
    show A.ch r = _
    rw [decide_eq_true (show zcb A B 0 r ≤ zrk1 A r from Nat.zero_le _), Bool.and_true]
  | n + 1, r => by
    have ih := zTa_eq he n
    have hs : zcb A B (n + 1) r = zcb A B n r + (if (B.ch n && zAl B A n r) = true then 1 else 0) := rfl
    show (if B.ch n = true then zTk A B (zTa A B n) n else zTa A B n) r = _
    by_cases hb : B.ch n = true
    · rw [if_pos hb]
      unfold zTk
      rw [hb, Bool.true_and] at hs
      by_cases ha : zAl B A n r = true
      · rw [if_pos ha] at hs
        rw [ha, Bool.and_true]
        have hiff : (zTa A B n r && !(zTa A B n r && decide (∀ r', r' < r → ¬ (zTa A B n r' = true ∧ zAl B A n r' = true)))) = true ↔ (A.ch r && decide (zcb A B (n + 1) r ≤ zrk1 A r)) = true := by
          rw [Bool.and_eq_true_iff, Bool.and_eq_true_iff, decide_eq_true_iff]
          constructor
          · rintro ⟨h1, h2⟩
            rw [h1, Bool.true_and, Bool.not_eq_true'] at h2
            have h3 := of_decide_eq_false h2
            rw [ih r, Bool.and_eq_true_iff, decide_eq_true_iff] at h1
            refine ⟨h1.1, ?_⟩
            obtain ⟨r', hr', h4, h5⟩ : ∃ r', r' < r ∧ zTa A B n r' = true ∧ zAl B A n r' = true := Classical.byContradiction fun x => h3 fun r' hr' y => x ⟨r', hr', y.1, y.2⟩
            rw [ih r', Bool.and_eq_true_iff, decide_eq_true_iff] at h4
            have h6 : zAl A A r r' = true := zAl_t he (zAl_s he.symm ha) h5
            have h7 := zcb_c (B := B) he (n := n) h6
            have h8 : zrk1 A r' + 1 ≤ zrk1 A r := by
              have e1 : zrk1 A r' = fb_ct (fun x => A.ch x && zAl A A r x) r' := by
                unfold zrk1
                refine fb_ct_cong fun x _ => ?_
                have : zAl A A r' x = zAl A A r x := by
                  by_cases c : zAl A A r' x = true
                  · rw [c, zAl_t rfl h6 c]
                  · rw [ts_nt c]
                    exact (ts_nt fun d => c (zAl_t rfl (zAl_s rfl h6) d)).symm
                rw [this]
              have e2 : fb_ct (fun x => A.ch x && zAl A A r x) (r' + 1) = fb_ct (fun x => A.ch x && zAl A A r x) r' + 1 := by
                rw [fb_ct_succ, h4.1, h6]; rfl
              have e3 := fb_ct_mono (fun x => A.ch x && zAl A A r x) (m := r' + 1) (n := r) hr'
              unfold zrk1 at e1 ⊢
              omega
            omega
          · rintro ⟨h1, h2⟩
            have h3 : zTa A B n r = true := by
              rw [ih r, h1, Bool.true_and]
              exact decide_eq_true (by omega)
            refine ⟨h3, ?_⟩
            rw [h3, Bool.true_and, Bool.not_eq_true']
            refine decide_eq_false fun x => ?_
            have h4 : zcb A B n r < fb_ct (fun x => A.ch x && zAl A A r x) r := by
              show _ < zrk1 A r
              omega
            obtain ⟨r', hr', h5, h6⟩ := fb_ct_kth h4
            obtain ⟨h7, h8⟩ := Bool.and_eq_true_iff.mp h5
            refine x r' hr' ⟨?_, zAl_t he.symm ha h8⟩
            rw [ih r', h7, Bool.true_and]
            refine decide_eq_true ?_
            rw [← zcb_c (B := B) he (n := n) h8, ← h6]
            unfold zrk1
            refine Nat.le_of_eq (fb_ct_cong fun y _ => ?_)
            have : zAl A A r y = zAl A A r' y := by
              by_cases c : zAl A A r y = true
              · rw [c, zAl_t rfl (zAl_s rfl h8) c]
              · rw [ts_nt c]
                exact (ts_nt fun d => c (zAl_t rfl h8 d)).symm
            rw [this]
        by_cases c : (A.ch r && decide (zcb A B (n + 1) r ≤ zrk1 A r)) = true
        · rw [c]; exact hiff.mpr c
        · rw [ts_nt c]; exact ts_nt fun d => c (hiff.mp d)
      · rw [if_neg ha] at hs
        rw [ts_nt ha, Bool.and_false, Bool.false_and, Bool.not_false, Bool.and_true, ih r, hs, Nat.add_zero]
    · rw [if_neg hb, ih r]
      rw [ts_nt hb, Bool.false_and, if_neg (by decide)] at hs
      rw [hs, Nat.add_zero]
/-- those that are taken: as many on either side -/
theorem ztaken_le (he : A.nc = B.nc) : fb_ct (fun r => A.ch r && decide (zrk1 A r < zcb A B B.nr r)) A.nr ≤ fb_ct (fun s => B.ch s && decide (zrk1 B s < zcb B A A.nr s)) B.nr := by
  have hx : ∀ r, (A.ch r && decide (zrk1 A r < zcb A B B.nr r)) = true → ∃ s, s < B.nr ∧ (B.ch s && zAl B A s r) = true ∧ fb_ct (fun s => B.ch s && zAl B A s r) s = zrk1 A r := fun r h => fb_ct_kth (of_decide_eq_true (Bool.and_eq_true_iff.mp h).2)
  have key : ∀ r s, r < A.nr → A.ch r = true → (B.ch s && zAl B A s r) = true → fb_ct (fun s => B.ch s && zAl B A s r) s = zrk1 A r → zrk1 B s = zrk1 A r ∧ zrk1 B s < zcb B A A.nr s := by
    intro r s hr hch h1 h2
    obtain ⟨h3, h4⟩ := Bool.and_eq_true_iff.mp h1
    have e1 : zrk1 B s = zrk1 A r := by
      rw [← h2]
      unfold zrk1
      refine fb_ct_cong fun y _ => ?_
      have : zAl B B s y = zAl B A y r := by
        by_cases c : zAl B B s y = true
        · rw [c, zAl_t rfl (zAl_s rfl c) h4]
        · rw [ts_nt c]
          exact (ts_nt fun d => c (zAl_t he.symm h4 (zAl_s he.symm d))).symm
      rw [this]
    refine ⟨e1, ?_⟩
    rw [e1]
    have e2 : zcb B A A.nr s = fb_ct (fun x => A.ch x && zAl A A r x) A.nr := by
      unfold zcb
      refine fb_ct_cong fun y _ => ?_
      have : zAl A B y s = zAl A A r y := by
        by_cases c : zAl A B y s = true
        · rw [c, zAl_s rfl (zAl_t he c h4)]
        · rw [ts_nt c]
          exact (ts_nt fun d => c (zAl_t rfl (zAl_s rfl d) (zAl_s he.symm h4))).symm
      rw [this]
    rw [e2]
    have e3 : fb_ct (fun x => A.ch x && zAl A A r x) (r + 1) = zrk1 A r + 1 := by
      rw [fb_ct_succ, hch, zAl_r]; rfl
    have e4 := fb_ct_mono (fun x => A.ch x && zAl A A r x) (m := r + 1) (n := A.nr) hr
    omega
  refine fb_ct_inj (f := fun r => if h : (A.ch r && decide (zrk1 A r < zcb A B B.nr r)) = true then Classical.choose (hx r h) else 0) (fun r hr hp => ?_) (fun r r' hr hr' hp hp' e => ?_)
  · have c := Classical.choose_spec (hx r hp)
    have e0 : (if h : (A.ch r && decide (zrk1 A r < zcb A B B.nr r)) = true then Classical.choose (hx r h) else 0) = Classical.choose (hx r hp) := dif_pos hp
    show (if h : (A.ch r && decide (zrk1 A r < zcb A B B.nr r)) = true then Classical.choose (hx r h) else 0) < B.nr ∧ (B.ch (if h : (A.ch r && decide (zrk1 A r < zcb A B B.nr r)) = true then Classical.choose (hx r h) else 0) && decide (zrk1 B (if h : (A.ch r && decide (zrk1 A r < zcb A B B.nr r)) = true then Classical.choose (hx r h) else 0) < zcb B A A.nr (if h : (A.ch r && decide (zrk1 A r < zcb A B B.nr r)) = true then Classical.choose (hx r h) else 0))) = true
    rw [e0]
    generalize Classical.choose (hx r hp) = s at c
    exact ⟨c.1, Bool.and_eq_true_iff.mpr ⟨(Bool.and_eq_true_iff.mp c.2.1).1, decide_eq_true (key r s hr (Bool.and_eq_true_iff.mp hp).1 c.2.1 c.2.2).2⟩⟩
  · have c := Classical.choose_spec (hx r hp)
    have c' := Classical.choose_spec (hx r' hp')
    have e0 : (if h : (A.ch r && decide (zrk1 A r < zcb A B B.nr r)) = true then Classical.choose (hx r h) else 0) = Classical.choose (hx r hp) := dif_pos hp
    have e1 : (if h : (A.ch r' && decide (zrk1 A r' < zcb A B B.nr r')) = true then Classical.choose (hx r' h) else 0) = Classical.choose (hx r' hp') := dif_pos hp'
    have e2 : Classical.choose (hx r hp) = Classical.choose (hx r' hp') := e0.symm.trans (e.trans e1)
    rw [e2] at c
    have k1 := (key r _ hr (Bool.and_eq_true_iff.mp hp).1 c.2.1 c.2.2).1
    have k2 := (key r' _ hr' (Bool.and_eq_true_iff.mp hp').1 c'.2.1 c'.2.2).1
    have a1 : zAl A A r r' = true := zAl_t he (zAl_s he.symm (Bool.and_eq_true_iff.mp c.2.1).2) (Bool.and_eq_true_iff.mp c'.2.1).2
    have e3 : fb_ct (fun x => A.ch x && zAl A A r x) r' = zrk1 A r' := by
      unfold zrk1
      refine fb_ct_cong fun y _ => ?_
      have : zAl A A r y = zAl A A r' y := by
        by_cases c : zAl A A r y = true
        · rw [c, zAl_t rfl (zAl_s rfl a1) c]
        · rw [ts_nt c]
          exact (ts_nt fun d => c (zAl_t rfl a1 d)).symm
      rw [this]
    refine fb_ct_kth_one (p := fun x => A.ch x && zAl A A r x) (Bool.and_eq_true_iff.mpr ⟨(Bool.and_eq_true_iff.mp hp).1, zAl_r A r⟩) (Bool.and_eq_true_iff.mpr ⟨(Bool.and_eq_true_iff.mp hp').1, a1⟩) ?_
    rw [e3]
    show zrk1 A r = _
    omega
theorem zleft_ct (he : A.nc = B.nc) : fb_ct (zTa A B B.nr) A.nr + fb_ct (fun r => A.ch r && decide (zrk1 A r < zcb A B B.nr r)) A.nr = fb_ct A.ch A.nr := by
  rw [← fb_ct_or]
  · refine fb_ct_cong fun r _ => ?_
    rw [zTa_eq he]
    cases A.ch r with
    | false => rfl
    | true =>
      rw [Bool.true_and, Bool.true_and]
      by_cases c : zcb A B B.nr r ≤ zrk1 A r
      · rw [decide_eq_true c, Bool.true_or]
      · rw [decide_eq_true (show zrk1 A r < zcb A B B.nr r by omega), Bool.or_true]
  · rintro r _ ⟨h1, h2⟩
    rw [zTa_eq he] at h1
    have a := of_decide_eq_true (Bool.and_eq_true_iff.mp h1).2
    have b := of_decide_eq_true (Bool.and_eq_true_iff.mp h2).2
    omega
theorem zleft_eq (he : A.nc = B.nc) : fb_ct A.ch A.nr - fb_ct (zTa A B B.nr) A.nr = fb_ct B.ch B.nr - fb_ct (zTa B A A.nr) B.nr := by
  have h1 := ztaken_le he
  have h2 := ztaken_le he.symm
  have h3 := zleft_ct he
  have h4 := zleft_ct he.symm
  omega
theorem zleft_self (A : zT) : fb_ct (zTa A A A.nr) A.nr = 0 := by
  refine fb_ct_zero.mpr fun r hr => ?_
  rw [zTa_eq rfl]
  by_cases hc : A.ch r = true
  · rw [hc, Bool.true_and]
    refine decide_eq_false ?_
    have e2 : zcb A A A.nr r = fb_ct (fun x => A.ch x && zAl A A r x) A.nr := by
      unfold zcb
      refine fb_ct_cong fun y _ => ?_
      have : zAl A A y r = zAl A A r y := by
        by_cases c : zAl A A y r = true
        · rw [c, zAl_s rfl c]
        · rw [ts_nt c]
          exact (ts_nt fun d => c (zAl_s rfl d)).symm
      rw [this]
    have e3 : fb_ct (fun x => A.ch x && zAl A A r x) (r + 1) = zrk1 A r + 1 := by
      rw [fb_ct_succ, hc, zAl_r]; rfl
    have e4 := fb_ct_mono (fun x => A.ch x && zAl A A r x) (m := r + 1) (n := A.nr) hr
    omega
  · rw [ts_nt hc, Bool.false_and]
theorem zDf_pos (h : 0 < fb_ct A.ch A.nr) : 0 < fb_ct (zDf A) A.nr := by
  obtain ⟨r, hr, hc⟩ := fb_ct_pos.mp h
  obtain ⟨s, h1, h2, _⟩ := zDf_ex (A := A) (B := A) rfl (r := r) (n := A.nr) ⟨r, hr, hc, zAl_r A r⟩
  exact fb_ct_pos.mpr ⟨s, h1, h2⟩
end ZAK

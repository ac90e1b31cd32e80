/-! ===== isTold: what is counted ===== -/
section ZTD
variable {T : zT} {c b : Nat}
theorem zs_cut {f : Nat → Int64} {p : Nat} : ∀ {n : Nat}, p ≤ n → zs (fun j => if j < p then f j else 0) n = zs f p
  | 0, h => by rw [show p = 0 by omega]; rfl
  | n + 1, h => by
    show zs (fun j => if j < p then f j else 0) n + (if n < p then f n else 0) = _
    by_cases e : p = n + 1
    · subst e
      rw [if_pos (Nat.lt_succ_self n)]
      show _ = zs f n + f n
      rw [zs_c (f := fun j => if j < n + 1 then f j else 0) (g := f) fun i hi => if_pos (by omega)]
    · rw [if_neg (by omega), zs_cut (p := p) (n := n) (by omega), Int64.add_zero]
/-- the running sum, by places -/
theorem zrun_p (wT : zWF T) {p : Nat} (hp : p ≤ T.nr) : zs (fun r => if T.ky c r ≠ -9000000000 ∧ decide (zpl T.od r T.nr < p) = true then T.ky c r else 0) T.nr = zs (fun j => if T.ky c (T.od j) = -9000000000 then 0 else T.ky c (T.od j)) p := by
  rw [← zs_perm wT.p (fun r => if T.ky c r ≠ -9000000000 ∧ decide (zpl T.od r T.nr < p) = true then T.ky c r else 0), ← zs_cut hp]
  refine zs_c fun j hj => ?_
  show (if T.ky c (T.od j) ≠ -9000000000 ∧ decide (zpl T.od (T.od j) T.nr < p) = true then T.ky c (T.od j) else 0) = _
  rw [zpl_p wT.p hj]
  by_cases h1 : j < p
  · rw [if_pos h1]
    by_cases h2 : T.ky c (T.od j) = -9000000000
    · rw [if_pos h2, if_neg (fun x => x.1 h2)]
    · rw [if_neg h2, if_pos ⟨h2, decide_eq_true h1⟩]
  · rw [if_neg h1, if_neg (fun x => h1 (of_decide_eq_true x.2))]
/-- the table by places -/
def zOt (T : zT) : zT := zMk T.nc T.nr T.kd (fun c j => T.ky c (T.od j)) T.od T.ch
theorem zNear_o {key best : Int64} {below : Bool} (wT : zWF T) (h : zNear (zOt T) c key below T.nr best) : zNear T c key below T.nr best := by
  have on : ∀ r, r < T.nr → ∃ j, j < T.nr ∧ T.od j = r := fun r hr => zPerm_on wT.p hr
  rcases h with ⟨h1, h2⟩ | ⟨h1, ⟨j, hj, e⟩, h3, h4⟩
  · refine Or.inl ⟨h1, fun r hr hn => ?_⟩
    obtain ⟨j, hj, rfl⟩ := on r hr
    exact h2 j hj hn
  · refine Or.inr ⟨h1, ⟨T.od j, wT.o hj, e⟩, h3, fun r hr hn => ?_⟩
    obtain ⟨j, hj, rfl⟩ := on r hr
    exact h4 j hj hn
theorem zNear_one {key x y : Int64} {below : Bool} {n : Nat} (a : zNear T c key below n x) (b : zNear T c key below n y) : x = y := by
  rcases a with ⟨a1, a2⟩ | ⟨a1, ⟨r, hr, er⟩, a3, a4⟩
  · rcases b with ⟨b1, b2⟩ | ⟨b1, ⟨s, hs, es⟩, b3, b4⟩
    · rw [a1, b1]
    · exact absurd (by rw [es]; exact b3) (a2 s hs (by rw [es]; exact b1))
  · rcases b with ⟨b1, b2⟩ | ⟨b1, ⟨s, hs, es⟩, b3, b4⟩
    · exact absurd (by rw [er]; exact a3) (b2 r hr (by rw [er]; exact a1))
    · have h1 := a4 s hs (by rw [es]; exact b1) (by rw [es]; exact b3)
      have h2 := b4 r hr (by rw [er]; exact a1) (by rw [er]; exact a3)
      rw [es] at h1
      rw [er] at h2
      rw [zl_i]
      by_cases hb : below = true
      · rw [if_pos hb, zl_e] at h1 h2; omega
      · rw [if_neg hb, zl_e] at h1 h2; omega
theorem zLst_c {g g' : Nat → Bool} {n : Nat} {o : Nat → Nat} {x : Int32} (h : ∀ j, j < n → g j = g' j) (a : zLst g n o x) : zLst g' n o x := by
  rcases a with ⟨i, h1, h2, h3, h4⟩ | ⟨h1, h2⟩
  · exact Or.inl ⟨i, h1, by rw [← h i h1]; exact h2, fun j a b => by rw [← h j b]; exact h3 j a b, h4⟩
  · exact Or.inr ⟨fun j hj => by rw [← h j hj]; exact h1 j hj, h2⟩
theorem zct_lt {p : Nat → Bool} {k m : Nat} (h : ∀ i, i < m → p i = true → i < k) : fb_ct p m ≤ k := by
  have e : fb_ct p m ≤ fb_ct (fun i => decide (i < k)) m := fb_ct_sub fun i hi hp => decide_eq_true (h i hi hp)
  have e2 : ∀ m, fb_ct (fun i => decide (i < k)) m ≤ k := by
    intro m
    induction m with
    | zero => exact Nat.zero_le _
    | succ m ih =>
      rw [fb_ct_succ]
      by_cases c : m < k
      · rw [if_pos (decide_eq_true c)]
        have := fb_ct_le (fun i => decide (i < k)) m
        omega
      · rw [if_neg (by rw [decide_eq_false c]; decide)]
        omega
  exact Nat.le_trans e (e2 m)
theorem zct_ge {p : Nat → Bool} {k m : Nat} (hk : k ≤ m) (h : ∀ i, i < k → p i = true) : k ≤ fb_ct p m := by
  have e : fb_ct p k = k := fb_ct_all.mpr h
  have := fb_ct_mono p hk
  omega
/-- none ahead with its value -/
def zNw (T : zT) (c r : Nat) : Bool := decide (∀ s, s < r → ¬ (T.ch s = true ∧ T.ky c s = T.ky c r))
theorem zNw_i {o : Nat → Nat} {m i : Nat} (h : zRis T c T.ch o m) (hi : i < m) : decide (i = 0 ∨ T.ky c (o i) ≠ T.ky c (o (i - 1))) = zNw T c (o i) := by
  unfold zNw
  refine decide_eq_decide.mpr ⟨fun hx s hs hy => ?_, fun hx => ?_⟩
  · obtain ⟨l1, l2, l3⟩ := h.lt hi
    obtain ⟨j, hj, ej⟩ := (h.2 s).mpr ⟨by omega, zKn_2 hy.1 (by rw [hy.2]; exact l3)⟩
    rcases Nat.lt_trichotomy i j with e | e | e
    · have := h.1 i j e hj
      rw [ej] at this
      unfold zLe at this
      rw [hy.2] at this
      omega
    · rw [← e] at ej; omega
    · rcases hx with hx | hx
      · omega
      · refine hx ((zl_i _ _).mpr ?_)
        have a1 := h.le (show j ≤ i - 1 by omega) (show i - 1 < m by omega)
        have a2 := h.le (show i - 1 ≤ i by omega) hi
        rw [ej, hy.2] at a1
        omega
  · by_cases h0 : i = 0
    · exact Or.inl h0
    · refine Or.inr fun e => ?_
      have := h.1 (i - 1) i (by omega) hi
      unfold zLe at this
      rw [e] at this
      exact hx (o (i - 1)) (by omega) ⟨(h.lt (show i - 1 < m by omega)).2.1, e.symm⟩
theorem zdiff_ct {o : Nat → Nat} {m : Nat} (h : zRis T c T.ch o m) : fb_ct (fun i => decide (i = 0 ∨ T.ky c (o i) ≠ T.ky c (o (i - 1)))) m = fb_ct (fun r => zKn T c T.ch r && zNw T c r) T.nr := by
  rw [← zEn_ct h.en (zNw T c)]
  exact fb_ct_cong fun i hi => zNw_i h hi
/-- how many are less than the middle one, how many at most -/
theorem zmid_lt {o : Nat → Nat} {m : Nat} (h : zRis T c T.ch o m) (h0 : 0 < m) : fb_ct (fun r => zKn T c T.ch r && decide (T.ky c r < T.ky c (o ((m - 1) / 2)))) T.nr ≤ (m - 1) / 2 := by
  rw [← zEn_ct h.en (fun r => decide (T.ky c r < T.ky c (o ((m - 1) / 2))))]
  refine zct_lt fun i hi hp => ?_
  have hp := of_decide_eq_true hp
  rw [zl_t] at hp
  rcases Nat.lt_or_ge i ((m - 1) / 2) with e | e
  · exact e
  · have := h.le e hi
    omega
theorem zmid_le {o : Nat → Nat} {m : Nat} (h : zRis T c T.ch o m) (h0 : 0 < m) : (m - 1) / 2 < fb_ct (fun r => zKn T c T.ch r && decide (T.ky c r < T.ky c (o ((m - 1) / 2)))) T.nr + fb_ct (fun r => zKn T c T.ch r && decide (T.ky c r = T.ky c (o ((m - 1) / 2)))) T.nr := by
  rw [← zEn_ct h.en (fun r => decide (T.ky c r < T.ky c (o ((m - 1) / 2)))), ← zEn_ct h.en (fun r => decide (T.ky c r = T.ky c (o ((m - 1) / 2)))), ← fb_ct_or]
  · refine zct_ge (k := (m - 1) / 2 + 1) (by omega) fun i hi => ?_
    have := h.le (show i ≤ (m - 1) / 2 by omega) (show (m - 1) / 2 < m by omega)
    rw [Bool.or_eq_true, decide_eq_true_iff, decide_eq_true_iff, zl_t, zl_i]
    omega
  · rintro i _ ⟨a, b⟩
    have a := of_decide_eq_true a
    have b := of_decide_eq_true b
    rw [zl_t] at a
    rw [zl_i] at b
    omega
end ZTD

/-! ===== least values, first and last rows: step by step ===== -/
section ZLT
variable {T : zT} {c : Nat} {P P' Q : Nat → Bool} {x y l : Int64}
theorem zE_ne {kd : Nat} {k : Int64} (h : zokK kd k) (hn : k ≠ -9000000000) : ztd kd k ≠ -3000000002 := by
  have v := ztd_V h hn
  intro e
  rw [e] at v
  have e0 : ((-3000000002 : Int64)).toInt = -3000000002 := by decide +kernel
  rcases v with ⟨_, a, _⟩ | ⟨_, m, w, h0, h7, hw, e⟩
  · rw [e0] at a; omega
  · have e1 := congrArg Int64.toInt e
    have h56 := zwd_56 h7 hw
    rw [e0, zN_t (by omega)] at e1
    omega
def zLeast (T : zT) (c : Nat) (P : Nat → Bool) (x : Int64) : Prop := ((∀ r, r < T.nr → zKn T c P r = false) ∧ x = -3000000002) ∨ ∃ r, r < T.nr ∧ zKn T c P r = true ∧ x = zVl T r c ∧ ∀ r', r' < T.nr → zKn T c P r' = true → (T.ky c r).toInt ≤ (T.ky c r').toInt
theorem zKn_1 {r : Nat} (h : zKn T c P r = true) : P r = true ∧ T.ky c r ≠ -9000000000 := by
  obtain ⟨a, b⟩ := Bool.and_eq_true_iff.mp h
  exact ⟨a, of_decide_eq_true b⟩
theorem zKn_2 {r : Nat} (h : P r = true) (h2 : T.ky c r ≠ -9000000000) : zKn T c P r = true := Bool.and_eq_true_iff.mpr ⟨h, decide_eq_true h2⟩
theorem zLeast_one (a : zLeast T c P x) (b : zLeast T c P y) : x = y := by
  rcases a with ⟨a1, a2⟩ | ⟨r, a1, a2, a3, a4⟩
  · rcases b with ⟨b1, b2⟩ | ⟨s, b1, b2, b3, b4⟩
    · rw [a2, b2]
    · rw [a1 s b1] at b2; cases b2
  · rcases b with ⟨b1, b2⟩ | ⟨s, b1, b2, b3, b4⟩
    · rw [b1 r a1] at a2; cases a2
    · have h1 := a4 s b1 b2
      have h2 := b4 r a1 a2
      have e : T.ky c r = T.ky c s := (zl_i _ _).mpr (by omega)
      rw [a3, b3]
      unfold zVl
      rw [e]
theorem zKn_c {r : Nat} (h : P r = P' r) : zKn T c P r = zKn T c P' r := by
  unfold zKn
  rw [h]
theorem zLeast_c (h : ∀ r, r < T.nr → P r = P' r) (a : zLeast T c P x) : zLeast T c P' x := by
  rcases a with ⟨a1, a2⟩ | ⟨r, a1, a2, a3, a4⟩
  · exact Or.inl ⟨fun r hr => by rw [← zKn_c (h r hr)]; exact a1 r hr, a2⟩
  · exact Or.inr ⟨r, a1, by rw [← zKn_c (h r a1)]; exact a2, a3, fun r' h1 h2 => a4 r' h1 (by rw [zKn_c (h r' h1)]; exact h2)⟩
theorem zLeast_0 (h : ∀ r, r < T.nr → P r = false) : zLeast T c P (-3000000002) := Or.inl ⟨fun r hr => by
  unfold zKn
  rw [h r hr, Bool.false_and], rfl⟩
/-- of two sets together -/
theorem zLeast_o1 (a : zLeast T c P l) (b : zLeast T c Q (-3000000002)) (wT : zWF T) (hc : c < T.nc) : zLeast T c (fun r => P r || Q r) l := by
  have hq : ∀ r, r < T.nr → zKn T c Q r = false := by
    rcases b with ⟨b1, _⟩ | ⟨s, b1, b2, b3, b4⟩
    · exact b1
    · exact absurd b3.symm (zE_ne (wT.k hc b1) (zKn_1 b2).2)
  have e : ∀ r, r < T.nr → zKn T c (fun r => P r || Q r) r = zKn T c P r := fun r hr => by
    have := hq r hr
    unfold zKn at this ⊢
    show ((P r || Q r) && _) = _
    rw [Bool.and_or_distrib_right, this, Bool.or_false]
  rcases a with ⟨a1, a2⟩ | ⟨r, a1, a2, a3, a4⟩
  · exact Or.inl ⟨fun r hr => by rw [e r hr]; exact a1 r hr, a2⟩
  · exact Or.inr ⟨r, a1, by rw [e r a1]; exact a2, a3, fun r' h1 h2 => a4 r' h1 (by rw [← e r' h1]; exact h2)⟩
theorem zLeast_o2 (a : zLeast T c P (-3000000002)) (b : zLeast T c Q x) (wT : zWF T) (hc : c < T.nc) : zLeast T c (fun r => P r || Q r) x := zLeast_c (fun r _ => Bool.or_comm _ _) (zLeast_o1 b a wT hc)
theorem zKn_or {r : Nat} : zKn T c (fun r => P r || Q r) r = (zKn T c P r || zKn T c Q r) := Bool.and_or_distrib_right _ _ _
/-- both have one: the rows -/
theorem zLeast_r (a : zLeast T c P l) (hl : l ≠ -3000000002) : ∃ r, r < T.nr ∧ zKn T c P r = true ∧ l = zVl T r c ∧ ∀ r', r' < T.nr → zKn T c P r' = true → (T.ky c r).toInt ≤ (T.ky c r').toInt := by
  rcases a with ⟨_, a2⟩ | a
  · exact absurd a2 hl
  · exact a
theorem zLeast_lt {r s : Nat} (hr : r < T.nr) (kr : zKn T c P r = true) (lr : ∀ r', r' < T.nr → zKn T c P r' = true → (T.ky c r).toInt ≤ (T.ky c r').toInt) (ls : ∀ r', r' < T.nr → zKn T c Q r' = true → (T.ky c s).toInt ≤ (T.ky c r').toInt) (h : (T.ky c r).toInt ≤ (T.ky c s).toInt) : zLeast T c (fun r => P r || Q r) (zVl T r c) := by
  refine Or.inr ⟨r, hr, by rw [zKn_or, kr, Bool.true_or], rfl, fun r' h1 h2 => ?_⟩
  rw [zKn_or, Bool.or_eq_true] at h2
  rcases h2 with h2 | h2
  · exact lr r' h1 h2
  · have := ls r' h1 h2; omega
theorem zLeast_rise {o : Nat → Nat} {m : Nat} (h : zRis T c P o m) : zLeast T c P (if m = 0 then -3000000002 else zVl T (o 0) c) := by
  by_cases hm : m = 0
  · rw [if_pos hm]
    refine Or.inl ⟨fun r hr => ts_nt fun x => ?_, rfl⟩
    obtain ⟨a, ha, _⟩ := (h.2 r).mpr ⟨hr, x⟩
    omega
  · rw [if_neg hm]
    obtain ⟨h1, h2⟩ := (h.2 (o 0)).mp ⟨0, by omega, rfl⟩
    refine Or.inr ⟨o 0, h1, h2, rfl, fun r' hr' kr' => ?_⟩
    obtain ⟨a, ha, ea⟩ := (h.2 r').mpr ⟨hr', kr'⟩
    by_cases a0 : a = 0
    · rw [← ea, a0]; omega
    · have := h.1 0 a (by omega) ha
      rw [ea] at this
      unfold zLe at this
      omega
/-! first and last -/
variable {g : Nat → Bool} {n : Nat} {o : Nat → Nat} {u : Int32}
theorem zn1_ne {i : Nat} (h : i < 1000) : nI i ≠ (-1 : Int32) := zn_m1 h
theorem zFst_0 : zFst g 0 o (-1) := Or.inr ⟨fun j hj => absurd hj (Nat.not_lt_zero _), rfl⟩
theorem zLst_0 : zLst g 0 o (-1) := Or.inr ⟨fun j hj => absurd hj (Nat.not_lt_zero _), rfl⟩
theorem zFst_f (h : zFst g n o u) (e : g n = false) : zFst g (n + 1) o u := by
  rcases h with ⟨i, h1, h2, h3, h4⟩ | ⟨h1, h2⟩
  · exact Or.inl ⟨i, by omega, h2, h3, h4⟩
  · refine Or.inr ⟨fun j hj => ?_, h2⟩
    rcases Nat.lt_or_ge j n with c | c
    · exact h1 j c
    · rw [show j = n by omega]; exact e
theorem zFst_n (h : zFst g n o u) (e : g n = true) (hb : ∀ i, i < n → o i < 1000) (hu : u = -1) : zFst g (n + 1) o (nI (o n)) := by
  rcases h with ⟨i, h1, h2, h3, h4⟩ | ⟨h1, h2⟩
  · exact absurd (h4.symm.trans hu) (zn1_ne (hb i h1))
  · exact Or.inl ⟨n, by omega, e, h1, rfl⟩
theorem zFst_k (h : zFst g n o u) (hu : u ≠ -1) : zFst g (n + 1) o u := by
  rcases h with ⟨i, h1, h2, h3, h4⟩ | ⟨h1, h2⟩
  · exact Or.inl ⟨i, by omega, h2, h3, h4⟩
  · exact absurd h2 hu
theorem zLst_f (h : zLst g n o u) (e : g n = false) : zLst g (n + 1) o u := by
  rcases h with ⟨i, h1, h2, h3, h4⟩ | ⟨h1, h2⟩
  · refine Or.inl ⟨i, by omega, h2, fun j a b => ?_, h4⟩
    rcases Nat.lt_or_ge j n with c | c
    · exact h3 j a c
    · rw [show j = n by omega]; exact e
  · refine Or.inr ⟨fun j hj => ?_, h2⟩
    rcases Nat.lt_or_ge j n with c | c
    · exact h1 j c
    · rw [show j = n by omega]; exact e
theorem zLst_n (e : g n = true) : zLst g (n + 1) o (nI (o n)) := Or.inl ⟨n, by omega, e, fun j a b => by omega, rfl⟩
end ZLT
/-! ===== least values asked for ===== -/
section ZLA2
variable {h : zx_H} {now : Nat} {ver : Nat → Nat → zT} {tx : List Nat} {pr : Nat × (Nat → Nat) × (Nat → Int32)} {gr : zT × Nat × Nat × (Nat → Int64) × (Nat → Nat → Bool)} {t c : Nat}
theorem z16 : zEx 16 := Or.inr (Or.inr (Or.inr rfl))
theorem zask_least (w : zWd h now ver tx pr gr) (ht : t < 3) (hc : c < (ver now t).nc) (hB : zM h ≤ 7000000) : ∃ g x, f_ColumnVaultLaw_asks 1 12 (nI t) (nI c) 2 h = some (x, g) ∧ zLeast (ver now t) c (ver now t).ch x ∧ zG 72 0 0 h g := by
  obtain ⟨g, o, m, h1, h2, G, e⟩ := (w.T ht).total2 (w.F ht) hc (ver now t).ch (x := 2) (Or.inl rfl) (by omega)
  have hl := zLeast_rise h1
  by_cases hm : m = 0
  · rw [if_pos hm] at e hl
    exact ⟨g, -3000000002, zask12E (c := 2) w.is z16 (w.totalE ht hc _ e), hl, G⟩
  · rw [if_neg hm] at e hl
    exact ⟨g, _, zask12 (c := 2) w.is (w.totalE ht hc _ e), hl, G⟩
theorem zask_leastG {T : zT} {b m a : Nat} {G : Nat → Int64} (w : zWd h now ver tx pr (zgr T b m G)) (ha : a < m) (hc : c < T.nc) (hB : zM h ≤ 7000000) : ∃ g x, f_ColumnVaultLaw_asks 1 19 (nI a) (nI c) 2 h = some (x, g) ∧ zLeast T c (zMb T b T.nr (G a)) x ∧ zG 72 0 0 h g := by
  obtain ⟨-, S, F, -⟩ := w.grs
  obtain ⟨g, o, m', h1, h2, G1, e⟩ := S.total2 F hc (zMb T b T.nr (G a)) (x := 2) (Or.inl rfl) (by omega)
  have hl := zLeast_rise h1
  by_cases hm : m' = 0
  · rw [if_pos hm] at e hl
    exact ⟨g, -3000000002, zask19E (c := 2) w.is z16 (w.groupTotalE ha hc _ e), hl, G1⟩
  · rw [if_neg hm] at e hl
    exact ⟨g, _, zask19 (c := 2) w.is (w.groupTotalE ha hc _ e), hl, G1⟩
end ZLA2

/-! ===== what is parsed from tokens of a known shape ===== -/
section ZPG
variable {T : zT} {L : List (Nat × Nat × Int64)}
def zat (L : List (Nat × Nat × Int64)) (p : Nat) (ts : List (Nat × Int64)) : Prop := ∀ i, i < ts.length → zfo L (p + i) = (ts.getD i (0, 0)).1 ∧ zvu L (p + i) = (ts.getD i (0, 0)).2
theorem zat_l {p : Nat} {ts ts' : List (Nat × Int64)} (h : zat L p (ts ++ ts')) : zat L p ts := fun i hi => by
  have := h i (by rw [List.length_append]; omega)
  rw [zgdA1 ts ts' i hi] at this
  exact this
theorem zat_r {p : Nat} {ts ts' : List (Nat × Int64)} (h : zat L p (ts ++ ts')) : zat L (p + ts.length) ts' := fun i hi => by
  have := h (ts.length + i) (by rw [List.length_append]; omega)
  rw [zgdA2 ts ts' i, ← Nat.add_assoc] at this
  exact this
theorem zat_0 {p : Nat} {a : Nat × Int64} {ts : List (Nat × Int64)} (h : zat L p (a :: ts)) : zfo L p = a.1 ∧ zvu L p = a.2 := h 0 (Nat.succ_pos _)
theorem zat_t {p : Nat} {a : Nat × Int64} {ts : List (Nat × Int64)} (h : zat L p (a :: ts)) : zat L (p + 1) ts := fun i hi => by
  have := h (i + 1) (Nat.succ_lt_succ hi)
  rw [show p + 1 + i = p + (i + 1) by omega]
  exact this
/-- the sets agree on the rows there are -/
def zag (T : zT) (S S' : Nat → Bool) : Prop := ∀ r, r < T.nr → S' r = S r
def zfol (c : Nat) : Prop := c = 124 ∨ c = 38 ∨ c = 41 ∨ c = 0
def zCo (T : zT) (e c : Nat) (ts : List (Nat × Int64)) (S : Nat → Bool) (k : Nat) : Prop := 1 ≤ k ∧ (∃ a tl, ts = a :: tl ∧ a.1 ≠ 33) ∧ ∀ (L : List (Nat × Nat × Int64)) (p o n : Nat), e ≤ n → o + e ≤ 6 → zat L p ts → zfol (zfo L (p + ts.length)) → ∃ w S', zpp0 L T (zpF L T n) o p = (w, .inl (p + ts.length, S', k)) ∧ zag T S S' ∧ w ≤ c * k
def zPi (T : zT) (e c : Nat) (ts : List (Nat × Int64)) (S : Nat → Bool) (k : Nat) : Prop := 1 ≤ k ∧ ∀ (L : List (Nat × Nat × Int64)) (p o n : Nat), e ≤ n → o + e ≤ 6 → zat L p ts → zfol (zfo L (p + ts.length)) → ∃ w S', zpp L T (zpF L T n) o p = (w, .inl (p + ts.length, S', k)) ∧ zag T S S' ∧ w ≤ c * k
def zPt (T : zT) (e c : Nat) (ts : List (Nat × Int64)) (S : Nat → Bool) (k : Nat) : Prop := 1 ≤ k ∧ ∀ (L : List (Nat × Nat × Int64)) (p o n : Nat), e ≤ n → o + e ≤ 6 → zat L p ts → (zfo L (p + ts.length) = 124 ∨ zfo L (p + ts.length) = 41 ∨ zfo L (p + ts.length) = 0) → ∃ w S', zpart1 L T (zpF L T n) o p = (w, .inl (p + ts.length, S', k)) ∧ zag T S S' ∧ w ≤ c * k
def zFi (T : zT) (e c : Nat) (ts : List (Nat × Int64)) (S : Nat → Bool) (k : Nat) : Prop := 1 ≤ k ∧ ∀ (L : List (Nat × Nat × Int64)) (p o n : Nat), e ≤ n → o + e ≤ 6 → zat L p ts → (zfo L (p + ts.length) = 41 ∨ zfo L (p + ts.length) = 0) → ∃ w S', zpfilt L T (zpF L T n) o p = (w, .inl (p + ts.length, S', k)) ∧ zag T S S' ∧ w ≤ c * k
variable {e e' c c' k k' : Nat} {ts ts' : List (Nat × Int64)} {S S' : Nat → Bool}
theorem zCo.w (x : zCo T e c ts S k) (he : e ≤ e') (hc : c ≤ c') : zCo T e' c' ts S k := ⟨x.1, x.2.1, fun L p o n h1 h2 h3 h4 => by
  obtain ⟨w, S', a, b, d⟩ := x.2.2 L p o n (by omega) (by omega) h3 h4
  exact ⟨w, S', a, b, Nat.le_trans d (Nat.mul_le_mul_right k hc)⟩⟩
theorem zPi.w (x : zPi T e c ts S k) (he : e ≤ e') (hc : c ≤ c') : zPi T e' c' ts S k := ⟨x.1, fun L p o n h1 h2 h3 h4 => by
  obtain ⟨w, S', a, b, d⟩ := x.2 L p o n (by omega) (by omega) h3 h4
  exact ⟨w, S', a, b, Nat.le_trans d (Nat.mul_le_mul_right k hc)⟩⟩
theorem zPt.w (x : zPt T e c ts S k) (he : e ≤ e') (hc : c ≤ c') : zPt T e' c' ts S k := ⟨x.1, fun L p o n h1 h2 h3 h4 => by
  obtain ⟨w, S', a, b, d⟩ := x.2 L p o n (by omega) (by omega) h3 h4
  exact ⟨w, S', a, b, Nat.le_trans d (Nat.mul_le_mul_right k hc)⟩⟩
/-- signs before -/
theorem zbg_rep : ∀ (j n p : Nat) (ts : List (Nat × Int64)) (a : Nat × Int64) (tl : List (Nat × Int64)), ts = a :: tl → a.1 ≠ 33 → j ≤ n → zat L p (List.replicate j (33, -1) ++ ts) → zbg L n p = j
  | 0, n, p, ts, a, tl, e, ha, _, h => by
    subst e
    have h0 := (zat_0 h).1
    cases n with
    | zero => rfl
    | succ n =>
      show (if zfo L p = 33 then _ else 0) = 0
      rw [if_neg (by rw [h0]; exact ha)]
  | j + 1, n, p, ts, a, tl, e, ha, hj, h => by
    obtain ⟨n, rfl⟩ : ∃ m, n = m + 1 := ⟨n - 1, by omega⟩
    have h : zat L p ((33, -1) :: (List.replicate j (33, -1) ++ ts)) := h
    have h0 := (zat_0 h).1
    show (if zfo L p = 33 then zbg L n (p + 1) + 1 else 0) = j + 1
    rw [if_pos h0, zbg_rep j n (p + 1) ts a tl e ha (by omega) (zat_t h)]
theorem zCo.piece (x : zCo T e c ts S k) {j : Nat} (hj : j ≤ 3) : zPi T e c (List.replicate j (33, -1) ++ ts) (zflip j S) k := by
  obtain ⟨h1, ⟨a, tl, ea, ha⟩, hx⟩ := x
  refine ⟨h1, fun L p o n he ho ht hf => ?_⟩
  have hlen : (List.replicate j ((33 : Nat), (-1 : Int64)) ++ ts).length = j + ts.length := by rw [List.length_append, List.length_replicate]
  rw [hlen, ← Nat.add_assoc] at hf
  have ht2 := zat_r ht
  rw [List.length_replicate] at ht2
  obtain ⟨w, S', r1, r2, r3⟩ := hx L (p + j) o n he ho ht2 hf
  refine ⟨w, zflip j S', ?_, fun r hr => ?_, r3⟩
  · unfold zpp
    rw [zbg_rep j 3 p ts a tl ea ha hj ht, r1, hlen, ← Nat.add_assoc]
    rfl
  · unfold zflip
    rw [r2 r hr]
/-- a part of one piece -/
theorem zPi.part (x : zPi T e c ts S k) : zPt T e (c + 1) ts S k := by
  refine ⟨x.1, fun L p o n he ho ht hf => ?_⟩
  obtain ⟨w, S', r1, r2, r3⟩ := x.2 L p o n he ho ht (by unfold zfol; omega)
  refine ⟨1 + (w + 0), (fun r => and true (S' r)), ?_, fun r hr => ?_, ?_⟩
  · unfold zpart1
    show zrw 1 (zrb (zpp L T (zpF L T n) o p) _) = _
    rw [r1]
    show zrw 1 (zrw w (if zfo L (p + ts.length) = 38 then _ else (0, .inl (p + ts.length, _, 0 + k)))) = _
    rw [if_neg (by omega), Nat.zero_add]
    rfl
  · show (true && S' r) = S r
    rw [Bool.true_and, r2 r hr]
  · rw [Nat.add_mul, Nat.one_mul]
    have := x.1
    omega
/-- a part of two pieces -/
theorem zPi.part2 (x : zPi T e c ts S k) (y : zPi T e c ts' S' k') : zPt T e (c + 1) (ts ++ (38, -1) :: ts') (fun r => S r && S' r) (k + k') := by
  refine ⟨by have := x.1; omega, fun L p o n he ho ht hf => ?_⟩
  have hlen : (ts ++ ((38 : Nat), (-1 : Int64)) :: ts').length = ts.length + (ts'.length + 1) := List.length_append
  have ht1 := zat_l ht
  have ht2 := zat_r ht
  have h38 : zfo L (p + ts.length) = 38 := (zat_0 ht2).1
  have ht3 := zat_t ht2
  have e9 : p + (ts.length + (ts'.length + 1)) = p + ts.length + 1 + ts'.length := by omega
  rw [hlen, e9] at hf
  obtain ⟨w, S1, r1, r2, r3⟩ := x.2 L p o n he ho ht1 (by unfold zfol; omega)
  obtain ⟨w', S2, q1, q2, q3⟩ := y.2 L (p + ts.length + 1) o n he ho ht3 (by unfold zfol; omega)
  refine ⟨1 + (w + (w' + 0)), (fun r => and (and true (S1 r)) (S2 r)), ?_, fun r hr => ?_, ?_⟩
  · unfold zpart1
    show zrw 1 (zrb (zpp L T (zpF L T n) o p) _) = _
    rw [r1]
    show zrw 1 (zrw w (if zfo L (p + ts.length) = 38 then zpl1 L (zpp L T (zpF L T n) o) 38 and (158 + 1) (p + ts.length + 1) (fun r => and true (S1 r)) (0 + k) else _)) = _
    rw [if_pos h38]
    show zrw 1 (zrw w (zrb (zpp L T (zpF L T n) o (p + ts.length + 1)) _)) = _
    rw [q1]
    show zrw 1 (zrw w (zrw w' (if zfo L (p + ts.length + 1 + ts'.length) = 38 then _ else (0, .inl (p + ts.length + 1 + ts'.length, _, 0 + k + k'))))) = _
    rw [if_neg (by omega), Nat.zero_add, hlen, e9]
    rfl
  · show ((true && S1 r) && S2 r) = (S r && S' r)
    rw [Bool.true_and, r2 r hr, q2 r hr]
  · rw [Nat.add_mul, Nat.one_mul, Nat.mul_add]
    have := x.1
    omega
/-- a filter of one part -/
theorem zPt.filt (x : zPt T e c ts S k) : zFi T e (c + 1) ts S k := by
  refine ⟨x.1, fun L p o n he ho ht hf => ?_⟩
  obtain ⟨w, S', r1, r2, r3⟩ := x.2 L p o n he ho ht (by omega)
  refine ⟨1 + (w + 0), (fun r => or false (S' r)), ?_, fun r hr => ?_, ?_⟩
  · unfold zpfilt
    show zrw 1 (zrb (zpart1 L T (zpF L T n) o p) _) = _
    rw [r1]
    show zrw 1 (zrw w (if zfo L (p + ts.length) = 124 then _ else (0, .inl (p + ts.length, _, 0 + k)))) = _
    rw [if_neg (by omega), Nat.zero_add]
    rfl
  · show (false || S' r) = S r
    rw [Bool.false_or, r2 r hr]
  · rw [Nat.add_mul, Nat.one_mul]
    have := x.1
    omega
theorem zPt.filt2 (x : zPt T e c ts S k) (y : zPt T e c ts' S' k') : zFi T e (c + 1) (ts ++ (124, -1) :: ts') (fun r => S r || S' r) (k + k') := by
  refine ⟨by have := x.1; omega, fun L p o n he ho ht hf => ?_⟩
  have hlen : (ts ++ ((124 : Nat), (-1 : Int64)) :: ts').length = ts.length + (ts'.length + 1) := List.length_append
  have ht1 := zat_l ht
  have ht2 := zat_r ht
  have h124 : zfo L (p + ts.length) = 124 := (zat_0 ht2).1
  have ht3 := zat_t ht2
  have e9 : p + (ts.length + (ts'.length + 1)) = p + ts.length + 1 + ts'.length := by omega
  rw [hlen, e9] at hf
  obtain ⟨w, S1, r1, r2, r3⟩ := x.2 L p o n he ho ht1 (Or.inl h124)
  obtain ⟨w', S2, q1, q2, q3⟩ := y.2 L (p + ts.length + 1) o n he ho ht3 (by omega)
  refine ⟨1 + (w + (w' + 0)), (fun r => or (or false (S1 r)) (S2 r)), ?_, fun r hr => ?_, ?_⟩
  · unfold zpfilt
    show zrw 1 (zrb (zpart1 L T (zpF L T n) o p) _) = _
    rw [r1]
    show zrw 1 (zrw w (if zfo L (p + ts.length) = 124 then zpl1 L (zpart1 L T (zpF L T n) o) 124 or (158 + 1) (p + ts.length + 1) (fun r => or false (S1 r)) (0 + k) else _)) = _
    rw [if_pos h124]
    show zrw 1 (zrw w (zrb (zpart1 L T (zpF L T n) o (p + ts.length + 1)) _)) = _
    rw [q1]
    show zrw 1 (zrw w (zrw w' (if zfo L (p + ts.length + 1 + ts'.length) = 124 then _ else (0, .inl (p + ts.length + 1 + ts'.length, _, 0 + k + k'))))) = _
    rw [if_neg (by omega), Nat.zero_add, hlen, e9]
    rfl
  · show ((false || S1 r) || S2 r) = (S r || S' r)
    rw [Bool.false_or, r2 r hr, q2 r hr]
  · rw [Nat.add_mul, Nat.one_mul, Nat.mul_add]
    have := x.1
    omega
/-- a filter in brackets -/
theorem zFi.core (x : zFi T e c ts S k) : zCo T (e + 1) c ((40, -1) :: (ts ++ [(41, -1)])) S k := by
  refine ⟨x.1, ⟨_, _, rfl, by decide⟩, fun L p o n he ho ht hf => ?_⟩
  obtain ⟨n, rfl⟩ : ∃ m, n = m + 1 := ⟨n - 1, by omega⟩
  have h40 : zfo L p = 40 := (zat_0 ht).1
  have ht1 := zat_l (zat_t ht)
  have h41 : zfo L (p + 1 + ts.length) = 41 := (zat_0 (zat_r (zat_t ht))).1
  obtain ⟨w, S', r1, r2, r3⟩ := x.2 L (p + 1) (o + 1) n (by omega) (by omega) ht1 (Or.inl h41)
  have hlen : (((40 : Nat), (-1 : Int64)) :: (ts ++ [((41 : Nat), (-1 : Int64))])).length = ts.length + 1 + 1 := by
    show (ts ++ [((41 : Nat), (-1 : Int64))]).length + 1 = _
    rw [List.length_append]
    rfl
  refine ⟨w, S', ?_, r2, r3⟩
  unfold zpp0 zpb
  rw [h40, if_neg (by decide), if_neg (by decide), if_pos rfl, if_neg (by omega)]
  show zrb (zpfilt L T (zpF L T n) (o + 1) (p + 1)) _ = _
  rw [r1]
  show (if zfo L (p + 1 + ts.length) = 41 then (w, (Sum.inl (p + 1 + ts.length + 1, S', k) : (Nat × (Nat → Bool) × Nat) ⊕ (Nat × Int32))) else _) = _
  rw [if_pos h41, hlen, show p + (ts.length + 1 + 1) = p + 1 + ts.length + 1 by omega]
/-- all of it -/
theorem zFi.whole (x : zFi T e c ts S k) (he : e ≤ 6) (hat : zat L 0 ts) (hend : zfo L ts.length = 0) : ∃ w p' S', zpW L T = (w, .inl (p', S', k)) ∧ zag T S S' ∧ w ≤ c * k := by
  obtain ⟨w, S', r1, r2, r3⟩ := x.2 L 0 0 19 (by omega) (by omega) hat (Or.inr (by rw [Nat.zero_add]; exact hend))
  refine ⟨w, 0 + ts.length, S', ?_, r2, r3⟩
  unfold zpW
  show zrb (zpfilt L T (zpF L T 19) 0 0) _ = _
  rw [r1]
  show (if zfo L (0 + ts.length) = 0 then (w, (Sum.inl (0 + ts.length, S', k) : (Nat × (Nat → Bool) × Nat) ⊕ (Nat × Int32))) else _) = _
  rw [if_pos (by rw [Nat.zero_add]; exact hend)]
/-! a test -/
theorem zpvs_ok {a kd need : Nat} (hkd : kd ≤ 1) : ∀ (vs : List Int64) (n p : Nat) (ks : List Int64), n + ks.length = 7 → ks.length + vs.length ≤ 6 → (∀ v ∈ vs, v ≠ -9000000000) → zat L p (vs.map fun v => (if kd = 1 then 97 else 48, v)) → (a = 105 ∧ need ≤ ks.length + vs.length ∨ a ≠ 105 ∧ need = ks.length + vs.length) → zfol (zfo L (p + vs.length)) → zpvs L a kd need n ks p = .inl (ks ++ vs.map (zkv kd), p + vs.length)
  | [], n, p, ks, hn, hl, _, _, hd, hf => by
    have hf : zfol (zfo L p) := hf
    have hd : a = 105 ∧ need ≤ ks.length ∨ a ≠ 105 ∧ need = ks.length := hd
    have hl : ks.length ≤ 6 := hl
    obtain ⟨n, rfl⟩ : ∃ m, n = m + 1 := ⟨n - 1, by omega⟩
    unfold zpvs
    rw [if_neg (by unfold zfol at hf; omega)]
    show Sum.inl (ks, p) = Sum.inl (ks ++ [], p + 0)
    rw [List.append_nil]
    rfl
  | v :: vs, n, p, ks, hn, hl, hm, ht, hd, hf => by
    have hl : ks.length + (vs.length + 1) ≤ 6 := hl
    have hd : a = 105 ∧ need ≤ ks.length + (vs.length + 1) ∨ a ≠ 105 ∧ need = ks.length + (vs.length + 1) := hd
    have hf : zfol (zfo L (p + (vs.length + 1))) := hf
    obtain ⟨n, rfl⟩ : ∃ m, n = m + 1 := ⟨n - 1, by omega⟩
    have h0 := zat_0 ht
    have h01 : zfo L p = if kd = 1 then 97 else 48 := h0.1
    have h02 : zvu L p = v := h0.2
    have hv := hm v (List.mem_cons_self ..)
    have hcase : zfo L p = 97 ∧ kd = 1 ∨ zfo L p = 48 ∧ kd = 0 := by
      by_cases e : kd = 1
      · rw [if_pos e] at h01; exact Or.inl ⟨h01, e⟩
      · rw [if_neg e] at h01; exact Or.inr ⟨h01, by omega⟩
    have hz : zpv1 L kd ks p = .inl (ks ++ [zkv kd v]) := by
      unfold zpv1
      rw [if_neg (by omega), h02, if_neg (fun x => x.elim hv (fun y => by omega)), if_neg (by omega)]
    have hlen : (ks ++ [zkv kd v]).length = ks.length + 1 := List.length_append
    unfold zpvs
    rw [if_pos (by omega), hz]
    show zpvs L a kd need n (ks ++ [zkv kd v]) (p + 1) = _
    rw [zpvs_ok hkd vs n (p + 1) (ks ++ [zkv kd v]) (by omega) (by omega) (fun x hx => hm x (List.mem_cons_of_mem _ hx)) (zat_t ht) (by omega) (by rw [show p + 1 + vs.length = p + (vs.length + 1) by omega]; exact hf)]
    rw [List.append_assoc, show p + 1 + vs.length = p + (vs.length + 1) by omega]
    rfl
def zopt (a : Nat) : Nat × Int64 := if a = 116 then (97, 29807) else if a = 105 then (97, 26990) else if a = 109 then (97, 30796717039906407) else (a, -1)
theorem zCo_test (w : zWF T) {col a : Nat} (hc : col < T.nc) (ha : a = 60 ∨ a = 62 ∨ a = 61 ∨ a = 116 ∨ a = 105 ∨ a = 109) {vs : List Int64} (hv : ∀ v ∈ vs, v ≠ -9000000000) (hl : a = 105 ∧ 1 ≤ vs.length ∧ vs.length ≤ 6 ∨ a ≠ 105 ∧ vs.length = zneed a) : zCo T 0 1 ((35, lN col) :: zopt a :: (vs.map fun v => (if T.kd col = 1 then 97 else 48, v))) (zrt T col a (vs.map (zkv (T.kd col)))) 1 := by
  have h4 := w.c4
  refine ⟨Nat.le_refl _, ⟨_, _, rfl, by show ¬ (35 : Nat) = 33; decide⟩, fun L p o n _ _ ht hf => ?_⟩
  have h0 := zat_0 ht
  have h1 := zat_0 (zat_t ht)
  have h2 := zat_t (zat_t ht)
  have hlen : ((35, lN col) :: zopt a :: (vs.map fun v => ((if T.kd col = 1 then 97 else 48, v) : Nat × Int64))).length = vs.length + 1 + 1 := by
    show (vs.map _).length + 1 + 1 = _
    rw [List.length_map]
  rw [hlen, show p + (vs.length + 1 + 1) = p + 2 + vs.length by omega] at hf
  have hcol : (zvu L p).toInt.toNat = col := by
    rw [h0.2, zN_t (by show col < 2 ^ 63; omega)]
    rfl
  have hne : ¬ zvu L p = -1 := by
    rw [h0.2]
    intro x
    have := congrArg Int64.toInt x
    rw [zN_t (by omega), show ((-1 : Int64)).toInt = -1 by decide] at this
    omega
  have hask : zask L (p + 1) = a := by
    unfold zask
    rcases ha with rfl | rfl | rfl | rfl | rfl | rfl
    · have hx : zfo L (p + 1) = 60 := h1.1
      rw [if_pos (Or.inl hx), hx]
    · have hx : zfo L (p + 1) = 62 := h1.1
      rw [if_pos (Or.inr (Or.inl hx)), hx]
    · have hx : zfo L (p + 1) = 61 := h1.1
      rw [if_pos (Or.inr (Or.inr hx)), hx]
    · have hx : zfo L (p + 1) = 97 := h1.1
      have hy : zvu L (p + 1) = 29807 := h1.2
      rw [if_neg (by omega), if_pos hx, if_pos hy]
    · have hx : zfo L (p + 1) = 97 := h1.1
      have hy : zvu L (p + 1) = 26990 := h1.2
      rw [if_neg (by omega), if_pos hx, hy, if_neg (by decide), if_pos rfl]
    · have hx : zfo L (p + 1) = 97 := h1.1
      have hy : zvu L (p + 1) = 30796717039906407 := h1.2
      rw [if_neg (by omega), if_pos hx, hy, if_neg (by decide), if_neg (by decide), if_pos rfl]
  have ha0 : ¬ a = 0 := by omega
  have hneed : zneed a ≤ 2 ∧ (a = 105 → zneed a = 1) := by
    unfold zneed
    rcases ha with rfl | rfl | rfl | rfl | rfl | rfl <;> decide
  have hz := zpvs_ok (L := L) (a := a) (need := zneed a) (w.k1 hc) vs 7 (p + 2) [] rfl (by show 0 + vs.length ≤ 6; omega) hv h2 (by show a = 105 ∧ zneed a ≤ 0 + vs.length ∨ a ≠ 105 ∧ zneed a = 0 + vs.length; omega) hf
  refine ⟨1, zrt T col a (vs.map (zkv (T.kd col))), ?_, fun _ _ => rfl, Nat.le_refl _⟩
  unfold zpp0 zpt
  have h35 : zfo L p = 35 := h0.1
  rw [h35, if_neg (by decide), if_pos rfl, if_neg hne, hcol, if_neg (by omega), hask, if_neg ha0, hz, hlen, show p + (vs.length + 1 + 1) = p + 2 + vs.length by omega]
  rfl
end ZPG

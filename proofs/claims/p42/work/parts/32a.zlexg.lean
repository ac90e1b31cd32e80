/-! ===== what is lexed from texts of a known shape ===== -/
section ZLG
/-- the letters s are read as the tokens ts, if what stands behind is no letter and no digit -/
def zLx (s : List Nat) (ts : List (Nat × Int64)) : Prop := ∀ (b : Nat → Nat) (len n p : Nat), (∀ j, j < s.length → b (p + j) = s.getD j 0) → p + s.length ≤ len → len ≤ 160 → zlr (b (p + s.length)) = false → zdg (b (p + s.length)) = false → len - p < n → ∃ (m : Nat) (pre : List (Nat × Nat × Int64)), len - (p + s.length) < m ∧ zlx b len n p = pre ++ zlx b len m (p + s.length) ∧ pre.map (fun t => (t.1, t.2.2)) = ts
theorem zLx_nil : zLx [] [] := fun b len n p _ _ _ _ _ hn => ⟨n, [], hn, rfl, rfl⟩
def zhd (s : List Nat) : Prop := s = [] ∨ ∃ c s2, s = c :: s2 ∧ zlr c = false ∧ zdg c = false
theorem zLx_app {s s' : List Nat} {ts ts' : List (Nat × Int64)} (a : zLx s ts) (a' : zLx s' ts') (hs : zhd s') : zLx (s ++ s') (ts ++ ts') := by
  intro b len n p hb hl h160 h1 h2 hn
  have hlen : (s ++ s').length = s.length + s'.length := List.length_append
  rw [hlen] at hl h1 h2 hb
  have bs : ∀ j, j < s.length → b (p + j) = s.getD j 0 := fun j hj => by rw [hb j (by omega), zgdA1 s s' j hj]
  have bs' : ∀ j, j < s'.length → b (p + s.length + j) = s'.getD j 0 := fun j hj => by rw [Nat.add_assoc, hb (s.length + j) (by omega), zgdA2 s s' j]
  have e9 : p + (s.length + s'.length) = p + s.length + s'.length := by omega
  rw [e9] at h1 h2
  have bd : zlr (b (p + s.length)) = false ∧ zdg (b (p + s.length)) = false := by
    rcases hs with e | ⟨c, s2, e, c1, c2⟩
    · subst e
      exact ⟨h1, h2⟩
    · have := bs' 0 (by rw [e]; exact Nat.succ_pos _)
      rw [e, Nat.add_zero] at this
      rw [this]
      exact ⟨c1, c2⟩
  obtain ⟨m, pre, x1, x2, x3⟩ := a b len n p bs (by omega) h160 bd.1 bd.2 hn
  obtain ⟨m', pre', y1, y2, y3⟩ := a' b len m (p + s.length) bs' (by omega) h160 h1 h2 x1
  refine ⟨m', pre ++ pre', by rw [hlen, e9]; exact y1, ?_, by rw [List.map_append, x3, y3]⟩
  rw [hlen, e9, x2, y2, List.append_assoc]
theorem zlx_tok {b : Nat → Nat} {len n p : Nat} (hp : p < len) (hn : len - p < n) (h32 : b p ≠ 32) {t : Nat × Nat × Int64} {p' : Nat} (e : zlt1 b p = (t, p')) (hp' : p < p') : ∃ m pre, len - p' < m ∧ zlx b len n p = pre ++ zlx b len m p' ∧ pre.map (fun t => (t.1, t.2.2)) = [(t.1, t.2.2)] := by
  obtain ⟨n, rfl⟩ : ∃ j, n = j + 1 := ⟨n - 1, by omega⟩
  refine ⟨n, [t], by omega, ?_, rfl⟩
  show (if len ≤ p then _ else if b p = 32 then _ else _) = _
  rw [if_neg (by omega), if_neg h32, e]
  rfl
theorem zLx_sp : zLx [32] [] := by
  intro b len n p hb hl _ _ _ hn
  have hl : p + 1 ≤ len := hl
  obtain ⟨n, rfl⟩ : ∃ j, n = j + 1 := ⟨n - 1, by omega⟩
  refine ⟨n, [], by show len - (p + 1) < n; omega, ?_, rfl⟩
  have h0 : b p = 32 := hb 0 (by decide)
  show (if len ≤ p then _ else if b p = 32 then _ else _) = _
  rw [if_neg (by omega), if_pos h0]
  rfl
theorem zLx_sg {c : Nat} (hc : zsgn c = true) : zLx [c] [(c, -1)] := by
  intro b len n p hb hl _ _ _ hn
  have hl : p + 1 ≤ len := hl
  have h0 : b p = c := hb 0 (by show 0 < 1; decide)
  have h32 : b p ≠ 32 := fun x => by
    rw [h0] at x
    rw [x] at hc
    exact absurd hc (by decide)
  exact zlx_tok (t := (c, p, -1)) (p' := p + 1) (by omega) hn h32 (by
    unfold zlt1
    rw [h0, if_pos hc]) (by omega)
theorem zLx_col {d : Nat} (h1 : 48 ≤ d) (h2 : d ≤ 57) : zLx [35, d] [(35, lN (d - 48))] := by
  intro b len n p hb hl _ _ _ hn
  have hl : p + 2 ≤ len := hl
  have h0 : b p = 35 := hb 0 (by show 0 < 2; decide)
  have h1' : b (p + 1) = d := hb 1 (by show 1 < 2; decide)
  have hd : zdg d = true := decide_eq_true ⟨h1, h2⟩
  exact zlx_tok (t := (35, p, lN (d - 48))) (p' := p + 2) (by omega) hn (by rw [h0]; decide) (by
    unfold zlt1
    rw [h0, if_neg (by decide), if_pos rfl, h1', if_pos hd, show (48 : Int32) = nI 48 from rfl, pk_sub h1, nI_l (by omega)]) (by omega)
/-! words -/
def zwl : List Nat → Nat → Nat
  | [], v => v
  | c :: s, v => zwl s (v * 256 + c)
theorem zor8 {v c : Nat} (hv : v < 2 ^ 48) (hc : c < 256) : (lN v <<< (((8 : Int32)).toInt64 &&& 63)) ||| (nI c).toInt64 = lN (v * 256 + c) := by
  have e1 : lN v <<< (((8 : Int32)).toInt64 &&& 63) = lN (v * 2 ^ 8) := zN_shl 8 (by omega) (by decide)
  rw [e1, nI_l (by omega)]
  apply uN_inj
  have e2 : uN (lN (v * 2 ^ 8) ||| lN c) = uN (lN (v * 2 ^ 8)) ||| uN (lN c) := UInt64.toNat_or _ _
  rw [e2, zN_u (by omega), zN_u (by omega), zN_u (by omega), ← Nat.shiftLeft_eq, ← Nat.shiftLeft_add_eq_or_of_lt (by omega), Nat.shiftLeft_eq]
theorem zlw_w {b : Nat → Nat} : ∀ (w : List Nat) (n p v k : Nat), (∀ j, j < w.length → b (p + j) = w.getD j 0) → (∀ c ∈ w, zlr c = true) → zlr (b (p + w.length)) = false → w.length < n → v < 256 ^ k → k + w.length ≤ 7 → zlw b n p (lN v) = (p + w.length, lN (zwl w v))
  | [], n, p, v, k, _, _, hb, hn, _, _ => by
    obtain ⟨n, rfl⟩ : ∃ j, n = j + 1 := ⟨n - 1, by have hn : 0 < n := hn; omega⟩
    have hb : zlr (b p) = false := hb
    show (if zlr (b p) = true then _ else _) = _
    rw [if_neg (by rw [hb]; decide)]
    rfl
  | c :: w, n, p, v, k, hj, hc, hb, hn, hv, hk => by
    have hn : w.length + 1 < n := hn
    have hk : k + (w.length + 1) ≤ 7 := hk
    obtain ⟨n, rfl⟩ : ∃ j, n = j + 1 := ⟨n - 1, by omega⟩
    have h0 : b p = c := hj 0 (Nat.succ_pos _)
    have hcc := hc c (List.mem_cons_self ..)
    have hc2 : 97 ≤ c ∧ c ≤ 122 := of_decide_eq_true hcc
    have hp6 : 256 ^ k ≤ 256 ^ 6 := Nat.pow_le_pow_right (by decide) (by omega)
    have h48 : v < 2 ^ 48 := Nat.lt_of_lt_of_le hv hp6
    show (if zlr (b p) = true then zlw b n (p + 1) ((lN v <<< (((8 : Int32)).toInt64 &&& 63)) ||| (nI (b p)).toInt64) else _) = _
    rw [h0, if_pos hcc, zor8 h48 (by omega)]
    have hb : zlr (b (p + (w.length + 1))) = false := hb
    have key := zlw_w w n (p + 1) (v * 256 + c) (k + 1) (fun j hj' => by
      have := hj (j + 1) (Nat.succ_lt_succ hj')
      rw [show p + 1 + j = p + (j + 1) by omega]
      exact this) (fun x hx => hc x (List.mem_cons_of_mem _ hx)) (by
      rw [show p + 1 + w.length = p + (w.length + 1) by omega]
      exact hb) (by omega) (by
      have h1 : (v + 1) * 256 ≤ 256 ^ k * 256 := Nat.mul_le_mul_right 256 hv
      rw [Nat.pow_succ]
      omega) (by omega)
    rw [key]
    show (p + 1 + w.length, lN (zwl w (v * 256 + c))) = (p + (w.length + 1), lN (zwl w (v * 256 + c)))
    rw [show p + 1 + w.length = p + (w.length + 1) by omega]
theorem zLx_word {w : List Nat} (hw : ∀ c ∈ w, zlr c = true) (h0 : w ≠ []) (h7 : w.length ≤ 7) : zLx w [(97, lN (zwl w 0))] := by
  intro b len n p hb hl _ b1 _ hn
  obtain ⟨c, w', rfl⟩ : ∃ c w', w = c :: w' := by
    cases w with
    | nil => exact absurd rfl h0
    | cons c w' => exact ⟨c, w', rfl⟩
  have hl' : p + (w'.length + 1) ≤ len := hl
  have e0 : b p = c := hb 0 (Nat.succ_pos _)
  have hcc := hw c (List.mem_cons_self ..)
  have hc2 : 97 ≤ c ∧ c ≤ 122 := of_decide_eq_true hcc
  have key : zlw b 200 p 0 = (p + (c :: w').length, lN (zwl (c :: w') 0)) := zlw_w (c :: w') 200 p 0 0 hb hw b1 (by omega) (by decide) (by omega)
  have hsg : ¬ zsgn c = true := by
    intro x
    unfold zsgn at x
    simp at x
    omega
  refine zlx_tok (t := (97, p, lN (zwl (c :: w') 0))) (p' := p + (c :: w').length) (by omega) hn (by rw [e0]; omega) ?_ (by show p < p + (w'.length + 1); omega)
  unfold zlt1
  rw [e0, if_neg hsg, if_neg (show ¬ c = 35 by omega), if_pos hcc, key]
  show ((97, p, if p + (c :: w').length - p ≤ 7 then lN (zwl (c :: w') 0) else -9000000000), _) = _
  rw [if_pos (by rw [Nat.add_sub_cancel_left]; exact h7)]
/-! numbers -/
def zdn : List Nat → Nat → Nat
  | [], v => v
  | c :: s, v => zdn s (min (v * 10 + (c - 48)) 1000001)
theorem zdig1 {v c : Nat} (hv : v ≤ 1000001) (h1 : 48 ≤ c) (h2 : c ≤ 57) : (if (1000001 : Int64) < (((lN v * (10 : Int64)) + (nI c).toInt64) - (48 : Int64)) then (1000001 : Int64) else (((lN v * (10 : Int64)) + (nI c).toInt64) - (48 : Int64))) = lN (min (v * 10 + (c - 48)) 1000001) := by
  have e : ((lN v * (10 : Int64)) + (nI c).toInt64) - (48 : Int64) = lN (v * 10 + (c - 48)) := by
    apply uN_inj
    have a1 : uN (lN v * 10) = v * 10 := by
      rw [uN_mul, zN_u (by omega), show uN (10 : Int64) = 10 by decide]
      omega
    have a2 : uN (lN v * 10 + (nI c).toInt64) = v * 10 + c := by
      rw [uN_add, a1, nI_l (by omega), zN_u (by omega)]
      omega
    have a3 : uN (48 : Int64) = 48 := by decide
    rw [uN_sub (by rw [a2, a3]; omega), a2, a3, zN_u (by omega)]
    omega
  rw [e, show (1000001 : Int64) = lN 1000001 from rfl]
  by_cases h : 1000001 < v * 10 + (c - 48)
  · rw [if_pos ((zN_l (by decide) (by omega)).mpr h), Nat.min_eq_right (by omega)]
  · rw [if_neg (fun x => h ((zN_l (by decide) (by omega)).mp x)), Nat.min_eq_left (by omega)]
theorem zln_d {b : Nat → Nat} : ∀ (w : List Nat) (n p v : Nat), (∀ j, j < w.length → b (p + j) = w.getD j 0) → (∀ c ∈ w, zdg c = true) → zdg (b (p + w.length)) = false → w.length < n → v ≤ 1000001 → zln b n p (lN v) = (p + w.length, lN (zdn w v)) ∧ zdn w v ≤ 1000001
  | [], n, p, v, _, _, hb, hn, hv => by
    obtain ⟨n, rfl⟩ : ∃ j, n = j + 1 := ⟨n - 1, by have hn : 0 < n := hn; omega⟩
    have hb : zdg (b p) = false := hb
    refine ⟨?_, hv⟩
    show (if zdg (b p) = true then _ else _) = _
    rw [if_neg (by rw [hb]; decide)]
    rfl
  | c :: w, n, p, v, hj, hc, hb, hn, hv => by
    have hn : w.length + 1 < n := hn
    obtain ⟨n, rfl⟩ : ∃ j, n = j + 1 := ⟨n - 1, by omega⟩
    have h0 : b p = c := hj 0 (Nat.succ_pos _)
    have hcc := hc c (List.mem_cons_self ..)
    have hc2 : 48 ≤ c ∧ c ≤ 57 := of_decide_eq_true hcc
    have hb : zdg (b (p + (w.length + 1))) = false := hb
    obtain ⟨key, hle⟩ := zln_d w n (p + 1) (min (v * 10 + (c - 48)) 1000001) (fun j hj' => by
      have := hj (j + 1) (Nat.succ_lt_succ hj')
      rw [show p + 1 + j = p + (j + 1) by omega]
      exact this) (fun x hx => hc x (List.mem_cons_of_mem _ hx)) (by
      rw [show p + 1 + w.length = p + (w.length + 1) by omega]
      exact hb) (by omega) (Nat.min_le_right _ _)
    refine ⟨?_, hle⟩
    show (if zdg (b p) = true then zln b n (p + 1) (if (1000001 : Int64) < (((lN v * (10 : Int64)) + (nI (b p)).toInt64) - (48 : Int64)) then (1000001 : Int64) else (((lN v * (10 : Int64)) + (nI (b p)).toInt64) - (48 : Int64))) else _) = _
    rw [h0, if_pos hcc, zdig1 hv hc2.1 hc2.2, key]
    show (p + 1 + w.length, _) = (p + (w.length + 1), _)
    rw [show p + 1 + w.length = p + (w.length + 1) by omega]
    rfl
theorem zLx_num {w : List Nat} (hw : ∀ c ∈ w, zdg c = true) (h0 : w ≠ []) : zLx w [(48, zlv false (lN (zdn w 0)))] := by
  intro b len n p hb hl h160 _ b2 hn
  obtain ⟨c, w', rfl⟩ : ∃ c w', w = c :: w' := by
    cases w with
    | nil => exact absurd rfl h0
    | cons c w' => exact ⟨c, w', rfl⟩
  have hl' : p + (w'.length + 1) ≤ len := hl
  have e0 : b p = c := hb 0 (Nat.succ_pos _)
  have hcc := hw c (List.mem_cons_self ..)
  have hc2 : 48 ≤ c ∧ c ≤ 57 := of_decide_eq_true hcc
  have key : zln b 200 p 0 = (p + (c :: w').length, lN (zdn (c :: w') 0)) := (zln_d (c :: w') 200 p 0 hb hw b2 (by show w'.length + 1 < 200; omega) (by decide)).1
  have hsg : ¬ zsgn c = true := by
    intro x
    unfold zsgn at x
    simp at x
    omega
  have hlr : ¬ zlr c = true := fun x => by
    have x : 97 ≤ c ∧ c ≤ 122 := of_decide_eq_true x
    omega
  refine zlx_tok (t := (48, p, zlv false (lN (zdn (c :: w') 0)))) (p' := p + (c :: w').length) (by omega) hn (by rw [e0]; omega) ?_ (by show p < p + (w'.length + 1); omega)
  unfold zlt1
  rw [e0, if_neg hsg, if_neg (show ¬ c = 35 by omega), if_neg hlr, if_pos hcc, key]
theorem zLx_neg {w : List Nat} (hw : ∀ c ∈ w, zdg c = true) (h0 : w ≠ []) : zLx (45 :: w) [(48, zlv true (lN (zdn w 0)))] := by
  intro b len n p hb hl h160 _ b2 hn
  have hl' : p + (w.length + 1) ≤ len := hl
  have e0 : b p = 45 := hb 0 (Nat.succ_pos _)
  have hb1 : ∀ j, j < w.length → b (p + 1 + j) = w.getD j 0 := fun j hj => by
    have := hb (j + 1) (Nat.succ_lt_succ hj)
    rw [show p + 1 + j = p + (j + 1) by omega]
    exact this
  have b2 : zdg (b (p + (w.length + 1))) = false := b2
  have key : zln b 200 (p + 1) 0 = (p + 1 + w.length, lN (zdn w 0)) := (zln_d w 200 (p + 1) 0 hb1 hw (by rw [show p + 1 + w.length = p + (w.length + 1) by omega]; exact b2) (by omega) (by decide)).1
  have hd1 : zdg (b (p + 1)) = true := by
    cases w with
    | nil => exact absurd rfl h0
    | cons c w' =>
      have := hb1 0 (Nat.succ_pos _)
      rw [Nat.add_zero] at this
      rw [this]
      exact hw c (List.mem_cons_self ..)
  refine zlx_tok (t := (48, p, zlv true (lN (zdn w 0)))) (p' := p + (45 :: w).length) (by omega) hn (by rw [e0]; decide) ?_ (by show p < p + (w.length + 1); omega)
  unfold zlt1
  rw [e0, if_neg (by decide), if_neg (by decide), if_neg (by decide), if_neg (by decide), if_pos ⟨rfl, hd1⟩, key]
  show (_, p + 1 + w.length) = (_, p + (w.length + 1))
  rw [show p + 1 + w.length = p + (w.length + 1) by omega]
end ZLG

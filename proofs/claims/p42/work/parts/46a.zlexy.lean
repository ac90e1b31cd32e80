/-! ===== what is lexed, whatever stands behind ===== -/
section ZLY
variable {s s' : List Nat} {ts ts' : List (Nat × Int64)}
def zLy (s : List Nat) (ts : List (Nat × Int64)) : Prop := ∀ (b : Nat → Nat) (len n p : Nat), (∀ j, j < s.length → b (p + j) = s.getD j 0) → p + s.length ≤ len → len - p < n → ∃ (m : Nat) (pre : List (Nat × Nat × Int64)), len - (p + s.length) < m ∧ zlx b len n p = pre ++ zlx b len m (p + s.length) ∧ pre.map (fun t => (t.1, t.2.2)) = ts
theorem zLy.x (a : zLy s ts) : zLx s ts := fun b len n p hb hl _ _ _ hn => a b len n p hb hl hn
theorem zLy_nil : zLy [] [] := fun b len n p _ _ hn => ⟨n, [], hn, rfl, rfl⟩
theorem zLy_sp : zLy [32] [] := by
  intro b len n p hb hl hn
  have hl : p + 1 ≤ len := hl
  obtain ⟨n, rfl⟩ : ∃ j, n = j + 1 := ⟨n - 1, by omega⟩
  refine ⟨n, [], by show len - (p + 1) < n; omega, ?_, rfl⟩
  have h0 : b p = 32 := hb 0 (by decide)
  show (if len ≤ p then _ else if b p = 32 then _ else _) = _
  rw [if_neg (by omega), if_pos h0]
  rfl
theorem zLy_sg {c : Nat} (hc : zsgn c = true) : zLy [c] [(c, -1)] := by
  intro b len n p hb hl hn
  have hl : p + 1 ≤ len := hl
  have h0 : b p = c := hb 0 (by show 0 < 1; decide)
  have h32 : b p ≠ 32 := fun x => by
    rw [h0] at x
    rw [x] at hc
    exact absurd hc (by decide)
  exact zlx_tok (t := (c, p, -1)) (p' := p + 1) (by omega) hn h32 (by
    unfold zlt1
    rw [h0, if_pos hc]) (by omega)
theorem zLy_col {d : Nat} (h1 : 48 ≤ d) (h2 : d ≤ 57) : zLy [35, d] [(35, lN (d - 48))] := by
  intro b len n p hb hl hn
  have hl : p + 2 ≤ len := hl
  have h0 : b p = 35 := hb 0 (by show 0 < 2; decide)
  have h1' : b (p + 1) = d := hb 1 (by show 1 < 2; decide)
  have hd : zdg d = true := decide_eq_true ⟨h1, h2⟩
  exact zlx_tok (t := (35, p, lN (d - 48))) (p' := p + 2) (by omega) hn (by rw [h0]; decide) (by
    unfold zlt1
    rw [h0, if_neg (by decide), if_pos rfl, h1', if_pos hd, show (48 : Int32) = nI 48 from rfl, pk_sub h1, nI_l (by omega)]) (by omega)
theorem zLyx (a : zLy s ts) (a' : zLx s' ts') : zLx (s ++ s') (ts ++ ts') := by
  intro b len n p hb hl h160 h1 h2 hn
  have hlen : (s ++ s').length = s.length + s'.length := List.length_append
  rw [hlen] at hl h1 h2 hb
  have bs : ∀ j, j < s.length → b (p + j) = s.getD j 0 := fun j hj => by rw [hb j (by omega), zgdA1 s s' j hj]
  have bs' : ∀ j, j < s'.length → b (p + s.length + j) = s'.getD j 0 := fun j hj => by rw [Nat.add_assoc, hb (s.length + j) (by omega), zgdA2 s s' j]
  have e9 : p + (s.length + s'.length) = p + s.length + s'.length := by omega
  rw [e9] at h1 h2
  obtain ⟨m, pre, x1, x2, x3⟩ := a b len n p bs (by omega) hn
  obtain ⟨m', pre', y1, y2, y3⟩ := a' b len m (p + s.length) bs' (by omega) h160 h1 h2 x1
  refine ⟨m', pre ++ pre', by rw [hlen, e9]; exact y1, ?_, by rw [List.map_append, x3, y3]⟩
  rw [hlen, e9, x2, y2, List.append_assoc]
theorem zLyy (a : zLy s ts) (a' : zLy s' ts') : zLy (s ++ s') (ts ++ ts') := by
  intro b len n p hb hl hn
  have hlen : (s ++ s').length = s.length + s'.length := List.length_append
  rw [hlen] at hl hb
  have bs : ∀ j, j < s.length → b (p + j) = s.getD j 0 := fun j hj => by rw [hb j (by omega), zgdA1 s s' j hj]
  have bs' : ∀ j, j < s'.length → b (p + s.length + j) = s'.getD j 0 := fun j hj => by rw [Nat.add_assoc, hb (s.length + j) (by omega), zgdA2 s s' j]
  have e9 : p + (s.length + s'.length) = p + s.length + s'.length := by omega
  obtain ⟨m, pre, x1, x2, x3⟩ := a b len n p bs (by omega) hn
  obtain ⟨m', pre', y1, y2, y3⟩ := a' b len m (p + s.length) bs' (by omega) x1
  refine ⟨m', pre ++ pre', by rw [hlen, e9]; exact y1, ?_, by rw [List.map_append, x3, y3]⟩
  rw [hlen, e9, x2, y2, List.append_assoc]
/-! the text of a value -/
theorem zwl_app : ∀ (s : List Nat) (c v : Nat), zwl (s ++ [c]) v = zwl s v * 256 + c
  | [], _, _ => rfl
  | x :: s, c, v => zwl_app s c (v * 256 + x)
theorem zwl_ltr : ∀ {m v : Nat}, zwd m v → zwl (zltr m v) 0 = v
  | 0, v, h => h.symm
  | m + 1, v, h => by
    show zwl (zltr m (v / 256) ++ [v % 256]) 0 = v
    rw [zwl_app, zwl_ltr h.2]
    omega
/-- s is the text of the value v of a column of kind kd -/
def zVs (kd : Nat) (v : Int64) (s : List Nat) : Prop := zLx s [(if kd = 1 then 97 else 48, v)] ∧ s.length ≤ 9 ∧ (∀ c ∈ s, c < 128) ∧ ∀ c ∈ s, 1 ≤ c
theorem zVs_word {m v : Nat} (h : zwd m v) (h1 : 1 ≤ m) (h7 : m ≤ 7) : zVs 1 (lN v) (zltr m v) := by
  have hl := zltr_len m v
  have hc := zltr_c h
  refine ⟨?_, by omega, fun c x => by have := hc c x; omega, fun c x => by have := hc c x; omega⟩
  have := zLx_word (w := zltr m v) (fun c x => decide_eq_true (hc c x)) (fun x => by rw [x] at hl; exact absurd hl (by show ¬ 0 = m; omega)) (by omega)
  rw [zwl_ltr h] at this
  exact this
theorem zVs_num {n : Nat} {neg : Bool} {ds : List Nat} (hd : ∀ c ∈ ds, 48 ≤ c ∧ c ≤ 57) (h0 : ds ≠ []) (hv : zvf ds 0 = n) (hn : n ≤ 1000000) (h8 : ds.length ≤ 8) : zVs 0 (if neg = true then -lN n else lN n) (znum neg ds) := by
  have hz : ∀ c ∈ ds, zdg c = true := fun c x => decide_eq_true (hd c x)
  have e := zlv_num (neg := neg) hv hn
  refine ⟨?_, ?_, fun c x => ?_, fun c x => ?_⟩
  · rw [← e]
    cases neg with
    | true => exact zLx_neg hz h0
    | false => exact zLx_num hz h0
  · rw [znum_len]
    unfold zbn1
    by_cases c : neg = true
    · rw [if_pos c]; omega
    · rw [if_neg c]; omega
  · unfold znum at x
    by_cases y : neg = true
    · rw [if_pos y] at x
      rcases List.mem_cons.mp x with x | x
      · omega
      · have := hd c x; omega
    · rw [if_neg y] at x
      have := hd c x; omega
  · unfold znum at x
    by_cases y : neg = true
    · rw [if_pos y] at x
      rcases List.mem_cons.mp x with x | x
      · omega
      · have := hd c x; omega
    · rw [if_neg y] at x
      have := hd c x; omega
end ZLY

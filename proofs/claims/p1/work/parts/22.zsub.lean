/-! ===== names filled in: every step of the evaluator goes through ===== -/
section ZYS
variable (len : Nat) (s : Nat → Int32)
def zs_i (x : Int32) : Int32 := match zy_c x with
  | some k => zy_d len s k
  | none => x
def zs_l (x : Int64) : Int64 := match zy_cL x with
  | some k => zy_dL len s k
  | none => x
def zs_v : Value → Value
  | .int x => .int (zs_i len s x)
  | .long x => .long (zs_l len s x)
  | v => v
def zs_a : vp_A → vp_A
  | (n, .inl f) => (n, .inl (fun j => zs_i len s (f j)))
  | (n, .inr (.inl f)) => (n, .inr (.inl (fun j => zs_l len s (f j))))
  | a => a
def zs_e : zx_E → zx_E
  | .inl (t, a) => .inl (t, zs_a len s a)
  | .inr (c, fs) => .inr (c, fs.map (zs_v len s))
abbrev zs_h (h : zx_H) : zx_H := h.map (zs_e len s)
abbrev zs_lv (lv : List (Nat × Value)) : List (Nat × Value) := lv.map (fun q => (q.1, zs_v len s q.2))
abbrev zs_st (st : List Value) : List Value := st.map (zs_v len s)
def zs_f (f : zx_F) : zx_F := (f.1, zs_lv len s f.2.1, zs_st len s f.2.2)
def zs_o : zx_O → zx_O
  | .inl v => .inl (v.map (zs_v len s))
  | .inr E => .inr E
/-- what is known holds -/
def zs_B (bx : zy_B) : Prop := ∀ e ∈ bx, if e.1 < 64 then e.2.1 ≤ (zy_d len s e.1).toInt ∧ (zy_d len s e.1).toInt ≤ e.2.2 else (zy_d len s (e.1 - 64)).toInt ≠ e.2.1
variable {len s}
theorem zs_vi (x : Int32) : zs_v len s (.int x) = .int (zs_i len s x) := rfl
theorem zs_vl (x : Int64) : zs_v len s (.long x) = .long (zs_l len s x) := rfl
theorem zs_vr (q : Nat) : zs_v len s (.ref q) = .ref q := rfl
theorem zs_vn : zs_v len s .null = .null := rfl
theorem zs_vd (x : UInt64) : zs_v len s (.double x) = .double x := rfl
theorem zs_cat (v : Value) : (zs_v len s v).category = v.category := by cases v <;> rfl
theorem zs_cats (st : List Value) : ((zs_st len s st).map fun v => v.category) = st.map fun v => v.category := by simp [zs_st, zs_cat, Function.comp_def]
theorem zs_i_u {x : Int32} (h : (zy_c x).isNone = true) : zs_i len s x = x := by
  unfold zs_i
  split
  · next k hk => rw [hk] at h; cases h
  · rfl
theorem zs_i_n {x : Int32} (h : zy_c x = none) : zs_i len s x = x := zs_i_u (by rw [h]; rfl)
theorem zs_l_u {x : Int64} (h : (zy_cL x).isNone = true) : zs_l len s x = x := by
  unfold zs_l
  split
  · next k hk => rw [hk] at h; cases h
  · rfl
theorem zs_l_n {x : Int64} (h : zy_cL x = none) : zs_l len s x = x := zs_l_u (by rw [h]; rfl)
theorem zs_u {v : Value} (h : zy_u v = true) : zs_v len s v = v := by
  cases v <;> first | rfl | (simp only [zy_u] at h; simp only [zs_v, zs_i_u h]) | (simp only [zy_u] at h; simp only [zs_v, zs_l_u h])
theorem zs_i_c {x : Int32} {k : Nat} (h : zy_c x = some k) : zs_i len s x = zy_d len s k := by unfold zs_i; rw [h]
theorem zs_l_c {x : Int64} {k : Nat} (h : zy_cL x = some k) : zs_l len s x = zy_dL len s k := by unfold zs_l; rw [h]
theorem zs_c_lt {x : Int32} {k : Nat} (h : zy_c x = some k) : k < 64 := by
  unfold zy_c at h
  dsimp only at h
  split at h
  · next h9 => have h8 := Option.some.inj h; omega
  · cases h
/-- the smaller half of the values -/
theorem zs_nar {v : Value} : (∃ x, v = .int x ∧ zs_v len s v = .int (zs_i len s x)) ∨ (∃ x, v = .long x ∧ zs_v len s v = .long (zs_l len s x)) ∨ zs_v len s v = v := by
  cases v <;> first | exact Or.inl ⟨_, rfl, rfl⟩ | exact Or.inr (Or.inl ⟨_, rfl, rfl⟩) | exact Or.inr (Or.inr rfl)
theorem zs_lk (i : Nat) (lv : List (Nat × Value)) : zx_lk i (zs_lv len s lv) = (zx_lk i lv).map (zs_v len s) := by
  induction lv with
  | nil => rfl
  | cons q r ih =>
    obtain ⟨j, v⟩ := q
    simp only [zs_lv, List.map_cons, zx_lk]
    by_cases h : j = i
    · simp [h]
    · simp only [h, if_false]; exact ih
theorem zs_s1 (i : Nat) (v : Value) (lv : List (Nat × Value)) : zx_s1 i (zs_v len s v) (zs_lv len s lv) = zs_lv len s (zx_s1 i v lv) := by
  simp [zx_s1, zs_lv, List.filter_map, Function.comp_def, zs_cat]
theorem zs_s2 (i : Nat) (v : Value) (lv : List (Nat × Value)) : zx_s2 i (zs_v len s v) (zs_lv len s lv) = zs_lv len s (zx_s2 i v lv) := by
  simp [zx_s2, zs_lv, List.filter_map, Function.comp_def, zs_cat]
theorem zs_br {b : Bool} {pc : Nat} {off : Int} {lv : List (Nat × Value)} {st : List Value} {f : zx_F} (h : zx_br b pc off lv st = some f) : zx_br b pc off (zs_lv len s lv) (zs_st len s st) = some (zs_f len s f) := by
  unfold zx_br at h ⊢
  split at h
  · split at h
    · next hb => cases h; rw [if_pos hb]; rfl
    · next hb => cases h; rw [if_neg hb]; rfl
  · cases h
theorem zs_ld {ty i n pc : Nat} {lv : List (Nat × Value)} {st : List Value} {f : zx_F} (h : zx_ld ty i n pc lv st = some f) : zx_ld ty i n pc (zs_lv len s lv) (zs_st len s st) = some (zs_f len s f) := by
  unfold zx_ld at h ⊢
  rw [zs_lk]
  split at h
  all_goals first
    | (next x hx => rw [hx]; simp only [Option.map_some, zs_v]; split at h <;> (cases h; try (simp only [*, if_true]; rfl)))
    | (next hx => rw [hx]; simp only [Option.map_some, zs_v]; split at h <;> (cases h; try (simp only [*, if_true]; rfl)))
    | (cases h; done)
theorem zs_sv {ty nL i n pc : Nat} {lv : List (Nat × Value)} {st : List Value} {f : zx_F} (h : zx_sv ty nL i n pc lv st = some f) : zx_sv ty nL i n pc (zs_lv len s lv) (zs_st len s st) = some (zs_f len s f) := by
  unfold zx_sv at h
  split at h
  all_goals first
    | (split at h
       · next hc =>
         cases h
         simp only [zx_sv, List.map_cons, zs_v, hc, and_self, if_true, zs_f]
         first
           | (rw [← zs_s1]; rfl)
           | (rw [← zs_s2]; rfl)
       · cases h)
    | (cases h; done)
end ZYS

/-! ===== what a function answers: zW x Q says that x answers, and Q of the answer and the heap behind it ===== -/
def zW {α : Type} (x : Option (α × zx_H)) (Q : α → zx_H → Prop) : Prop := ∃ a g, x = some (a, g) ∧ Q a g
theorem zW_s {α : Type} {a : α} {h : zx_H} {Q : α → zx_H → Prop} (q : Q a h) : zW (some (a, h)) Q := ⟨a, h, rfl, q⟩
theorem zW_e {α : Type} {x : Option (α × zx_H)} {a : α} {h : zx_H} {Q : α → zx_H → Prop} (e : x = some (a, h)) (q : Q a h) : zW x Q := ⟨a, h, e, q⟩
theorem zW_m {α : Type} {x : Option (α × zx_H)} {Q R : α → zx_H → Prop} (hx : zW x Q) (hi : ∀ a h, Q a h → R a h) : zW x R := by
  obtain ⟨a, g, e, q⟩ := hx
  exact ⟨a, g, e, hi a g q⟩
theorem zW_b {α β : Type} {x : Option α} {f : α → Option (β × zx_H)} {Q : β → zx_H → Prop} {a : α} (hx : x = some a) (hf : zW (f a) Q) : zW (zf_b x f) Q := by
  subst hx; exact hf
theorem zW_b2 {α β : Type} {x : Option (α × zx_H)} {f : α → zx_H → Option (β × zx_H)} {Q : β → zx_H → Prop} (hx : zW x fun a g => zW (f a g) Q) : zW (zf_b2 x f) Q := by
  obtain ⟨a, g, e, q⟩ := hx
  subst e; exact q
theorem zW_b2e {α β : Type} {x : Option (α × zx_H)} {f : α → zx_H → Option (β × zx_H)} {Q : β → zx_H → Prop} {a : α} {g : zx_H} (e : x = some (a, g)) (q : zW (f a g) Q) : zW (zf_b2 x f) Q := by
  subst e; exact q
theorem zW_b3 {α β : Type} {x : Option ((α ⊕ Nat) × zx_H)} {f : α → zx_H → Option ((β ⊕ Nat) × zx_H)} {Q : β ⊕ Nat → zx_H → Prop} {a : α} {g : zx_H} (e : x = some (.inl a, g)) (q : zW (f a g) Q) : zW (zf_b3 x f) Q := by
  subst e; exact q
theorem zW_b3E {α β : Type} {x : Option ((α ⊕ Nat) × zx_H)} {f : α → zx_H → Option ((β ⊕ Nat) × zx_H)} {Q : β ⊕ Nat → zx_H → Prop} {E : Nat} {g : zx_H} (e : x = some (.inr E, g)) (q : Q (.inr E) g) : zW (zf_b3 x f) Q := by
  subst e; exact ⟨_, _, rfl, q⟩
theorem zW_b3w {α β : Type} {x : Option ((α ⊕ Nat) × zx_H)} {f : α → zx_H → Option ((β ⊕ Nat) × zx_H)} {Q : β ⊕ Nat → zx_H → Prop} (hx : zW x fun r g => match r with | .inl a => zW (f a g) Q | .inr E => Q (.inr E) g) : zW (zf_b3 x f) Q := by
  obtain ⟨r, g, e, q⟩ := hx
  cases r with
  | inl a => exact zW_b3 e q
  | inr E => exact zW_b3E e q
theorem zW_b4 {α β : Type} {x : Option ((α ⊕ Nat) × zx_H)} {f : α → zx_H → Option (β × zx_H)} {k : Nat → zx_H → Option (β × zx_H)} {Q : β → zx_H → Prop} {a : α} {g : zx_H} (e : x = some (.inl a, g)) (q : zW (f a g) Q) : zW (zf_b4 x f k) Q := by
  subst e; exact q
theorem zW_b4E {α β : Type} {x : Option ((α ⊕ Nat) × zx_H)} {f : α → zx_H → Option (β × zx_H)} {k : Nat → zx_H → Option (β × zx_H)} {Q : β → zx_H → Prop} {E : Nat} {g : zx_H} (e : x = some (.inr E, g)) (q : zW (k E g) Q) : zW (zf_b4 x f k) Q := by
  subst e; exact q
theorem zW_i {β : Type} {c : Prop} [Decidable c] {A B : Option (β × zx_H)} {Q : β → zx_H → Prop} (ha : c → zW A Q) (hb : ¬ c → zW B Q) : zW (if c then A else B) Q := by
  by_cases hc : c
  · rw [if_pos hc]; exact ha hc
  · rw [if_neg hc]; exact hb hc
theorem zW_t {β : Type} {c : Prop} [Decidable c] {A B : Option (β × zx_H)} {Q : β → zx_H → Prop} (hc : c) (ha : zW A Q) : zW (if c then A else B) Q := by
  rw [if_pos hc]; exact ha
theorem zW_f {β : Type} {c : Prop} [Decidable c] {A B : Option (β × zx_H)} {Q : β → zx_H → Prop} (hc : ¬ c) (hb : zW B Q) : zW (if c then A else B) Q := by
  rw [if_neg hc]; exact hb
/-! the same for an answer known ahead: equations -/
theorem ze_b {α β : Type} {x : Option α} {f : α → Option β} {a : α} (e : x = some a) : zf_b x f = f a := by subst e; rfl
theorem ze_b2 {α β : Type} {x : Option (α × zx_H)} {f : α → zx_H → Option β} {a : α} {g : zx_H} (e : x = some (a, g)) : zf_b2 x f = f a g := by subst e; rfl
/-! the heap -/
theorem zh_get {ci k q : Nat} {h : zx_H} {fs : List Value} (e : h[q]? = some (.inr (ci, fs))) : zf_get ci k q h = fs[k]? := by
  unfold zf_get; rw [e]; exact if_pos rfl
theorem zh_I {ci k q : Nat} {h : zx_H} {fs : List Value} {v : Int32} (e : h[q]? = some (.inr (ci, fs))) (ek : fs[k]? = some (.int v)) : zf_I ci k q h = some v := by
  unfold zf_I; rw [zh_get e, ek]; rfl
theorem zh_J {ci k q : Nat} {h : zx_H} {fs : List Value} {v : Int64} (e : h[q]? = some (.inr (ci, fs))) (ek : fs[k]? = some (.long v)) : zf_J ci k q h = some v := by
  unfold zf_J; rw [zh_get e, ek]; rfl
theorem zh_A {ci k q : Nat} {h : zx_H} {fs : List Value} {v : Nat} (e : h[q]? = some (.inr (ci, fs))) (ek : fs[k]? = some (.ref v)) : zf_A ci k q h = some v := by
  unfold zf_A; rw [zh_get e, ek]; rfl
theorem zh_put {ci k q : Nat} {h : zx_H} {fs : List Value} {v : Value} (e : h[q]? = some (.inr (ci, fs))) (hk : k < fs.length) : zf_put ci k q v h = some (h.set q (.inr (ci, fs.set k v))) := by
  unfold zf_put; rw [e]; exact if_pos ⟨rfl, hk⟩
theorem zh_is {ci q : Nat} {h : zx_H} {fs : List Value} (e : h[q]? = some (.inr (ci, fs))) : zf_is ci q h = some () := by
  unfold zf_is zx_kl; rw [e]; exact if_pos rfl
theorem zh_len {q t n : Nat} {h : zx_H} {c} (hq : q ≠ zx_lim) (e : h[q]? = some (.inl (t, n, c))) (ht : (zt_at[t]?).isSome) : zf_len q h = some (nI n) := by
  unfold zf_len; rw [if_neg hq, e]; exact if_pos ht
theorem zh_ldI {q n j : Nat} {h : zx_H} {f : Nat → Int32} (hq : q ≠ zx_lim) (e : h[q]? = some (.inl (1, n, .inl f))) (hj : j < n) (hn : n < 2 ^ 31) : zf_ldI q (nI j) h = some (f j) := by
  unfold zf_ldI; rw [if_neg hq, e]
  have h1 : zt_at[1]? = some .int ∧ zx_in (nI j) n := ⟨rfl, vp_in_nI hj hn⟩
  show (if _ then _ else _) = _
  rw [if_pos h1, nI_clamp (Nat.lt_trans hj hn)]
theorem zh_ldJ {q n j : Nat} {h : zx_H} {f : Nat → Int64} (e : h[q]? = some (.inl (2, n, .inr (.inl f)))) (hj : j < n) (hn : n < 2 ^ 31) : zf_ldJ q (nI j) h = some (f j) := by
  unfold zf_ldJ; rw [e]
  have h1 : zt_at[2]? = some .long ∧ zx_in (nI j) n := ⟨rfl, vp_in_nI hj hn⟩
  show (if _ then _ else _) = _
  rw [if_pos h1, nI_clamp (Nat.lt_trans hj hn)]
theorem zh_stI {q n j : Nat} {h : zx_H} {f : Nat → Int32} {x : Int32} (e : h[q]? = some (.inl (1, n, .inl f))) (hj : j < n) (hn : n < 2 ^ 31) : zf_stI q (nI j) x h = some (h.set q (.inl (1, n, .inl (upd f j x)))) := by
  unfold zf_stI; rw [e]
  have h1 : zt_at[1]? = some .int ∧ zx_in (nI j) n := ⟨rfl, vp_in_nI hj hn⟩
  show (if _ then _ else _) = _
  rw [if_pos h1, nI_clamp (Nat.lt_trans hj hn)]
theorem zh_stJ {q n j : Nat} {h : zx_H} {f : Nat → Int64} {x : Int64} (e : h[q]? = some (.inl (2, n, .inr (.inl f)))) (hj : j < n) (hn : n < 2 ^ 31) : zf_stJ q (nI j) x h = some (h.set q (.inl (2, n, .inr (.inl (vp_updL f j x))))) := by
  unfold zf_stJ; rw [e]
  have h1 : zt_at[2]? = some .long ∧ zx_in (nI j) n := ⟨rfl, vp_in_nI hj hn⟩
  show (if _ then _ else _) = _
  rw [if_pos h1, nI_clamp (Nat.lt_trans hj hn)]
theorem zh_ne {q : Nat} {h : zx_H} {c : zx_E} (e : h[q]? = some c) (hl : h.length ≤ 600000) : q ≠ zx_lim := by
  have h1 : q < h.length := by
    rcases Nat.lt_or_ge q h.length with h2 | h2
    · exact h2
    · rw [List.getElem?_eq_none h2] at e; cases e
  show q ≠ 1000000
  omega
theorem zh_set_s {q : Nat} {h : zx_H} {c c' : zx_E} (e : h[q]? = some c) : (h.set q c')[q]? = some c' := by
  have h1 : q < h.length := by
    rcases Nat.lt_or_ge q h.length with h2 | h2
    · exact h2
    · rw [List.getElem?_eq_none h2] at e; cases e
  rw [List.getElem?_set]; rw [if_pos rfl, if_pos h1]
theorem zh_set_n {q q' : Nat} {h : zx_H} {c' : zx_E} (hn : q ≠ q') : (h.set q c')[q']? = h[q']? := by
  rw [List.getElem?_set, if_neg hn]
theorem zh_set_l {q : Nat} {h : zx_H} {c' : zx_E} : (h.set q c').length = h.length := List.length_set
/-! ===== a Sheet ===== -/
/-- at place q stands a Sheet: kinds K, keys X, order O, nc columns, nr rows, chosen ch -/
def SH (h : zx_H) (q : Nat) (K : Nat → Int32) (X : Nat → Int64) (O : Nat → Int32) (nc nr : Nat) (ch : Int64) : Prop :=
  h[q]? = some (.inr (10, [.ref (q + 1), .ref (q + 2), .ref (q + 3), .int (nI nc), .int (nI nr), .long ch])) ∧ h[q + 1]? = some (.inl (1, 4, .inl K)) ∧ h[q + 2]? = some (.inl (2, 160, .inr (.inl X))) ∧ h[q + 3]? = some (.inl (1, 40, .inl O)) ∧ nc ≤ 4 ∧ nr ≤ 40
section SHQ
variable {h : zx_H} {q : Nat} {K : Nat → Int32} {X : Nat → Int64} {O : Nat → Int32} {nc nr : Nat} {ch : Int64}
theorem SH.c (S : SH h q K X O nc nr ch) : h[q]? = some (.inr (10, [.ref (q + 1), .ref (q + 2), .ref (q + 3), .int (nI nc), .int (nI nr), .long ch])) := S.1
theorem SH.k (S : SH h q K X O nc nr ch) : h[q + 1]? = some (.inl (1, 4, .inl K)) := S.2.1
theorem SH.x (S : SH h q K X O nc nr ch) : h[q + 2]? = some (.inl (2, 160, .inr (.inl X))) := S.2.2.1
theorem SH.o (S : SH h q K X O nc nr ch) : h[q + 3]? = some (.inl (1, 40, .inl O)) := S.2.2.2.1
theorem SH.nc4 (S : SH h q K X O nc nr ch) : nc ≤ 4 := S.2.2.2.2.1
theorem SH.nr40 (S : SH h q K X O nc nr ch) : nr ≤ 40 := S.2.2.2.2.2
def zS_key (X : Nat → Int64) (nc nr : Nat) (c r : Int32) : Int64 := if c < 0 ∨ nI nc ≤ c ∨ r < 0 ∨ nI nr ≤ r then -9000000000 else X (c.toNatClampNeg * 40 + r.toNatClampNeg)
theorem zS_keyAt (S : SH h q K X O nc nr ch) (c r : Int32) : f_Sheet_keyAt q c r h = some (zS_key X nc nr c r, h) := by
  have h4 := S.nc4
  have h40 := S.nr40
  unfold f_Sheet_keyAt zS_key
  by_cases h1 : c < 0
  · rw [if_pos h1, if_pos (Or.inl h1)]
  rw [if_neg h1, ze_b (zh_I S.c rfl)]
  by_cases h2 : nI nc ≤ c
  · rw [if_pos h2, if_pos (Or.inr (Or.inl h2))]
  rw [if_neg h2]
  by_cases h3 : r < 0
  · rw [if_pos h3, if_pos (Or.inr (Or.inr (Or.inl h3)))]
  rw [if_neg h3, ze_b (zh_I S.c rfl)]
  by_cases h5 : nI nr ≤ r
  · rw [if_pos h5, if_pos (Or.inr (Or.inr (Or.inr h5)))]
  rw [if_neg h5]
  have hn : ¬ (c < 0 ∨ nI nc ≤ c ∨ r < 0 ∨ nI nr ≤ r) := by
    rintro (h | h | h | h)
    · exact h1 h
    · exact h2 h
    · exact h3 h
    · exact h5 h
  rw [if_neg hn]
  obtain ⟨i, hi, rfl⟩ := nI_of h1
  obtain ⟨j, hj, rfl⟩ := nI_of h3
  have hi2 : i < nc := Nat.lt_of_not_le fun hle => h2 ((nI_leI (by omega) hi).mpr hle)
  have hj2 : j < nr := Nat.lt_of_not_le fun hle => h5 ((nI_leI (by omega) hj).mpr hle)
  have he : nI i * (40 : Int32) + nI j = nI (i * 40 + j) := by
    rw [show (40 : Int32) = nI 40 from rfl, pk_mul, nI_add]
  rw [ze_b (zh_A S.c rfl), he, ze_b (zh_ldJ S.x (by omega) (by decide)), nI_clamp hi, nI_clamp hj]
theorem zS_keyAt' (S : SH h q K X O nc nr ch) {i j : Nat} (hi : i < nc) (hj : j < nr) : f_Sheet_keyAt q (nI i) (nI j) h = some (X (i * 40 + j), h) := by
  have h4 := S.nc4
  have h40 := S.nr40
  rw [zS_keyAt S]
  unfold zS_key
  rw [if_neg, nI_clamp (by omega), nI_clamp (by omega)]
  rintro (h | h | h | h)
  · exact nI_pos (by omega) h
  · exact nI_ge hi (by omega) h
  · exact nI_pos (by omega) h
  · exact nI_ge hj (by omega) h
theorem zS_hasColumn (S : SH h q K X O nc nr ch) (c : Int32) : f_Sheet_hasColumn q c h = some (if c < 0 ∨ nI nc ≤ c then 0 else 1, h) := by
  unfold f_Sheet_hasColumn
  by_cases h1 : c < 0
  · rw [if_pos h1, if_pos (Or.inl h1)]
  rw [if_neg h1, ze_b (zh_I S.c rfl)]
  by_cases h2 : nI nc ≤ c
  · rw [if_pos h2, if_pos (Or.inr h2)]
  · rw [if_neg h2, if_neg (fun h => h.elim h1 h2)]
theorem zS_hasRow (S : SH h q K X O nc nr ch) (c : Int32) : f_Sheet_hasRow q c h = some (if c < 0 ∨ nI nr ≤ c then 0 else 1, h) := by
  unfold f_Sheet_hasRow
  by_cases h1 : c < 0
  · rw [if_pos h1, if_pos (Or.inl h1)]
  rw [if_neg h1, ze_b (zh_I S.c rfl)]
  by_cases h2 : nI nr ≤ c
  · rw [if_pos h2, if_pos (Or.inr h2)]
  · rw [if_neg h2, if_neg (fun h => h.elim h1 h2)]
end SHQ

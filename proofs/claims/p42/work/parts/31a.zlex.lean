/-! ===== the text in tokens ===== -/
section ZLX
def zdg (c : Nat) : Bool := decide (48 ≤ c ∧ c ≤ 57)
def zlr (c : Nat) : Bool := decide (97 ≤ c ∧ c ≤ 122)
def zsgn (c : Nat) : Bool := c == 33 || (c == 38 || (c == 40 || (c == 41 || (c == 60 || (c == 61 || (c == 62 || c == 124))))))
/-- a word read from at: where it ends, its value -/
def zlw (b : Nat → Nat) : Nat → Nat → Int64 → Nat × Int64
  | 0, at', w => (at', w)
  | n + 1, at', w => if zlr (b at') = true then zlw b n (at' + 1) ((w <<< (((8 : Int32)).toInt64 &&& 63)) ||| (nI (b at')).toInt64) else (at', w)
def zln (b : Nat → Nat) : Nat → Nat → Int64 → Nat × Int64
  | 0, at', v => (at', v)
  | n + 1, at', v => if zdg (b at') = true then zln b n (at' + 1) (if (1000001 : Int64) < (((v * (10 : Int64)) + (nI (b at')).toInt64) - (48 : Int64)) then (1000001 : Int64) else (((v * (10 : Int64)) + (nI (b at')).toInt64) - (48 : Int64))) else (at', v)
def zlv (neg : Bool) (v : Int64) : Int64 := if v ≤ (1000000 : Int64) then (if neg = true then -v else v) else -9000000000
/-- the token at a place where no space stands, and where the next begins -/
def zlt1 (b : Nat → Nat) (p : Nat) : (Nat × Nat × Int64) × Nat :=
  if zsgn (b p) = true then ((b p, p, -1), p + 1)
  else if b p = 35 then (if zdg (b (p + 1)) = true then ((35, p, (nI (b (p + 1)) - 48).toInt64), p + 2) else ((35, p, -1), p + 1))
  else if zlr (b p) = true then ((97, p, if (zlw b 200 p 0).1 - p ≤ 7 then (zlw b 200 p 0).2 else -9000000000), (zlw b 200 p 0).1)
  else if zdg (b p) = true then ((48, p, zlv false (zln b 200 p 0).2), (zln b 200 p 0).1)
  else if b p = 45 ∧ zdg (b (p + 1)) = true then ((48, p, zlv true (zln b 200 (p + 1) 0).2), (zln b 200 (p + 1) 0).1)
  else ((1, p, -1), p + 1)
def zlx (b : Nat → Nat) (len : Nat) : Nat → Nat → List (Nat × Nat × Int64)
  | 0, _ => []
  | n + 1, p => if len ≤ p then [(0, len, -1)] else if b p = 32 then zlx b len n (p + 1) else (zlt1 b p).1 :: zlx b len n (zlt1 b p).2
/-! where words and numbers end -/
theorem zlw_e {b : Nat → Nat} {len : Nat} (hb : ∀ i, len ≤ i → b i = 0) : ∀ n p w, p ≤ len → p ≤ (zlw b n p w).1 ∧ (zlw b n p w).1 ≤ len
  | 0, p, _, h => ⟨Nat.le_refl _, h⟩
  | n + 1, p, w, h => by
    unfold zlw
    by_cases e : zlr (b p) = true
    · rw [if_pos e]
      have hp : p < len := by
        rcases Nat.lt_or_ge p len with h1 | h1
        · exact h1
        · rw [hb p h1] at e; exact absurd e (by decide)
      have := zlw_e hb n (p + 1) ((w <<< (((8 : Int32)).toInt64 &&& 63)) ||| (nI (b p)).toInt64) hp
      omega
    · rw [if_neg e]; exact ⟨Nat.le_refl _, h⟩
theorem zln_e {b : Nat → Nat} {len : Nat} (hb : ∀ i, len ≤ i → b i = 0) : ∀ n p w, p ≤ len → p ≤ (zln b n p w).1 ∧ (zln b n p w).1 ≤ len
  | 0, p, _, h => ⟨Nat.le_refl _, h⟩
  | n + 1, p, w, h => by
    unfold zln
    by_cases e : zdg (b p) = true
    · rw [if_pos e]
      have hp : p < len := by
        rcases Nat.lt_or_ge p len with h1 | h1
        · exact h1
        · rw [hb p h1] at e; exact absurd e (by decide)
      have := zln_e hb n (p + 1) (if (1000001 : Int64) < (((w * (10 : Int64)) + (nI (b p)).toInt64) - (48 : Int64)) then (1000001 : Int64) else (((w * (10 : Int64)) + (nI (b p)).toInt64) - (48 : Int64))) hp
      omega
    · rw [if_neg e]; exact ⟨Nat.le_refl _, h⟩
theorem zlw_s {b : Nat → Nat} {len : Nat} (hb : ∀ i, len ≤ i → b i = 0) {n p : Nat} {w : Int64} (h : p ≤ len) (e : zlr (b p) = true) : p + 1 ≤ (zlw b (n + 1) p w).1 ∧ (zlw b (n + 1) p w).1 ≤ len := by
  have hp : p < len := by
    rcases Nat.lt_or_ge p len with h1 | h1
    · exact h1
    · rw [hb p h1] at e; exact absurd e (by decide)
  unfold zlw
  rw [if_pos e]
  exact zlw_e hb n (p + 1) _ hp
theorem zln_s {b : Nat → Nat} {len : Nat} (hb : ∀ i, len ≤ i → b i = 0) {n p : Nat} {w : Int64} (h : p ≤ len) (e : zdg (b p) = true) : p + 1 ≤ (zln b (n + 1) p w).1 ∧ (zln b (n + 1) p w).1 ≤ len := by
  have hp : p < len := by
    rcases Nat.lt_or_ge p len with h1 | h1
    · exact h1
    · rw [hb p h1] at e; exact absurd e (by decide)
  unfold zln
  rw [if_pos e]
  exact zln_e hb n (p + 1) _ hp
theorem zlt1_e {b : Nat → Nat} {len : Nat} (hb : ∀ i, len ≤ i → b i = 0) {p : Nat} (h : p < len) : p + 1 ≤ (zlt1 b p).2 ∧ (zlt1 b p).2 ≤ len := by
  unfold zlt1
  by_cases h1 : zsgn (b p) = true
  · rw [if_pos h1]; exact ⟨Nat.le_refl _, h⟩
  · rw [if_neg h1]
    by_cases h2 : b p = 35
    · rw [if_pos h2]
      by_cases h3 : zdg (b (p + 1)) = true
      · rw [if_pos h3]
        have hp : p + 1 < len := by
          rcases Nat.lt_or_ge (p + 1) len with h4 | h4
          · exact h4
          · rw [hb (p + 1) h4] at h3; exact absurd h3 (by decide)
        exact ⟨Nat.le_succ _, hp⟩
      · rw [if_neg h3]; exact ⟨Nat.le_refl _, h⟩
    · rw [if_neg h2]
      by_cases h3 : zlr (b p) = true
      · rw [if_pos h3]; exact zlw_s hb (Nat.le_of_lt h) h3
      · rw [if_neg h3]
        by_cases h4 : zdg (b p) = true
        · rw [if_pos h4]; exact zln_s hb (Nat.le_of_lt h) h4
        · rw [if_neg h4]
          by_cases h5 : b p = 45 ∧ zdg (b (p + 1)) = true
          · rw [if_pos h5]
            have := zln_s hb (n := 199) (w := 0) (show p + 1 ≤ len from h) h5.2
            exact ⟨by have := this.1; show p + 1 ≤ (zln b (199 + 1) (p + 1) 0).1; omega, this.2⟩
          · rw [if_neg h5]; exact ⟨Nat.le_refl _, h⟩
/-! the tokens kept -/
variable {h g : zx_H} {L : List (Nat × Nat × Int64)} {tx : List Nat}
def zt0 : Nat × Nat × Int64 := (0, 0, 0)
def zTkL (h : zx_H) (L : List (Nat × Nat × Int64)) : Prop := h[150]? = some (.inr (11, [.ref 151, .ref 152, .ref 153, .int (nI L.length)])) ∧ (∃ f, h[151]? = some (.inl (1, 161, .inl f)) ∧ ∀ i, i < L.length → f i = nI (L.getD i zt0).1) ∧ (∃ f, h[152]? = some (.inl (1, 161, .inl f)) ∧ ∀ i, i < L.length → f i = nI (L.getD i zt0).2.1) ∧ (∃ f, h[153]? = some (.inl (2, 161, .inr (.inl f))) ∧ ∀ i, i < L.length → f i = (L.getD i zt0).2.2) ∧ L.length ≤ 161
theorem zTkL.A (H : zTkL h L) : zTok h := by
  obtain ⟨h1, ⟨f, h2, _⟩, ⟨f3, h3, _⟩, ⟨f4, h4, _⟩, _⟩ := H
  exact ⟨⟨_, h1⟩, ⟨f, h2⟩, ⟨f3, h3⟩, f4, h4⟩
theorem zTkL.G {k a b : Nat} (H : zTkL h L) (x : zG k a b h g) (hd : 154 ≤ a ∨ b ≤ 150) : zTkL g L := by
  obtain ⟨h1, ⟨f, h2, e2⟩, ⟨f3, h3, e3⟩, ⟨f4, h4, e4⟩, h5⟩ := H
  exact ⟨x.gt h1 (by omega), ⟨f, x.gt h2 (by omega), e2⟩, ⟨f3, x.gt h3 (by omega), e3⟩, ⟨f4, x.gt h4 (by omega), e4⟩, h5⟩
theorem zTkL.put (H : zTkL h L) (hl : L.length ≤ 160) (a p : Nat) (v : Int64) : ∃ g, f_Tokens_put 150 (nI a) (nI p) v h = some ((), g) ∧ zTkL g (L ++ [(a, p, v)]) ∧ zU 150 4 h g := by
  obtain ⟨c0, ⟨f1, c1, e1⟩, ⟨f2, c2, e2⟩, ⟨f3, c3, e3⟩, _⟩ := H
  have r1 := zh_stI (x := nI a) c1 (show L.length < 161 by omega) (by decide)
  generalize hh1 : h.set 151 (.inl (1, 161, .inl (upd f1 L.length (nI a)))) = h1 at r1
  have u1 : zU 150 4 h h1 := by rw [← hh1]; exact zU_s c1 rfl (by omega)
  have a0 := zh_set_k hh1 (by decide) c0
  have a1 := zh_set_r c1 hh1
  have a2 := zh_set_k hh1 (by decide) c2
  have a3 := zh_set_k hh1 (by decide) c3
  have r2 := zh_stI (x := nI p) a2 (show L.length < 161 by omega) (by decide)
  generalize hh2 : h1.set 152 (.inl (1, 161, .inl (upd f2 L.length (nI p)))) = h2 at r2
  have u2 : zU 150 4 h1 h2 := by rw [← hh2]; exact zU_s a2 rfl (by omega)
  have b0 := zh_set_k hh2 (by decide) a0
  have b1 := zh_set_k hh2 (by decide) a1
  have b2 := zh_set_r a2 hh2
  have b3 := zh_set_k hh2 (by decide) a3
  have r3 := zh_stJ (x := v) b3 (show L.length < 161 by omega) (by decide)
  generalize hh3 : h2.set 153 (.inl (2, 161, .inr (.inl (vp_updL f3 L.length v)))) = h3 at r3
  have u3 : zU 150 4 h2 h3 := by rw [← hh3]; exact zU_s b3 rfl (by omega)
  have d0 := zh_set_k hh3 (by decide) b0
  have d1 := zh_set_k hh3 (by decide) b1
  have d2 := zh_set_k hh3 (by decide) b2
  have d3 := zh_set_r b3 hh3
  have r4 := zh_put (k := 3) (v := .int (nI (L.length + 1))) d0 (by show _ < 4; decide)
  generalize hh4 : h3.set 150 (.inr (11, [.ref 151, .ref 152, .ref 153, .int (nI (L.length + 1))])) = h4
  have r4 : zf_put 11 3 150 (.int (nI (L.length + 1))) h3 = some h4 := r4.trans (congrArg some hh4)
  have u4 : zU 150 4 h3 h4 := by rw [← hh4]; exact zU_s d0 rfl (by omega)
  have hlen : (L ++ [(a, p, v)]).length = L.length + 1 := List.length_append
  have hi2 : ∀ i, i < (L ++ [(a, p, v)]).length → i = L.length ∨ i < L.length := fun i hi => by rw [hlen] at hi; omega
  refine ⟨h4, ?_, ⟨by rw [hlen]; exact zh_set_r d0 hh4, ⟨_, zh_set_k hh4 (by decide) d1, fun i hi => ?_⟩, ⟨_, zh_set_k hh4 (by decide) d2, fun i hi => ?_⟩, ⟨_, zh_set_k hh4 (by decide) d3, fun i hi => ?_⟩, by rw [hlen]; omega⟩, zU_t u1 (zU_t u2 (zU_t u3 u4))⟩
  · unfold f_Tokens_put
    rw [ze_b (zh_I c0 rfl), if_neg (show ¬ (160 : Int32) < nI L.length from nI_nlt (a := 160) hl (by decide)), ze_b (zh_A c0 rfl), ze_b (zh_I c0 rfl), ze_b r1, ze_b (zh_A a0 rfl), ze_b (zh_I a0 rfl), ze_b r2, ze_b (zh_A b0 rfl), ze_b (zh_I b0 rfl), ze_b r3, ze_b (zh_I d0 rfl), nI_1, ze_b r4]
  · rcases hi2 i hi with e | e
    · rw [e, pk_us, zgdN]
    · rw [pk_un (by omega), e1 i e, zgdM L _ i e]
  · rcases hi2 i hi with e | e
    · rw [e, pk_us, zgdN]
    · rw [pk_un (by omega), e2 i e, zgdM L _ i e]
  · rcases hi2 i hi with e | e
    · rw [e, pk_uLs, zgdN]
    · rw [pk_uLn (by omega), e3 i e, zgdM L _ i e]
theorem zTkL.is (H : zTkL h L) : zf_is 11 150 h = some () := zh_is H.1
theorem zTxt.is (H : zTxt h tx) : zf_is 4 148 h = some () := zh_is H.1
theorem zTxt.U (H : zTxt h tx) (u : zU 150 4 h g) : zTxt g tx := H.G (zG_U u (a := 150) (b := 154) (by omega) (by omega)) (by omega)
theorem zisDig {n : Nat} (hn : n < 1000) (h : zx_H) : f_ColumnVault_isDigit (nI n) h = some (zb (zdg n), h) := by
  unfold f_ColumnVault_isDigit zdg
  rcases Nat.lt_or_ge n 48 with h1 | h1
  · rw [if_pos (show nI n < (48 : Int32) from nI_lt (b := 48) h1 (by decide)), decide_eq_false (by omega)]; rfl
  · rw [if_neg (show ¬ nI n < (48 : Int32) from nI_nlt (b := 48) h1 (by omega))]
    rcases Nat.lt_or_ge 57 n with h2 | h2
    · rw [if_pos (show (57 : Int32) < nI n from nI_lt (a := 57) h2 (by omega)), decide_eq_false (by omega)]; rfl
    · rw [if_neg (show ¬ (57 : Int32) < nI n from nI_nlt (a := 57) h2 (by decide)), decide_eq_true ⟨h1, h2⟩]; rfl
theorem zisLr {n : Nat} (hn : n < 1000) (h : zx_H) : f_ColumnVault_isLetter (nI n) h = some (zb (zlr n), h) := by
  unfold f_ColumnVault_isLetter zlr
  rcases Nat.lt_or_ge n 97 with h1 | h1
  · rw [if_pos (show nI n < (97 : Int32) from nI_lt (b := 97) h1 (by decide)), decide_eq_false (by omega)]; rfl
  · rw [if_neg (show ¬ nI n < (97 : Int32) from nI_nlt (b := 97) h1 (by omega))]
    rcases Nat.lt_or_ge 122 n with h2 | h2
    · rw [if_pos (show (122 : Int32) < nI n from nI_lt (a := 122) h2 (by omega)), decide_eq_false (by omega)]; rfl
    · rw [if_neg (show ¬ (122 : Int32) < nI n from nI_nlt (a := 122) h2 (by decide)), decide_eq_true ⟨h1, h2⟩]; rfl
/-- the letters of the text, by place -/
def ztb (tx : List Nat) : Nat → Nat := fun i => tx.getD i 0
theorem zgdB : ∀ (l : List Nat) (i : Nat), (∀ c ∈ l, 1 ≤ c ∧ c ≤ 255) → l.getD i 0 ≤ 255
  | [], _, _ => Nat.zero_le _
  | c :: _, 0, h => (h c (List.mem_cons_self ..)).2
  | _ :: l, i + 1, h => zgdB l i fun c hc => h c (List.mem_cons_of_mem _ hc)
theorem zTxt.b255 (H : zTxt h tx) (i : Nat) : ztb tx i ≤ 255 := zgdB tx i H.2.2.2
theorem ztb_0 (i : Nat) (hi : tx.length ≤ i) : ztb tx i = 0 := zgdO tx i hi
theorem zTxt.at (H : zTxt h tx) {i : Nat} (hi : i < 2 ^ 30) : f_FilterText_byteAt 148 (nI i) h = some (nI (ztb tx i), h) := H.byteAt hi
theorem zb0 {b : Bool} (e : b = false) : zb b = 0 := by rw [e]; rfl
theorem zb1 {b : Bool} (e : b = true) : ¬ zb b = 0 := by rw [e]; decide
theorem zbt0 {b : Bool} (e : ¬ b = true) : zb b = 0 := zb0 (by cases b; rfl; exact absurd rfl e)
/-- a word read -/
theorem zrdWord (H : zTxt h tx) (K : zTkL h L) (hl : L.length ≤ 160) {p : Nat} : ∀ n m i w, p ≤ i → i ≤ tx.length → tx.length - i < n → tx.length - i < m → ∃ g, f_Tokens_readWord_5 n 150 148 (nI p) w (nI i) h = some (nI ((zlw (ztb tx) m i w).1 - p), g) ∧ zTkL g (L ++ [(97, p, if (zlw (ztb tx) m i w).1 - p ≤ 7 then (zlw (ztb tx) m i w).2 else -9000000000)]) ∧ zU 150 4 h g := by
  have h160 := H.2.2.1
  have fin : ∀ i w, p ≤ i → i ≤ tx.length → ∃ g, f_Tokens_readWord_45 150 (nI p) w (nI i) h = some (nI (i - p), g) ∧ zTkL g (L ++ [(97, p, if i - p ≤ 7 then w else -9000000000)]) ∧ zU 150 4 h g := by
    intro i w hp hi
    unfold f_Tokens_readWord_45
    rw [pk_sub hp]
    by_cases e : i - p ≤ 7
    · obtain ⟨g, r, K2, U⟩ := K.put hl 97 p w
      refine ⟨g, ?_, by rw [if_pos e]; exact K2, U⟩
      rw [if_pos (show nI (i - p) ≤ (7 : Int32) from nI_le (b := 7) e (by decide)), ze_b K.is]
      show zf_b2 (f_Tokens_put 150 (nI 97) (nI p) w h) _ = _
      rw [ze_b2 r]
    · obtain ⟨g, r, K2, U⟩ := K.put hl 97 p (-9000000000)
      refine ⟨g, ?_, by rw [if_neg e]; exact K2, U⟩
      rw [if_neg (show ¬ nI (i - p) ≤ (7 : Int32) from nI_ge (a := 7) (b := i - p) (by omega) (by omega)), ze_b K.is]
      show zf_b2 (f_Tokens_put 150 (nI 97) (nI p) (-9000000000) h) _ = _
      rw [ze_b2 r]
  intro n
  induction n with
  | zero => intro m i w _ _ hn; exact absurd hn (Nat.not_lt_zero _)
  | succ n ih =>
    intro m i w hp hi hn hm
    obtain ⟨m, rfl⟩ : ∃ j, m = j + 1 := ⟨m - 1, by omega⟩
    have hb := H.b255 i
    unfold f_Tokens_readWord_5 zlw
    rw [ze_b (zh_I H.1 rfl)]
    rcases Nat.lt_or_ge i tx.length with hlt | hge
    · rw [if_neg (nI_ge hlt (by omega)), ze_b H.is, ze_b2 (H.at (by omega)), ze_b2 (zisLr (by omega) h)]
      by_cases e : zlr (ztb tx i) = true
      · rw [if_neg (zb1 e), ze_b H.is, ze_b2 (H.at (by omega)), nI_1, if_pos e]
        exact ih m (i + 1) _ (by omega) hlt (by omega) (by omega)
      · rw [if_pos (zbt0 e), if_neg e]
        exact fin i w hp hi
    · rw [if_pos (nI_le hge (by omega)), ztb_0 i hge, if_neg (by decide)]
      exact fin i w hp hi
/-- a number read -/
theorem zrdNum (H : zTxt h tx) (K : zTkL h L) (hl : L.length ≤ 160) {p : Nat} (neg : Bool) : ∀ n m i w, p ≤ i → i ≤ tx.length → tx.length - i < n → tx.length - i < m → ∃ g, f_Tokens_readNumber_32 n 150 148 (nI p) (zb neg) w (nI i) h = some (nI ((zln (ztb tx) m i w).1 - p), g) ∧ zTkL g (L ++ [(48, p, zlv neg (zln (ztb tx) m i w).2)]) ∧ zU 150 4 h g := by
  have h160 := H.2.2.1
  have fin : ∀ i w, p ≤ i → i ≤ tx.length → ∃ g, f_Tokens_readNumber_85 150 (nI p) (zb neg) w (nI i) h = some (nI (i - p), g) ∧ zTkL g (L ++ [(48, p, zlv neg w)]) ∧ zU 150 4 h g := by
    intro i w hp hi
    unfold f_Tokens_readNumber_85 zlv
    rw [pk_sub hp]
    by_cases e : w ≤ (1000000 : Int64)
    · rw [if_pos e, if_pos e]
      by_cases e2 : neg = true
      · obtain ⟨g, r, K2, U⟩ := K.put hl 48 p (-w)
        refine ⟨g, ?_, by rw [if_pos e2]; exact K2, U⟩
        rw [if_neg (zb1 e2), ze_b K.is]
        show zf_b2 (f_Tokens_put 150 (nI 48) (nI p) (-w) h) _ = _
        rw [ze_b2 r]
      · obtain ⟨g, r, K2, U⟩ := K.put hl 48 p w
        refine ⟨g, ?_, by rw [if_neg e2]; exact K2, U⟩
        rw [if_pos (zbt0 e2), ze_b K.is]
        show zf_b2 (f_Tokens_put 150 (nI 48) (nI p) w h) _ = _
        rw [ze_b2 r]
    · rw [if_neg e, if_neg e]
      obtain ⟨g, r, K2, U⟩ := K.put hl 48 p (-9000000000)
      refine ⟨g, ?_, K2, U⟩
      rw [ze_b K.is]
      show zf_b2 (f_Tokens_put 150 (nI 48) (nI p) (-9000000000) h) _ = _
      rw [ze_b2 r]
  intro n
  induction n with
  | zero => intro m i w _ _ hn; exact absurd hn (Nat.not_lt_zero _)
  | succ n ih =>
    intro m i w hp hi hn hm
    obtain ⟨m, rfl⟩ : ∃ j, m = j + 1 := ⟨m - 1, by omega⟩
    have hb := H.b255 i
    unfold f_Tokens_readNumber_32 zln
    rw [ze_b (zh_I H.1 rfl)]
    rcases Nat.lt_or_ge i tx.length with hlt | hge
    · rw [if_neg (nI_ge hlt (by omega)), ze_b H.is, ze_b2 (H.at (by omega)), ze_b2 (zisDig (by omega) h)]
      by_cases e : zdg (ztb tx i) = true
      · rw [if_neg (zb1 e), ze_b H.is, ze_b2 (H.at (by omega)), nI_1, if_pos e]
        exact ih m (i + 1) _ (by omega) hlt (by omega) (by omega)
      · rw [if_pos (zbt0 e), if_neg e]
        exact fin i w hp hi
    · rw [if_pos (nI_le hge (by omega)), ztb_0 i hge, if_neg (by decide)]
      exact fin i w hp hi
/-- one sign: any of the eight -/
theorem zrdSign (H : zTxt h tx) (K : zTkL h L) (hl : L.length ≤ 160) {p : Nat} (hp : p < tx.length) (e : zsgn (ztb tx p) = true) : ∃ g, f_Tokens_readToken 150 148 (nI p) h = some (nI 1, g) ∧ zTkL g (L ++ [(ztb tx p, p, -1)]) ∧ zU 150 4 h g := by
  have h160 := H.2.2.1
  obtain ⟨g, r, K2, U⟩ := K.put hl (ztb tx p) p (-1)
  refine ⟨g, ?_, K2, U⟩
  have hc : ztb tx p = 33 ∨ ztb tx p = 38 ∨ ztb tx p = 40 ∨ ztb tx p = 41 ∨ ztb tx p = 60 ∨ ztb tx p = 61 ∨ ztb tx p = 62 ∨ ztb tx p = 124 := by
    unfold zsgn at e
    simp at e
    omega
  unfold f_Tokens_readToken
  rw [ze_b H.is, ze_b2 (H.at (by omega)), ze_b H.is, nI_1, ze_b2 (H.at (by omega))]
  generalize ztb tx p = c at r hc
  rcases hc with rfl | rfl | rfl | rfl | rfl | rfl | rfl | rfl
  · rw [if_pos (by decide), ze_b K.is, ze_b2 r]; rfl
  · rw [if_neg (by decide), if_neg (by decide), if_pos (by decide), ze_b K.is, ze_b2 r]; rfl
  · rw [if_neg (by decide), if_neg (by decide), if_neg (by decide), if_pos (by decide), ze_b K.is, ze_b2 r]; rfl
  · rw [if_neg (by decide), if_neg (by decide), if_neg (by decide), if_neg (by decide), if_pos (by decide), ze_b K.is, ze_b2 r]; rfl
  · rw [if_neg (by decide), if_neg (by decide), if_neg (by decide), if_neg (by decide), if_neg (by decide), if_pos (by decide), ze_b K.is, ze_b2 r]; rfl
  · rw [if_neg (by decide), if_neg (by decide), if_neg (by decide), if_neg (by decide), if_neg (by decide), if_neg (by decide), if_pos (by decide), ze_b K.is, ze_b2 r]; rfl
  · rw [if_neg (by decide), if_neg (by decide), if_neg (by decide), if_neg (by decide), if_neg (by decide), if_neg (by decide), if_neg (by decide), if_pos (by decide), ze_b K.is, ze_b2 r]; rfl
  · rw [if_neg (by decide), if_neg (by decide), if_neg (by decide), if_neg (by decide), if_neg (by decide), if_neg (by decide), if_neg (by decide), if_neg (by decide), if_pos (by decide), ze_b K.is, ze_b2 r]; rfl
/-- a token read -/
theorem zrdTok (H : zTxt h tx) (K : zTkL h L) (hl : L.length ≤ 160) {p : Nat} (hp : p < tx.length) : ∃ g, f_Tokens_readToken 150 148 (nI p) h = some (nI ((zlt1 (ztb tx) p).2 - p), g) ∧ zTkL g (L ++ [(zlt1 (ztb tx) p).1]) ∧ zU 150 4 h g := by
  have h160 := H.2.2.1
  have hb0 : ∀ i, tx.length ≤ i → ztb tx i = 0 := fun i hi => ztb_0 i hi
  have b0 := H.b255 p
  have b1 := H.b255 (p + 1)
  by_cases e1 : zsgn (ztb tx p) = true
  · obtain ⟨g, r, K2, U⟩ := zrdSign H K hl hp e1
    refine ⟨g, ?_, ?_, U⟩
    · unfold zlt1
      rw [if_pos e1]
      show _ = some (nI (p + 1 - p), g)
      rw [Nat.add_sub_cancel_left]
      exact r
    · unfold zlt1
      rw [if_pos e1]
      exact K2
  · have hn : ∀ c : Nat, zsgn c = true → ¬ nI (ztb tx p) = nI c := by
      intro c hc e
      have hc2 : c < 2 ^ 31 := by
        unfold zsgn at hc
        simp at hc
        omega
      rw [nI_eq (by omega) hc2] at e
      rw [e] at e1
      exact e1 hc
    unfold f_Tokens_readToken zlt1
    rw [ze_b H.is, ze_b2 (H.at (by omega)), ze_b H.is, nI_1, ze_b2 (H.at (by omega)), if_neg e1, if_neg (show ¬ nI (ztb tx p) = (33 : Int32) from hn 33 rfl)]
    by_cases e2 : ztb tx p = 35
    · rw [if_pos (show nI (ztb tx p) = (35 : Int32) by rw [e2]; rfl), if_pos e2, ze_b2 (zisDig (by omega) h)]
      by_cases e3 : zdg (ztb tx (p + 1)) = true
      · obtain ⟨g, r, K2, U⟩ := K.put hl 35 p ((nI (ztb tx (p + 1)) - 48).toInt64)
        refine ⟨g, ?_, by rw [if_pos e3]; exact K2, U⟩
        rw [if_pos e3, if_neg (zb1 e3), ze_b K.is]
        show zf_b2 (f_Tokens_put 150 (nI 35) (nI p) ((nI (ztb tx (p + 1)) - 48).toInt64) h) _ = some (nI (p + 2 - p), g)
        rw [ze_b2 r, ze_b2 (zisDig (by omega) g), if_neg (zb1 e3), Nat.add_sub_cancel_left]
        rfl
      · obtain ⟨g, r, K2, U⟩ := K.put hl 35 p (-1)
        refine ⟨g, ?_, by rw [if_neg e3]; exact K2, U⟩
        rw [if_neg e3, if_pos (zbt0 e3), ze_b K.is]
        show zf_b2 (f_Tokens_put 150 (nI 35) (nI p) (-1) h) _ = some (nI (p + 1 - p), g)
        rw [ze_b2 r, ze_b2 (zisDig (by omega) g), if_pos (zbt0 e3), Nat.add_sub_cancel_left]
        rfl
    · rw [if_neg (show ¬ nI (ztb tx p) = (35 : Int32) from fun x => e2 ((nI_eq (b := 35) (by omega) (by decide)).mp x)), if_neg e2, if_neg (show ¬ nI (ztb tx p) = (38 : Int32) from hn 38 rfl), if_neg (show ¬ nI (ztb tx p) = (40 : Int32) from hn 40 rfl), if_neg (show ¬ nI (ztb tx p) = (41 : Int32) from hn 41 rfl), if_neg (show ¬ nI (ztb tx p) = (60 : Int32) from hn 60 rfl), if_neg (show ¬ nI (ztb tx p) = (61 : Int32) from hn 61 rfl), if_neg (show ¬ nI (ztb tx p) = (62 : Int32) from hn 62 rfl), if_neg (show ¬ nI (ztb tx p) = (124 : Int32) from hn 124 rfl), ze_b2 (zisLr (by omega) h)]
      by_cases e3 : zlr (ztb tx p) = true
      · obtain ⟨g, r, K2, U⟩ := zrdWord H K hl (p := p) zF 200 p 0 (Nat.le_refl _) (by omega) (by unfold zF; omega) (by omega)
        refine ⟨g, ?_, by rw [if_pos e3]; exact K2, U⟩
        have r2 : f_Tokens_readWord 150 148 (nI p) h = some (nI ((zlw (ztb tx) 200 p 0).1 - p), g) := r
        rw [if_pos e3, if_neg (zb1 e3), ze_b K.is, ze_b2 r2]
      · rw [if_pos (zbt0 e3), if_neg e3, ze_b2 (zisDig (by omega) h)]
        by_cases e4 : zdg (ztb tx p) = true
        · have e45 : ztb tx p ≠ 45 := by
            intro x
            rw [x] at e4
            exact absurd e4 (by decide)
          obtain ⟨g, r, K2, U⟩ := zrdNum H K hl (p := p) false zF 200 p 0 (Nat.le_refl _) (by omega) (by unfold zF; omega) (by omega)
          refine ⟨g, ?_, by rw [if_pos e4]; exact K2, U⟩
          have r2 : f_Tokens_readNumber 150 148 (nI p) h = some (nI ((zln (ztb tx) 200 p 0).1 - p), g) := by
            unfold f_Tokens_readNumber f_Tokens_readNumber_15
            rw [ze_b H.is, ze_b2 (H.at (by omega)), if_pos (show ¬ nI (ztb tx p) = (45 : Int32) from fun x => e45 ((nI_eq (b := 45) (by omega) (by decide)).mp x)), if_pos rfl]
            exact r
          rw [if_pos e4, if_pos (zb1 e4), ze_b K.is, ze_b2 r2]
        · rw [if_neg (show ¬ ¬ zb (zdg (ztb tx p)) = 0 from fun x => x (zbt0 e4)), if_neg e4]
          by_cases e5 : ztb tx p = 45
          · rw [if_neg (show ¬ ¬ nI (ztb tx p) = (45 : Int32) from fun x => x (by rw [e5]; rfl)), ze_b2 (zisDig (by omega) h)]
            by_cases e6 : zdg (ztb tx (p + 1)) = true
            · have hp1 : p + 1 < tx.length := by
                rcases Nat.lt_or_ge (p + 1) tx.length with h4 | h4
                · exact h4
                · rw [hb0 (p + 1) h4] at e6; exact absurd e6 (by decide)
              obtain ⟨g, r, K2, U⟩ := zrdNum H K hl (p := p) true zF 200 (p + 1) 0 (Nat.le_succ _) (by omega) (by unfold zF; omega) (by omega)
              refine ⟨g, ?_, by rw [if_pos ⟨e5, e6⟩]; exact K2, U⟩
              have r2 : f_Tokens_readNumber 150 148 (nI p) h = some (nI ((zln (ztb tx) 200 (p + 1) 0).1 - p), g) := by
                unfold f_Tokens_readNumber f_Tokens_readNumber_15
                rw [ze_b H.is, ze_b2 (H.at (by omega)), if_neg (show ¬ ¬ nI (ztb tx p) = (45 : Int32) from fun x => x (by rw [e5]; rfl)), if_neg (by decide), nI_1]
                exact r
              rw [if_pos (show ztb tx p = 45 ∧ zdg (ztb tx (p + 1)) = true from ⟨e5, e6⟩), if_neg (zb1 e6), ze_b K.is, ze_b2 r2]
            · obtain ⟨g, r, K2, U⟩ := K.put hl 1 p (-1)
              refine ⟨g, ?_, by rw [if_neg (fun x => e6 x.2)]; exact K2, U⟩
              rw [if_neg (show ¬ (ztb tx p = 45 ∧ zdg (ztb tx (p + 1)) = true) from fun x => e6 x.2), if_pos (zbt0 e6), ze_b K.is]
              show zf_b2 (f_Tokens_put 150 (nI 1) (nI p) (-1) h) _ = some (nI (p + 1 - p), g)
              rw [ze_b2 r, Nat.add_sub_cancel_left]
              rfl
          · obtain ⟨g, r, K2, U⟩ := K.put hl 1 p (-1)
            refine ⟨g, ?_, by rw [if_neg (fun x => e5 x.1)]; exact K2, U⟩
            rw [if_neg (show ¬ (ztb tx p = 45 ∧ zdg (ztb tx (p + 1)) = true) from fun x => e5 x.1), if_pos (show ¬ nI (ztb tx p) = (45 : Int32) from fun x => e5 ((nI_eq (b := 45) (by omega) (by decide)).mp x)), ze_b K.is]
            show zf_b2 (f_Tokens_put 150 (nI 1) (nI p) (-1) h) _ = some (nI (p + 1 - p), g)
            rw [ze_b2 r, Nat.add_sub_cancel_left]
            rfl
theorem zrdLoop : ∀ n m i h L, zTxt h tx → zTkL h L → i ≤ tx.length → tx.length - i < n → tx.length - i < m → L.length + (tx.length - i) ≤ 160 → ∃ g, f_Tokens_readFrom_7 n 150 148 (nI i) h = some ((), g) ∧ zTkL g (L ++ zlx (ztb tx) tx.length m i) ∧ zU 150 4 h g := by
  intro n
  induction n with
  | zero => intro m i h L _ _ _ hn; exact absurd hn (Nat.not_lt_zero _)
  | succ n ih =>
    intro m i h L H K hi hn hm hl
    obtain ⟨m, rfl⟩ : ∃ j, m = j + 1 := ⟨m - 1, by omega⟩
    have h160 := H.2.2.1
    have hb := H.b255 i
    unfold f_Tokens_readFrom_7 zlx
    rw [ze_b (zh_I H.1 rfl)]
    rcases Nat.lt_or_ge i tx.length with hlt | hge
    · rw [if_neg (nI_ge hlt (by omega)), ze_b H.is, ze_b2 (H.at (by omega)), if_neg (show ¬ tx.length ≤ i by omega)]
      by_cases e : ztb tx i = 32
      · rw [if_neg (show ¬ ¬ nI (ztb tx i) = (32 : Int32) from fun x => x (by rw [e]; rfl)), if_pos e, if_neg (show ¬ (1 : Int32) < (1 : Int32) by decide), nI_1]
        exact ih m (i + 1) h L H K hlt (by omega) (by omega) (by omega)
      · obtain ⟨g1, r1, K1, U1⟩ := zrdTok H K (by omega) hlt
        have hend := zlt1_e (b := ztb tx) (len := tx.length) (fun i hi => ztb_0 i hi) hlt
        have hlen : (L ++ [(zlt1 (ztb tx) i).1]).length = L.length + 1 := List.length_append
        obtain ⟨g, r, K2, U2⟩ := ih m (zlt1 (ztb tx) i).2 g1 (L ++ [(zlt1 (ztb tx) i).1]) (H.U U1) K1 hend.2 (by omega) (by omega) (by rw [hlen]; omega)
        refine ⟨g, ?_, ?_, zU_t U1 U2⟩
        · rw [if_pos (show ¬ nI (ztb tx i) = (32 : Int32) from fun x => e ((nI_eq (b := 32) (by omega) (by decide)).mp x)), ze_b K.is, ze_b2 r1, if_neg (show ¬ nI ((zlt1 (ztb tx) i).2 - i) < (1 : Int32) from nI_nlt (b := 1) (by omega) (by omega)), nI_add, show i + ((zlt1 (ztb tx) i).2 - i) = (zlt1 (ztb tx) i).2 by omega]
          exact r
        · rw [if_neg e, List.append_cons]
          exact K2
    · obtain ⟨g, r, K2, U⟩ := K.put (show L.length ≤ 160 by omega) 0 tx.length (-1)
      refine ⟨g, ?_, by rw [if_pos hge]; exact K2, U⟩
      rw [if_pos (nI_le hge (by omega)), ze_b (zh_I H.1 rfl), ze_b K.is]
      show zf_b2 (f_Tokens_put 150 (nI 0) (nI tx.length) (-1) h) _ = _
      rw [ze_b2 r]
/-- the text's tokens -/
def ztk (tx : List Nat) : List (Nat × Nat × Int64) := zlx (ztb tx) tx.length 161 0
theorem zrdAll (H : zTxt h tx) (K : zTok h) : ∃ g, f_Tokens_readFrom 150 148 h = some ((), g) ∧ zTkL g (ztk tx) ∧ zTxt g tx ∧ zU 150 4 h g := by
  have h160 := H.2.2.1
  obtain ⟨⟨k, c0⟩, ⟨f1, c1⟩, ⟨f2, c2⟩, f3, c3⟩ := K
  have r1 := zh_put (k := 3) (v := .int (0 : Int32)) c0 (by show _ < 4; decide)
  generalize hh1 : h.set 150 (.inr (11, [.ref 151, .ref 152, .ref 153, .int (nI 0)])) = h1
  have r1 : zf_put 11 3 150 (.int (0 : Int32)) h = some h1 := r1.trans (congrArg some hh1)
  have u1 : zU 150 4 h h1 := by rw [← hh1]; exact zU_s c0 rfl (by omega)
  have K1 : zTkL h1 [] := ⟨zh_set_r c0 hh1, ⟨f1, zh_set_k hh1 (by decide) c1, fun i hi => absurd hi (Nat.not_lt_zero _)⟩, ⟨f2, zh_set_k hh1 (by decide) c2, fun i hi => absurd hi (Nat.not_lt_zero _)⟩, ⟨f3, zh_set_k hh1 (by decide) c3, fun i hi => absurd hi (Nat.not_lt_zero _)⟩, by decide⟩
  obtain ⟨g, r, K2, U⟩ := zrdLoop zF 161 0 h1 [] (H.U u1) K1 (Nat.zero_le _) (by unfold zF; omega) (by omega) (by show 0 + _ ≤ _; omega)
  refine ⟨g, ?_, K2, (H.U u1).U U, zU_t u1 U⟩
  unfold f_Tokens_readFrom
  rw [ze_b r1]
  exact r
end ZLX

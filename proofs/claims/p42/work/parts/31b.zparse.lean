/-! ===== a filter read: what is read ===== -/
section ZPA
def zfo (L : List (Nat × Nat × Int64)) (i : Nat) : Nat := (L.getD i zt0).1
def zpc (L : List (Nat × Nat × Int64)) (i : Nat) : Int32 := if i < L.length then nI (L.getD i zt0).2.1 else -1
def zvu (L : List (Nat × Nat × Int64)) (i : Nat) : Int64 := if i < L.length then (L.getD i zt0).2.2 else -1
/-- tokens as they come -/
def zLb (L : List (Nat × Nat × Int64)) : Prop := ∀ i, zfo L i ≤ 255 ∧ (zvu L i = -1 ∨ (zfo L i = 35 → ∃ c, c < 10 ∧ zvu L i = lN c))
/-- the key of a text's value -/
def zkf : Nat → Int64 → Int64
  | 0, v => v
  | n + 1, v => if (v.toUInt64 >>> (((48 : Int32)).toInt64.toUInt64 &&& Int64.toUInt64 63)).toInt64 = (0 : Int64) then zkf n (v <<< (((8 : Int32)).toInt64 &&& 63)) else v
def zkv (kd : Nat) (v : Int64) : Int64 := if kd = 1 then (if v = -9000000000 then v else zkf 6 v) else v
/-- one value more -/
def zpv1 (L : List (Nat × Nat × Int64)) (kd : Nat) (ks : List Int64) (p : Nat) : List Int64 ⊕ (Nat × Int32) :=
  if zfo L p ≠ 97 ∧ zfo L p ≠ 48 then .inr (1, zpc L p)
  else if zvu L p = -9000000000 ∨ 6 ≤ ks.length then .inr (2, zpc L p)
  else if (zfo L p = 97 ∧ kd ≠ 1) ∨ (zfo L p ≠ 97 ∧ kd = 1) then .inr (3, zpc L p)
  else .inl (ks ++ [zkv kd (zvu L p)])
def zsb {α β ε : Type} : α ⊕ ε → (α → β ⊕ ε) → β ⊕ ε
  | .inl a, f => f a
  | .inr e, _ => .inr e
def zpvs (L : List (Nat × Nat × Int64)) (a kd need : Nat) : Nat → List Int64 → Nat → (List Int64 × Nat) ⊕ (Nat × Int32)
  | 0, ks, p => .inl (ks, p)
  | n + 1, ks, p => if ks.length < need ∨ (a = 105 ∧ (zfo L p = 48 ∨ zfo L p = 97)) then
      zsb (zpv1 L kd ks p) (fun ks' => zpvs L a kd need n ks' (p + 1))
    else .inl (ks, p)
def zneed (a : Nat) : Nat := if a = 109 then 0 else if a = 116 then 2 else 1
def zask (L : List (Nat × Nat × Int64)) (p : Nat) : Nat :=
  if zfo L p = 60 ∨ zfo L p = 62 ∨ zfo L p = 61 then zfo L p
  else if zfo L p = 97 then (if zvu L p = 29807 then 116 else if zvu L p = 26990 then 105 else if zvu L p = 30796717039906407 then 109 else 0)
  else 0
/-- the rows with one of the first i keys -/
def zan (T : zT) (c : Nat) (ks : List Int64) : Nat → Nat → Bool
  | 0, _ => false
  | i + 1, r => zan T c ks i r || decide (ks.getD i 0 ≤ T.ky c r ∧ T.ky c r ≤ ks.getD i 0)
/-- the rows of a test -/
def zrt (T : zT) (c a : Nat) (ks : List Int64) : Nat → Bool := fun r =>
  if a = 60 then decide ((-8999999999 : Int64) ≤ T.ky c r ∧ T.ky c r ≤ ks.getD 0 0 - 1)
  else if a = 62 then decide (ks.getD 0 0 + 1 ≤ T.ky c r ∧ T.ky c r ≤ (9223372036854775807 : Int64))
  else if a = 109 then decide ((-9000000000 : Int64) ≤ T.ky c r ∧ T.ky c r ≤ (-9000000000 : Int64))
  else if a = 116 then decide (ks.getD 0 0 ≤ T.ky c r ∧ T.ky c r ≤ ks.getD 1 0)
  else zan T c ks ks.length r
/-- what is read: how many nodes were made; where it ends, the rows, how many tests; or the fault -/
abbrev zR0 := Nat × ((Nat × (Nat → Bool) × Nat) ⊕ (Nat × Int32))
def zrb : zR0 → (Nat → Nat → (Nat → Bool) → Nat → zR0) → zR0
  | (w, .inl (p, S, k)), f => f w p S k
  | (w, .inr e), _ => (w, .inr e)
def zrw (w : Nat) : zR0 → zR0
  | (w', r) => (w + w', r)
def zptv (S : List Int64 → Nat → Bool) : (List Int64 × Nat) ⊕ (Nat × Int32) → zR0
  | .inl (ks, p') => (1, .inl (p', S ks, 1))
  | .inr e => (0, .inr e)
def zpt (L : List (Nat × Nat × Int64)) (T : zT) (p : Nat) : zR0 :=
  if zvu L p = -1 then (0, .inr (1, zpc L p + 1))
  else if T.nc ≤ (zvu L p).toInt.toNat then (0, .inr (2, zpc L p))
  else if zask L (p + 1) = 0 then (0, .inr (1, zpc L (p + 1)))
  else zptv (zrt T (zvu L p).toInt.toNat (zask L (p + 1))) (zpvs L (zask L (p + 1)) (T.kd (zvu L p).toInt.toNat) (zneed (zask L (p + 1))) 7 [] (p + 2))
def zbg (L : List (Nat × Nat × Int64)) : Nat → Nat → Nat
  | 0, _ => 0
  | n + 1, p => if zfo L p = 33 then zbg L n (p + 1) + 1 else 0
def zflip (j : Nat) (S : Nat → Bool) : Nat → Bool := fun r => if j % 2 = 1 then !S r else S r
def zpb (L : List (Nat × Nat × Int64)) (R : Nat → Nat → zR0) (o p : Nat) : zR0 :=
  if 6 ≤ o then (0, .inr (2, zpc L p))
  else zrb (R (o + 1) (p + 1)) (fun w p' S k => if zfo L p' = 41 then (w, .inl (p' + 1, S, k)) else (w, .inr (1, zpc L p')))
def zpp0 (L : List (Nat × Nat × Int64)) (T : zT) (R : Nat → Nat → zR0) (o p : Nat) : zR0 :=
  if zfo L p = 33 then (0, .inr (2, zpc L p)) else if zfo L p = 35 then zpt L T p else if zfo L p = 40 then zpb L R o p else (0, .inr (1, zpc L p))
def zpp (L : List (Nat × Nat × Int64)) (T : zT) (R : Nat → Nat → zR0) (o p : Nat) : zR0 :=
  zrb (zpp0 L T R o (p + zbg L 3 p)) (fun w p' S k => (w, .inl (p', zflip (zbg L 3 p) S, k)))
/-- parts and pieces one after the other -/
def zpl1 (L : List (Nat × Nat × Int64)) (P : Nat → zR0) (s : Nat) (J : Bool → Bool → Bool) : Nat → Nat → (Nat → Bool) → Nat → zR0
  | 0, p, S, k => (0, .inl (p, S, k))
  | n + 1, p, S, k => zrb (P p) (fun w' p' S' k' => zrw w' (if zfo L p' = s then zpl1 L P s J n (p' + 1) (fun r => J (S r) (S' r)) (k + k') else (0, .inl (p', (fun r => J (S r) (S' r)), k + k'))))
def zpart1 (L : List (Nat × Nat × Int64)) (T : zT) (R : Nat → Nat → zR0) (o p : Nat) : zR0 := zrw 1 (zpl1 L (zpp L T R o) 38 and 160 p (fun _ => true) 0)
def zpfilt (L : List (Nat × Nat × Int64)) (T : zT) (R : Nat → Nat → zR0) (o p : Nat) : zR0 := zrw 1 (zpl1 L (zpart1 L T R o) 124 or 160 p (fun _ => false) 0)
def zpF (L : List (Nat × Nat × Int64)) (T : zT) : Nat → Nat → Nat → zR0
  | 0, _, _ => (0, .inr (9, 0))
  | n + 1, o, p => zpfilt L T (zpF L T n) o p
def zpW (L : List (Nat × Nat × Int64)) (T : zT) : zR0 :=
  zrb (zpF L T 20 0 0) (fun w p S k => if zfo L p = 0 then (w, .inl (p, S, k)) else (w, .inr (1, zpc L p)))
/-! the machine's questions to the tokens -/
variable {h g : zx_H} {L : List (Nat × Nat × Int64)} {T : zT}
theorem zTkL.form (K : zTkL h L) {i : Nat} (hi : i < 2 ^ 30) : f_Tokens_formAt 150 (nI i) h = some (nI (zfo L i), h) := by
  obtain ⟨c0, ⟨f1, c1, e1⟩, _, _, h5⟩ := K
  unfold f_Tokens_formAt zfo
  rw [if_neg (nI_pos (by omega)), ze_b (zh_I c0 rfl)]
  rcases Nat.lt_or_ge i L.length with hlt | hge
  · have l := zh_ldI (by decide) c1 (show i < 161 by omega) (by decide)
    rw [e1 i hlt] at l
    rw [if_neg (nI_ge hlt (by omega)), ze_b (zh_A c0 rfl), ze_b l]
  · rw [if_pos (nI_le hge (by omega)), zgdT L i hge]
    rfl
theorem zTkL.place (K : zTkL h L) {i : Nat} (hi : i < 2 ^ 30) : f_Tokens_placeAt 150 (nI i) h = some (zpc L i, h) := by
  obtain ⟨c0, _, ⟨f1, c1, e1⟩, _, h5⟩ := K
  unfold f_Tokens_placeAt zpc
  rw [if_neg (nI_pos (by omega)), ze_b (zh_I c0 rfl)]
  rcases Nat.lt_or_ge i L.length with hlt | hge
  · have l := zh_ldI (by decide) c1 (show i < 161 by omega) (by decide)
    rw [e1 i hlt] at l
    rw [if_neg (nI_ge hlt (by omega)), ze_b (zh_A c0 rfl), ze_b l, if_pos hlt]
  · rw [if_pos (nI_le hge (by omega)), if_neg (by omega)]
theorem zTkL.value (K : zTkL h L) {i : Nat} (hi : i < 2 ^ 30) : f_Tokens_valueAt 150 (nI i) h = some (zvu L i, h) := by
  obtain ⟨c0, _, _, ⟨f1, c1, e1⟩, h5⟩ := K
  unfold f_Tokens_valueAt zvu
  rw [if_neg (nI_pos (by omega)), ze_b (zh_I c0 rfl)]
  rcases Nat.lt_or_ge i L.length with hlt | hge
  · have l := zh_ldJ c1 (show i < 161 by omega) (by decide)
    rw [e1 i hlt] at l
    rw [if_neg (nI_ge hlt (by omega)), ze_b (zh_A c0 rfl), ze_b l, if_pos hlt]
  · rw [if_pos (nI_le hge (by omega)), if_neg (by omega)]
/-! the reader: at q, its keys behind it, the table at qs; at token p -/
def zRd (h : zx_H) (q qs : Nat) (T : zT) (L : List (Nat × Nat × Int64)) (p : Nat) (ks : List Int64) (fk fp : Int32) : Prop := h[q]? = some (.inr (3, [.ref 150, .ref qs, .ref (q + 1), .int (nI ks.length), .int (nI p), .int fk, .int fp])) ∧ (∃ f, h[q + 1]? = some (.inl (2, 6, .inr (.inl f))) ∧ ∀ i, i < ks.length → f i = ks.getD i 0) ∧ TS h qs T ∧ zWF T ∧ zTkL h L ∧ zLb L ∧ qs + 4 ≤ 150 ∧ 177 ≤ q ∧ p < 2 ^ 20 ∧ ks.length ≤ 6
variable {q qs p : Nat} {ks : List Int64} {fk fp : Int32}
theorem zRd.c (R : zRd h q qs T L p ks fk fp) : h[q]? = some (.inr (3, [.ref 150, .ref qs, .ref (q + 1), .int (nI ks.length), .int (nI p), .int fk, .int fp])) := R.1
theorem zRd.S (R : zRd h q qs T L p ks fk fp) : TS h qs T := R.2.2.1
theorem zRd.F (R : zRd h q qs T L p ks fk fp) : zWF T := R.2.2.2.1
theorem zRd.K (R : zRd h q qs T L p ks fk fp) : zTkL h L := R.2.2.2.2.1
theorem zRd.Lb (R : zRd h q qs T L p ks fk fp) : zLb L := R.2.2.2.2.2.1
theorem zRd.q177 (R : zRd h q qs T L p ks fk fp) : 177 ≤ q := R.2.2.2.2.2.2.2.1
theorem zRd.p20 (R : zRd h q qs T L p ks fk fp) : p < 2 ^ 20 := R.2.2.2.2.2.2.2.2.1
theorem zRd.is (R : zRd h q qs T L p ks fk fp) : zf_is 3 q h = some () := zh_is R.c
/-- the reader's two cells changed, no more -/
theorem zRd.U2 (R : zRd h q qs T L p ks fk fp) (u : zU q 2 h g) {p' : Nat} {ks' : List Int64} {fk' fp' : Int32} (c : g[q]? = some (.inr (3, [.ref 150, .ref qs, .ref (q + 1), .int (nI ks'.length), .int (nI p'), .int fk', .int fp']))) (k : ∃ f, g[q + 1]? = some (.inl (2, 6, .inr (.inl f))) ∧ ∀ i, i < ks'.length → f i = ks'.getD i 0) (hp : p' < 2 ^ 20) (hk : ks'.length ≤ 6) : zRd g q qs T L p' ks' fk' fp' := by
  obtain ⟨_, _, S, F, K, Lb, h1, h2, _, _⟩ := R
  exact ⟨c, k, S.U u (by omega), F, K.G (zG_U u (a := q) (b := q + 2) (Nat.le_refl _) (Nat.le_refl _)) (by omega), Lb, h1, h2, hp, hk⟩
theorem zRd.to (R : zRd h q qs T L p ks fk fp) (p' : Nat) (hp : p' < 2 ^ 20) : ∃ g, zf_put 3 4 q (.int (nI p')) h = some g ∧ zRd g q qs T L p' ks fk fp ∧ zU q 2 h g := by
  have r := zh_put (k := 4) (v := .int (nI p')) R.c (by show _ < 7; decide)
  have u : zU q 2 h (h.set q (.inr (3, [.ref 150, .ref qs, .ref (q + 1), .int (nI ks.length), .int (nI p'), .int fk, .int fp]))) := zU_s R.c rfl (by omega)
  obtain ⟨f, k1, k2⟩ := R.2.1
  exact ⟨_, r, R.U2 u (zh_set_s R.c) ⟨f, by rw [zh_set_n (by omega)]; exact k1, k2⟩ hp R.2.2.2.2.2.2.2.2.2, u⟩
theorem zRd.takes (R : zRd h q qs T L p ks fk fp) {s : Nat} (hs : s ≤ 255) (h0 : s ≠ 0) : (zfo L p = s → ∃ g, f_FilterReader_takes q (nI s) h = some (1, g) ∧ zRd g q qs T L (p + 1) ks fk fp ∧ zU q 2 h g) ∧ (zfo L p ≠ s → f_FilterReader_takes q (nI s) h = some (0, h)) := by
  have hb := (R.Lb p).1
  have hp := R.p20
  constructor
  · intro e
    obtain ⟨g, r, R2, U⟩ := R.to (p + 1) (by
      rcases Nat.lt_or_ge p L.length with h1 | h1
      · have h5 := R.K.2.2.2.2
        omega
      · unfold zfo at e
        rw [zgdT L p h1] at e
        exact absurd (show s = 0 from e.symm) h0)
    refine ⟨g, ?_, R2, U⟩
    unfold f_FilterReader_takes
    rw [ze_b (zh_A R.c rfl), ze_b (zh_I R.c rfl), ze_b R.K.is, ze_b2 (R.K.form (by omega)), if_pos (by rw [e]), ze_b (zh_I R.c rfl), nI_1, ze_b r]
  · intro e
    unfold f_FilterReader_takes
    rw [ze_b (zh_A R.c rfl), ze_b (zh_I R.c rfl), ze_b R.K.is, ze_b2 (R.K.form (by omega)), if_neg (by rw [nI_eq (by omega) (by omega)]; exact e)]
theorem zRd.fail (R : zRd h q qs T L p ks fk fp) (a b : Int32) : ∃ g, f_FilterReader_fail q a b h = some (none, g) ∧ zRd g q qs T L p ks a b ∧ zU q 2 h g := by
  have r := zh_put (k := 5) (v := .int a) R.c (by show _ < 7; decide)
  generalize hh1 : h.set q (.inr (3, [.ref 150, .ref qs, .ref (q + 1), .int (nI ks.length), .int (nI p), .int a, .int fp])) = h1
  have r : zf_put 3 5 q (.int a) h = some h1 := r.trans (congrArg some hh1)
  have u1 : zU q 2 h h1 := by rw [← hh1]; exact zU_s R.c rfl (by omega)
  have c1 := zh_set_r R.c hh1
  have r2 := zh_put (k := 6) (v := .int b) c1 (by show _ < 7; decide)
  generalize hh2 : h1.set q (.inr (3, [.ref 150, .ref qs, .ref (q + 1), .int (nI ks.length), .int (nI p), .int a, .int b])) = h2
  have r2 : zf_put 3 6 q (.int b) h1 = some h2 := r2.trans (congrArg some hh2)
  have u2 : zU q 2 h1 h2 := by rw [← hh2]; exact zU_s c1 rfl (by omega)
  obtain ⟨f, k1, k2⟩ := R.2.1
  refine ⟨h2, ?_, R.U2 (zU_t u1 u2) (zh_set_r c1 hh2) ⟨f, zh_set_k hh2 (by omega) (zh_set_k hh1 (by omega) k1), k2⟩ R.p20 R.2.2.2.2.2.2.2.2.2, zU_t u1 u2⟩
  unfold f_FilterReader_fail
  rw [ze_b r, ze_b r2]
end ZPA

/-! ===== digest ===== -/
section ZDG
variable {h g : zx_H} {now : Nat} {ver : Nat → Nat → zT} {tx : List Nat} {pr : Nat × (Nat → Nat) × (Nat → Int32)} {gr : zT × Nat × Nat × (Nat → Int64) × (Nat → Nat → Bool)} {t : Nat}
def zdK (T : zT) : Nat → Int64
  | 0 => (nI T.nc).toInt64
  | c + 1 => ((31 : Int64) * zdK T c) + (nI (T.kd c)).toInt64
def zdC (T : zT) (r : Nat) (a : Int64) : Nat → Int64
  | 0 => a
  | c + 1 => ((31 : Int64) * zdC T r a c) + zVl T r c
def zdA (T : zT) : Nat → Int64
  | 0 => zdK T T.nc
  | r + 1 => zdC T r (zdA T r) T.nc
def zdO (T : zT) : Nat → Int64
  | 0 => zdA T T.nr
  | p + 1 => ((31 : Int64) * zdO T p) + (nI (T.od p)).toInt64
def zdH (T : zT) : Nat → Int64
  | 0 => zdO T T.nr
  | r + 1 => ((31 : Int64) * zdH T r) + (if T.ch r = true then 1 else 2)
def zDg (T : zT) : Int64 := zdH T T.nr
theorem zdg84 {T : zT} {q : Nat} (z : zLL h q T.nr T.nc (zVl T)) (h4 : T.nc ≤ 4) {r : Nat} (hr : r < T.nr) {a : Int64} {p0 p3 : Nat} {p1 p4 p5 : Int32} {K : Nat → Int32 → Int64 → Nat → Int32 → Int32 → zx_H → Option ((Int64 ⊕ Nat) × zx_H)} : ∀ n c, c ≤ T.nc → T.nc - c < n → f_ColumnVaultLaw_digest_84 K n p0 p1 (zdC T r a c) p3 p4 p5 (q + 1 + r) (nI T.nc) (nI c) h = K p0 p1 (zdC T r a T.nc) p3 p4 (p5 + (1 : Int32)) h := by
  intro n
  induction n with
  | zero => intro c _ hn; exact absurd hn (Nat.not_lt_zero _)
  | succ n ih =>
    intro c hc hn
    unfold f_ColumnVaultLaw_digest_84
    rcases Nat.lt_or_ge c T.nc with hlt | hge
    · rw [if_neg (nI_ge hlt (by omega)), ze_b (z.ld hr hlt (by omega)), nI_1]
      exact ih (c + 1) hlt (by omega)
    · rw [if_pos (nI_le hge (by omega)), show c = T.nc by omega]
theorem zdg179 {T : zT} {q : Nat} (z : zBa h q T.nr T.ch) (h40 : T.nr ≤ 40) : ∀ n i, i ≤ T.nr → T.nr - i < n → f_ColumnVaultLaw_digest_179 n (zdH T i) q (nI T.nr) (nI i) h = some (.inl (zDg T), h) := by
  intro n
  induction n with
  | zero => intro c _ hn; exact absurd hn (Nat.not_lt_zero _)
  | succ n ih =>
    intro c hc hn
    unfold f_ColumnVaultLaw_digest_179
    rcases Nat.lt_or_ge c T.nr with hlt | hge
    · have h1 := ih (c + 1) hlt (by omega)
      have e : zdH T (c + 1) = ((31 : Int64) * zdH T c) + (if T.ch c = true then 1 else 2) := rfl
      rw [if_neg (nI_ge hlt (by omega)), ze_b (z.ld hlt (by omega)), nI_1]
      by_cases hz : T.ch c = true
      · rw [if_pos hz] at e
        rw [if_neg (zb1 hz), ← e]
        exact h1
      · rw [if_neg hz] at e
        rw [if_pos (zbt0 hz), ← e]
        exact h1
    · rw [if_pos (nI_le hge (by omega)), show c = T.nr by omega]
      rfl
theorem zdg134 (w : zWd h now ver tx pr gr) (ht : t < 3) {q : Nat} (hq : q ≤ 600000) (z : zOa h q (ver now t).nr (ver now t).od) (hB : zM h ≤ 7000000) : ∃ g, zG 60 0 0 h g ∧ ∀ n i, i ≤ (ver now t).nr → (ver now t).nr - i < n → f_ColumnVaultLaw_digest_134 n 1 (nI t) (zdO (ver now t) i) q (nI (ver now t).nr) (nI i) h = some (.inl (zDg (ver now t)), g) := by
  have h40 := (w.T ht).r40
  obtain ⟨g, e1, z1, G1, l1⟩ := w.choice ht hB
  have hl := zlen (h := h) (by omega)
  refine ⟨g, G1, ?_⟩
  intro n
  induction n with
  | zero => intro c _ hn; exact absurd hn (Nat.not_lt_zero _)
  | succ n ih =>
    intro c hc hn
    unfold f_ColumnVaultLaw_digest_134
    rcases Nat.lt_or_ge c (ver now t).nr with hlt | hge
    · rw [if_neg (nI_ge hlt (by omega)), ze_b (z.ld hlt (by omega) hq), nI_1]
      exact ih (c + 1) hlt (by omega)
    · have e2 := zdg179 z1 h40 zF 0 (Nat.zero_le _) (by unfold zF; omega)
      rw [nI_0] at e2
      rw [if_pos (nI_le hge (by omega)), ze_b3 e1, ze_b (z1.len hl), show c = (ver now t).nr by omega]
      exact e2
theorem zdg58 (w : zWd h now ver tx pr gr) (ht : t < 3) {q : Nat} (hq : q ≤ 600000) (z : zLL h q (ver now t).nr (ver now t).nc (zVl (ver now t))) (hB : zM h ≤ 6900000) : ∃ g, zG 120 0 0 h g ∧ ∀ n i, i ≤ (ver now t).nr → (ver now t).nr - i < n → f_ColumnVaultLaw_digest_58 n 1 (nI t) (zdA (ver now t) i) q (nI (ver now t).nr) (nI i) h = some (.inl (zDg (ver now t)), g) := by
  have h40 := (w.T ht).r40
  have h4 := (w.T ht).c4
  obtain ⟨g1, e1, z1, G1, l1⟩ := w.order ht (by omega)
  have hl := zlen (h := h) (by omega)
  have m1 := G1.m
  obtain ⟨g2, G2, e2⟩ := zdg134 (w.G G1 (Or.inr (by decide))) ht hl z1 (by omega)
  refine ⟨g2, (G1.t G2).w (by omega) (Nat.le_refl _) (Nat.le_refl _), ?_⟩
  intro n
  induction n with
  | zero => intro c _ hn; exact absurd hn (Nat.not_lt_zero _)
  | succ n ih =>
    intro r hr hn
    unfold f_ColumnVaultLaw_digest_58
    rcases Nat.lt_or_ge r (ver now t).nr with hlt | hge
    · have e3 := zdg84 (K := f_ColumnVaultLaw_digest_58 n) (p0 := 1) (p1 := nI t) (p3 := q) (p4 := nI (ver now t).nr) (p5 := nI r) (a := zdA (ver now t) r) z h4 hlt zF 0 (Nat.zero_le _) (by unfold zF; omega)
      rw [nI_0] at e3
      rw [if_neg (nI_ge hlt (by omega)), ze_b (z.row hlt (by omega)), ze_b (z.rlen hlt (by omega))]
      refine e3.trans ?_
      rw [nI_1]
      exact ih (r + 1) hlt (by omega)
    · have e3 := e2 zF 0 (Nat.zero_le _) (by unfold zF; omega)
      rw [nI_0] at e3
      rw [if_pos (nI_le hge (by omega)), ze_b3 e1, ze_b (z1.len hl), show r = (ver now t).nr by omega]
      exact e3
theorem zdigest (w : zWd h now ver tx pr gr) (ht : t < 3) (hB : zM h ≤ 6800000) : ∃ g, f_ColumnVaultLaw_digest 1 (nI t) h = some (.inl (zDg (ver now t)), g) ∧ zG 820 0 0 h g := by
  have h4 := (w.T ht).c4
  obtain ⟨g1, e1, z1, G1, l1⟩ := w.rows ht (by omega)
  have hl := zlen (h := h) (by omega)
  have m1 := G1.m
  obtain ⟨g2, G2, e2⟩ := zdg58 (w.G G1 (Or.inr (by decide))) ht hl z1 (by omega)
  have key : ∀ n i, i ≤ (ver now t).nc → (ver now t).nc - i < n → f_ColumnVaultLaw_digest_11 n 1 (nI t) (zdK (ver now t) i) (nI i) h = some (.inl (zDg (ver now t)), g2) := by
    intro n
    induction n with
    | zero => intro c _ hn; exact absurd hn (Nat.not_lt_zero _)
    | succ n ih =>
      intro c hc hn
      unfold f_ColumnVaultLaw_digest_11
      rw [ze_b w.is, ze_b3 (w.size1 ht)]
      rcases Nat.lt_or_ge c (ver now t).nc with hlt | hge
      · rw [if_neg (nI_ge hlt (by omega)), ze_b w.is, ze_b3 (w.kind ht hlt), nI_1]
        exact ih (c + 1) hlt (by omega)
      · have e3 := e2 zF 0 (Nat.zero_le _) (by have := (w.T ht).r40; unfold zF; omega)
        rw [nI_0] at e3
        rw [if_pos (nI_le hge (by omega)), ze_b3 e1, ze_b (z1.len hl), show c = (ver now t).nc by omega]
        exact e3
  refine ⟨g2, ?_, (G1.t G2).w (by omega) (Nat.le_refl _) (Nat.le_refl _)⟩
  have e3 := key zF 0 (Nat.zero_le _) (by unfold zF; omega)
  rw [nI_0] at e3
  unfold f_ColumnVaultLaw_digest
  rw [ze_b w.is, ze_b3 (w.size1 ht)]
  exact e3
end ZDG

/-! ===== the law's rows: an array of arrays ===== -/
section ZRW
variable {h g j : zx_H} {now : Nat} {ver : Nat → Nat → zT} {tx : List Nat} {pr : Nat × (Nat → Nat) × (Nat → Int32)} {gr : zT × Nat × Nat × (Nat → Int64) × (Nat → Nat → Bool)} {t p n m i c k a b : Nat} {F : Nat → Nat → Int64}
def zRef (p n : Nat) : Nat → Option Nat := fun j => if j < n then some (p + 1 + j) else none
/-- at p the references, behind it the n rows of m values; known are those ahead of row i, column c -/
def zLQ (h : zx_H) (p n m i c : Nat) (F : Nat → Nat → Int64) : Prop := h[p]? = some (.inl (4, n, .inr (.inr (.inr (.inr (zRef p n)))))) ∧ ∀ j, j < n → ∃ f, h[p + 1 + j]? = some (.inl (2, m, .inr (.inl f))) ∧ ∀ k, k < m → (j < i ∨ (j = i ∧ k < c)) → f k = F j k
/-- all known -/
def zLL (h : zx_H) (p n m : Nat) (F : Nat → Nat → Int64) : Prop := h[p]? = some (.inl (4, n, .inr (.inr (.inr (.inr (zRef p n)))))) ∧ ∀ j, j < n → ∃ f, h[p + 1 + j]? = some (.inl (2, m, .inr (.inl f))) ∧ ∀ k, k < m → f k = F j k
theorem zLL.G {x y : Nat} (z : zLL h p n m F) (G : zG k x y h g) (hd : p + 1 + n ≤ x ∨ y ≤ p) : zLL g p n m F := by
  refine ⟨G.gt z.1 (by omega), fun j hj => ?_⟩
  obtain ⟨f, e, hf⟩ := z.2 j hj
  exact ⟨f, G.gt e (by omega), hf⟩
theorem zLL.len (z : zLL h p n m F) (hp : p ≤ 600000) : zf_len p h = some (nI n) := zh_len (by show p ≠ 1000000; omega) z.1 rfl
theorem zh_ldR (e : h[p]? = some (.inl (4, n, .inr (.inr (.inr (.inr (zRef p n))))))) (hi : i < n) (hn : n ≤ 1000) : zf_ldA p (nI i) h = some (p + 1 + i) := by
  unfold zf_ldA
  rw [e]
  have hin : zx_in (nI i) n := vp_in_nI hi (by omega)
  show (if zx_in (nI i) n then zRef p n (nI i).toNatClampNeg else none) = _
  rw [if_pos hin, nI_clamp (by omega)]
  exact if_pos hi
theorem zLL.row (z : zLL h p n m F) (hi : i < n) (hn : n ≤ 1000) : zf_ldA p (nI i) h = some (p + 1 + i) := zh_ldR z.1 hi hn
theorem zLL.rlen (z : zLL h p n m F) (hi : i < n) (hp : p + n + 1 ≤ 900000) : zf_len (p + 1 + i) h = some (nI m) := by
  obtain ⟨f, e, hf⟩ := z.2 i hi
  exact zh_len (by show p + 1 + i ≠ 1000000; omega) e rfl
theorem zLL.ld (z : zLL h p n m F) (hi : i < n) (hc : c < m) (hm : m ≤ 1000) : zf_ldJ (p + 1 + i) (nI c) h = some (F i c) := by
  obtain ⟨f, e, hf⟩ := z.2 i hi
  rw [zh_ldJ e hc (by omega), hf c hc]
theorem zLQ.G {x y : Nat} (z : zLQ h p n m i c F) (G : zG k x y h g) (hd : p + 1 + n ≤ x ∨ y ≤ p) : zLQ g p n m i c F := by
  refine ⟨G.gt z.1 (by omega), fun j hj => ?_⟩
  obtain ⟨f, e, hf⟩ := z.2 j hj
  exact ⟨f, G.gt e (by omega), hf⟩
theorem zLQ.rlen (z : zLQ h p n m i c F) {q : Nat} (hi : q < n) (hp : p + n + 1 ≤ 900000) : zf_len (p + 1 + q) h = some (nI m) := by
  obtain ⟨f, e, hf⟩ := z.2 q hi
  exact zh_len (by show p + 1 + q ≠ 1000000; omega) e rfl
/-- one value more -/
theorem zLQ.st (z : zLQ h p n m i c F) (hi : i < n) (hc : c < m) (hm : m ≤ 1000) : ∃ g, zf_stJ (p + 1 + i) (nI c) (F i c) h = some g ∧ zLQ g p n m i (c + 1) F ∧ zU p (n + 1) h g := by
  obtain ⟨f, e, hf⟩ := z.2 i hi
  have r := zh_stJ (x := F i c) e hc (by omega)
  refine ⟨_, r, ⟨by rw [zh_set_n (by omega)]; exact z.1, fun j hj => ?_⟩, zU_s e rfl (by omega)⟩
  by_cases hji : j = i
  · subst hji
    refine ⟨_, zh_set_s e, fun k hk hx => ?_⟩
    by_cases hkc : k = c
    · subst hkc; exact pk_uLs
    · rw [pk_uLn hkc]; exact hf k hk (by omega)
  · obtain ⟨f2, e2, hf2⟩ := z.2 j hj
    exact ⟨f2, by rw [zh_set_n (by omega)]; exact e2, fun k hk hx => hf2 k hk (by omega)⟩
theorem zLQ.next (z : zLQ h p n m i m F) : zLQ h p n m (i + 1) 0 F := by
  refine ⟨z.1, fun j hj => ?_⟩
  obtain ⟨f, e, hf⟩ := z.2 j hj
  exact ⟨f, e, fun k hk hx => hf k hk (by omega)⟩
theorem zM_apl (h l : zx_H) : zM (h ++ l) = zM h + zM l := by
  unfold zM zx_sz
  rw [List.map_append, List.sum_append, List.length_append]
  omega
theorem zM_rep (x : zx_E) : ∀ n, zM (List.replicate n x) = n * (12 + zx_sz1 x)
  | 0 => by rw [Nat.zero_mul]; rfl
  | n + 1 => by
    have h1 := zM_rep x n
    have h2 : zM (x :: List.replicate n x) = (12 + zx_sz1 x) + zM (List.replicate n x) := by
      unfold zM zx_sz
      rw [List.map_cons, List.sum_cons, List.length_cons]
      omega
    rw [List.replicate_succ, h2, h1, Nat.succ_mul, Nat.add_comm]
theorem zh_multi (hn : n ≤ 1000) (hm : m ≤ 1000) (hl : h.length ≤ 600000) : zf_multi .long 4 2 (nI n) (nI m) h = some (h.length, h ++ .inl (4, n, .inr (.inr (.inr (.inr (zRef h.length n))))) :: List.replicate n (.inl (2, m, .inr (.inl fun _ => 0)))) := by
  unfold zf_multi
  rw [nI_clamp (show n < 2 ^ 31 by omega), nI_clamp (show m < 2 ^ 31 by omega)]
  have h1 : ¬ nI n < 0 ∧ ¬ nI m < 0 ∧ n * 4 ≤ 536870912 ∧ m * componentBytes .long ≤ 536870912 ∧ h.length + n < zx_lim := by
    refine ⟨nI_pos (by omega), nI_pos (by omega), by omega, ?_, ?_⟩
    · show m * 8 ≤ 536870912
      omega
    · show h.length + n < 1000000
      omega
  show (if _ then _ else _) = _
  rw [if_pos h1]
  rfl
theorem zWd.rows28 (ht : t < 3) (hp : 177 ≤ p) (hp2 : p ≤ 600000) {K : Nat → Int32 → Nat → Int32 → zx_H → Option ((Nat ⊕ Nat) × zx_H)} {T : zT} (hT : T = ver now t) (hi : i < T.nr) : ∀ n c h, c ≤ T.nc → T.nc - c < n → zWd h now ver tx pr gr → zLQ h p T.nr T.nc i c (zVl T) → ∃ g, f_ColumnVaultLaw_rows_28 K n 1 (nI t) p (nI i) (nI c) h = K 1 (nI t) p (nI (i + 1)) g ∧ zWd g now ver tx pr gr ∧ zLQ g p T.nr T.nc (i + 1) 0 (zVl T) ∧ zU p (T.nr + 1) h g := by
  subst hT
  intro n
  induction n with
  | zero => intro c _ _ hn; exact absurd hn (Nat.not_lt_zero _)
  | succ n ih =>
    intro c h hc hn w z
    have h4 := (w.T ht).c4
    have h40 := (w.T ht).r40
    unfold f_ColumnVaultLaw_rows_28
    have ld := zh_ldR z.1 hi (by omega)
    rw [ze_b ld, ze_b (z.rlen hi (by omega))]
    rcases Nat.lt_or_ge c (ver now t).nc with hlt | hge
    · obtain ⟨g1, e1, z1, U1⟩ := z.st hi hlt (by omega)
      have G1 := zG_U U1 (a := p) (b := p + ((ver now t).nr + 1)) (Nat.le_refl _) (Nat.le_refl _)
      have w1 := w.G G1 (Or.inl hp)
      obtain ⟨g, e, w2, z2, U2⟩ := ih (c + 1) g1 hlt (by omega) w1 z1
      refine ⟨g, ?_, w2, z2, zU_t U1 U2⟩
      rw [if_neg (nI_ge hlt (by omega)), ze_b ld, ze_b w.is, ze_b3 (w.get ht hlt hi), ze_b e1, nI_1]
      exact e
    · have e : c = (ver now t).nc := Nat.le_antisymm hc hge
      subst e
      rw [if_pos (nI_le (Nat.le_refl _) (by omega)), nI_1]
      exact ⟨h, rfl, w, z.next, zU_r⟩
theorem zWd.rows (w : zWd h now ver tx pr gr) (ht : t < 3) (hB : zM h ≤ 7000000) : ∃ g, f_ColumnVaultLaw_rows 1 (nI t) h = some (.inl h.length, g) ∧ zLL g h.length (ver now t).nr (ver now t).nc (zVl (ver now t)) ∧ zG 700 0 0 h g ∧ g.length = h.length + 1 + (ver now t).nr := by
  have h4 := (w.T ht).c4
  have h40 := (w.T ht).r40
  have hl := zlen (h := h) (by omega)
  have hwl := w.len
  have e0 := zh_multi (h := h) (n := (ver now t).nr) (m := (ver now t).nc) (by omega) (by omega) hl
  generalize hg0 : h ++ .inl (4, (ver now t).nr, .inr (.inr (.inr (.inr (zRef h.length (ver now t).nr))))) :: List.replicate (ver now t).nr (.inl (2, (ver now t).nc, .inr (.inl fun _ => 0))) = g0 at e0
  have l0 : g0.length = h.length + 1 + (ver now t).nr := by
    rw [← hg0, List.length_append, List.length_cons, List.length_replicate]
    omega
  have mm : (ver now t).nr * (12 + (ver now t).nc) ≤ 40 * 16 := Nat.mul_le_mul h40 (by omega)
  have M0 : zM g0 ≤ zM h + 700 := by
    rw [← hg0, show (h ++ .inl (4, (ver now t).nr, .inr (.inr (.inr (.inr (zRef h.length (ver now t).nr))))) :: List.replicate (ver now t).nr (.inl (2, (ver now t).nc, .inr (.inl fun _ => 0))) : zx_H) = (h ++ [.inl (4, (ver now t).nr, .inr (.inr (.inr (.inr (zRef h.length (ver now t).nr)))))]) ++ List.replicate (ver now t).nr (.inl (2, (ver now t).nc, .inr (.inl fun _ => 0))) by rw [List.append_assoc]; rfl, zM_apl, zM_app, zM_rep]
    show zM h + (12 + (ver now t).nr) + (ver now t).nr * (12 + (ver now t).nc) ≤ _
    omega
  have G0 : zG 700 0 0 h g0 := ⟨by omega, M0, fun p hp _ => by rw [← hg0]; exact List.getElem?_append_left hp⟩
  have z0 : zLQ g0 h.length (ver now t).nr (ver now t).nc 0 0 (zVl (ver now t)) := by
    refine ⟨by rw [← hg0]; exact zh_ag, fun j hj => ⟨fun _ => 0, ?_, fun k _ hx => by omega⟩⟩
    rw [← hg0, List.getElem?_append_right (by omega), show h.length + 1 + j - h.length = j + 1 by omega, List.getElem?_cons_succ, List.getElem?_replicate, if_pos hj]
  have w0 := w.G G0 (Or.inr (by decide))
  have key : ∀ n i g, i ≤ (ver now t).nr → (ver now t).nr - i < n → zWd g now ver tx pr gr → zLQ g h.length (ver now t).nr (ver now t).nc i 0 (zVl (ver now t)) → ∃ g', f_ColumnVaultLaw_rows_19 n 1 (nI t) h.length (nI i) g = some (.inl h.length, g') ∧ zLL g' h.length (ver now t).nr (ver now t).nc (zVl (ver now t)) ∧ zU h.length ((ver now t).nr + 1) g g' := by
    intro n
    induction n with
    | zero => intro i _ _ hn; exact absurd hn (Nat.not_lt_zero _)
    | succ n ih =>
      intro i g hi hn wg z
      unfold f_ColumnVaultLaw_rows_19
      rw [ze_b (zh_len (by show h.length ≠ 1000000; omega) z.1 rfl)]
      rcases Nat.lt_or_ge i (ver now t).nr with hlt | hge
      · obtain ⟨g1, e1, w1, z1, U1⟩ := zWd.rows28 (K := f_ColumnVaultLaw_rows_19 n) ht hwl hl rfl hlt zF 0 g (Nat.zero_le _) (by unfold zF; omega) wg z
        obtain ⟨g2, e2, z2, U2⟩ := ih (i + 1) g1 hlt (by omega) w1 z1
        refine ⟨g2, ?_, z2, zU_t U1 U2⟩
        rw [if_neg (nI_ge hlt (by omega))]
        rw [nI_0] at e1
        rw [e1]
        exact e2
      · have e9 : i = (ver now t).nr := Nat.le_antisymm hi hge
        rw [if_pos (nI_le hge (by omega))]
        refine ⟨g, rfl, ⟨z.1, fun j hj => ?_⟩, zU_r⟩
        obtain ⟨f, e, hf⟩ := z.2 j hj
        exact ⟨f, e, fun k hk => hf k hk (Or.inl (by omega))⟩
  obtain ⟨g, r, z, u⟩ := key zF 0 g0 (Nat.zero_le _) (by unfold zF; omega) w0 z0
  refine ⟨g, ?_, z, ⟨by rw [u.1, l0]; omega, ?_, fun p hp _ => ?_⟩, by rw [u.1, l0]⟩
  · unfold f_ColumnVaultLaw_rows
    rw [ze_b w.is, ze_b3 (w.size0 ht), ze_b w.is, ze_b3 (w.size1 ht), ze_b2 e0]
    exact r
  · have h2 : zM g = zM g0 := by unfold zM; rw [u.1, u.2.1]
    omega
  · rw [u.2.2 p (Or.inl hp)]
    exact G0.2.2 p hp (Or.inr (Nat.zero_le _))
end ZRW

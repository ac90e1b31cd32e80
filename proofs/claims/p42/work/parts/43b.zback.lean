/-! ===== isBack ===== -/
section ZBK
variable {h g j : zx_H} {now v0 : Nat} {ver ver0 : Nat → Nat → zT} {tx : List Nat} {pr : Nat × (Nat → Nat) × (Nat → Int32)} {gr : zT × Nat × Nat × (Nat → Int64) × (Nat → Nat → Bool)} {t q q' : Nat}
/-- three longs at q -/
def zJ3 (h : zx_H) (q n : Nat) (F : Nat → Int64) : Prop := ∃ f, h[q]? = some (.inl (2, 3, .inr (.inl f))) ∧ ∀ i, i < n → f i = F i
theorem zJ3.G {n k a b : Nat} {F : Nat → Int64} (z : zJ3 h q n F) (G : zG k a b h g) (h1 : q < a ∨ b ≤ q) : zJ3 g q n F := by
  obtain ⟨f, e, hf⟩ := z
  exact ⟨f, G.gt e h1, hf⟩
theorem zJ3.ld {F : Nat → Int64} (z : zJ3 h q 3 F) {i : Nat} (hi : i < 3) : zf_ldJ q (nI i) h = some (F i) := by
  obtain ⟨f, e, hf⟩ := z
  rw [zh_ldJ e hi (by decide), hf i hi]
theorem zJ3.st {F : Nat → Int64} {n : Nat} (z : zJ3 h q n F) (hn : n < 3) : ∃ g, zf_stJ q (nI n) (F n) h = some g ∧ zJ3 g q (n + 1) F ∧ zU q 1 h g := by
  obtain ⟨f, e, hf⟩ := z
  refine ⟨_, zh_stJ e hn (by decide), ⟨_, zh_set_s e, fun i hi => ?_⟩, zU_s e rfl (by omega)⟩
  by_cases c : i = n
  · rw [c]; exact pk_uLs
  · rw [pk_uLn c]; exact hf i (by omega)
/-- a digest taken and kept -/
theorem zdg_keep (w : zWd h now ver tx pr gr) {n : Nat} (hn : n < 3) (z : zJ3 h q n (fun t => zDg (ver now t))) (hq : 177 ≤ q) (hB : zM h ≤ 6800000) : ∃ g1 g, f_ColumnVaultLaw_digest 1 (nI n) h = some (.inl (zDg (ver now n)), g1) ∧ zf_stJ q (nI n) (zDg (ver now n)) g1 = some g ∧ zJ3 g q (n + 1) (fun t => zDg (ver now t)) ∧ zG 820 177 g1.length h g ∧ (∀ p, p < h.length → p ≠ q → g[p]? = h[p]?) := by
  obtain ⟨g1, e1, G1⟩ := zdigest w hn hB
  have z1 := z.G G1 (Or.inr (Nat.zero_le _))
  obtain ⟨g, e2, z2, U2⟩ := z1.st hn
  have hq1 : q < g1.length := by
    obtain ⟨f, e, _⟩ := z1
    exact zlt_of e
  have G2 := zG_U U2 (a := 177) (b := g1.length) hq (by omega)
  refine ⟨g1, g, e1, e2, z2, ((zG0 G1).t G2).w (by omega) (Nat.le_refl _) (Nat.le_refl _), fun p hp hne => ?_⟩
  rw [U2.2.2 p (by omega), G1.2.2 p hp (Or.inr (Nat.zero_le _))]
/-- three digests made -/
theorem zdg3 (r : zR h) (w : zWd h now ver tx pr gr) (hB : zM h ≤ 6700000) : ∃ g1 g2 g3 g4 g5 g6 g7, zf_newa .long 2 (3 : Int32) h = some (h.length, g1) ∧ f_ColumnVaultLaw_digest 1 (0 : Int32) g1 = some (.inl (zDg (ver now 0)), g2) ∧ zf_stJ h.length (0 : Int32) (zDg (ver now 0)) g2 = some g3 ∧ f_ColumnVaultLaw_digest 1 (1 : Int32) g3 = some (.inl (zDg (ver now 1)), g4) ∧ zf_stJ h.length (1 : Int32) (zDg (ver now 1)) g4 = some g5 ∧ f_ColumnVaultLaw_digest 1 (2 : Int32) g5 = some (.inl (zDg (ver now 2)), g6) ∧ zf_stJ h.length (2 : Int32) (zDg (ver now 2)) g6 = some g7 ∧ zR g7 ∧ zWd g7 now ver tx pr gr ∧ zJ3 g7 h.length 3 (fun t => zDg (ver now t)) ∧ zM g7 ≤ zM h + 2500 ∧ h.length < g7.length ∧ (∀ p, p < h.length → g7[p]? = h[p]?) := by
  have hl := zlen (h := h) (by omega)
  have hwl := w.len
  have hn := zh_newJ (g := h) (r := []) (n := 3) (by show h.length + 0 < 600000; have := zM_l (h := h); omega) (by decide)
  rw [List.append_nil] at hn
  have hn : zf_newa .long 2 (3 : Int32) h = some (h.length, h ++ [.inl (2, 3, .inr (.inl fun _ => 0))]) := hn
  have G1 : zG 15 0 0 h (h ++ [.inl (2, 3, .inr (.inl fun _ => 0))]) := zG_app (c := .inl (2, 3, .inr (.inl fun _ => 0)))
  have z1 : zJ3 (h ++ [.inl (2, 3, .inr (.inl fun _ => 0))]) h.length 0 (fun t => zDg (ver now t)) := ⟨_, zG_end, fun i hi => absurd hi (Nat.not_lt_zero _)⟩
  generalize h ++ [(.inl (2, 3, .inr (.inl fun _ => 0)) : zx_E)] = g1 at hn G1 z1
  have w1 := w.G G1 (Or.inr (by decide))
  have r1 := r.G G1 (Or.inr rfl)
  have m1 := G1.m
  have l1 := zlt_of z1.choose_spec.1
  obtain ⟨g2, g3, e2, e3, z3, G3, F3⟩ := zdg_keep w1 (n := 0) (by decide) z1 hwl (by omega)
  have w3 := w1.G G3 (Or.inl (Nat.le_refl _))
  have r3 := r1.G G3 (Or.inl (by decide))
  have m3 := G3.m
  have l3 := G3.l
  obtain ⟨g4, g5, e4, e5, z5, G5, F5⟩ := zdg_keep w3 (n := 1) (by decide) z3 hwl (by omega)
  have w5 := w3.G G5 (Or.inl (Nat.le_refl _))
  have r5 := r3.G G5 (Or.inl (by decide))
  have m5 := G5.m
  have l5 := G5.l
  obtain ⟨g6, g7, e6, e7, z7, G7, F7⟩ := zdg_keep w5 (n := 2) (by decide) z5 hwl (by omega)
  have w7 := w5.G G7 (Or.inl (Nat.le_refl _))
  have r7 := r5.G G7 (Or.inl (by decide))
  have m7 := G7.m
  have l7 := G7.l
  refine ⟨g1, g2, g3, g4, g5, g6, g7, hn, e2, e3, e4, e5, e6, e7, r7, w7, z7, by omega, by omega, fun p hp => ?_⟩
  rw [F7 p (by omega) (by omega), F5 p (by omega) (by omega), F3 p (by omega) (by omega), G1.2.2 p hp (Or.inr (Nat.zero_le _))]
/-- digests asked again: as they were -/
theorem zbk334 (w : zWd h now ver tx pr gr) (r : zR h) {F : Nat → Int64} (z : zJ3 h q 3 F) (hF : ∀ t, t < 3 → zDg (ver now t) = F t) (hq : 177 ≤ q) : ∀ n i h, zWd h now ver tx pr gr → zR h → zJ3 h q 3 F → i ≤ 3 → 3 - i < n → zM h + 820 * (3 - i) ≤ 6800000 → ∃ g, f_ColumnVaultLaw_isBack_334 n 1 q (nI i) h = some (.inl 1, g) ∧ zWd g now ver tx pr gr ∧ zR g ∧ zM g ≤ zM h + 820 * (3 - i) := by
  intro n
  induction n with
  | zero => intro c _ _ _ _ _ hn; exact absurd hn (Nat.not_lt_zero _)
  | succ n ih =>
    intro i h w r z hi hn hB
    unfold f_ColumnVaultLaw_isBack_334
    rcases Nat.lt_or_ge i 3 with hlt | hge
    · obtain ⟨g1, e1, G1⟩ := zdigest w hlt (by omega)
      have m1 := G1.m
      obtain ⟨g, e2, w2, r2, m2⟩ := ih (i + 1) g1 (w.G G1 (Or.inr (by decide))) (r.G G1 (Or.inr rfl)) (z.G G1 (Or.inr (Nat.zero_le _))) hlt (by omega) (by omega)
      refine ⟨g, ?_, w2, r2, by omega⟩
      rw [if_neg (show ¬ (3 : Int32) ≤ nI i from nI_ge (b := 3) hlt (by decide)), ze_b3 e1, ze_b ((z.G G1 (Or.inr (Nat.zero_le _))).ld hlt), if_pos (hF i hlt), nI_1]
      exact e2
    · rw [if_pos (show (3 : Int32) ≤ nI i from nI_le (a := 3) hge (by omega))]
      exact ⟨h, rfl, w, r, by omega⟩
theorem zbk284 {F F' : Nat → Int64} {v0 ch : Nat} (hv : now = v0 + ch + 1) (hch : ch ≤ 11) (hN : now < 90000) (hF : ∀ t, t < 3 → zDg (ver now t) = F t) (hF' : ∀ t, t < 3 → zDg (ver (v0 + ch) t) = F' t) (hq : 177 ≤ q) (hq' : 177 ≤ q') : ∀ n i h, zWd h now ver tx pr gr → zR h → zJ3 h q 3 F → zJ3 h q' 3 F' → i ≤ 3 → 3 - i < n → zM h + 820 * (3 - i) + 2460 ≤ 6800000 → ∃ g, f_ColumnVaultLaw_isBack_284 n 1 (nI v0) q (nI ch) q' (nI i) h = some (.inl 1, g) ∧ zWd g (now + 1) (zvx ver now (v0 + ch)) tx pr gr ∧ zR g ∧ zM g ≤ zM h + 820 * (3 - i) + 2460 := by
  intro n
  induction n with
  | zero => intro c _ _ _ _ _ _ hn; exact absurd hn (Nat.not_lt_zero _)
  | succ n ih =>
    intro i h w r z z' hi hn hB
    unfold f_ColumnVaultLaw_isBack_284
    rcases Nat.lt_or_ge i 3 with hlt | hge
    · obtain ⟨g1, e1, G1⟩ := zdigest w hlt (by omega)
      have m1 := G1.m
      obtain ⟨g, e2, w2, r2, m2⟩ := ih (i + 1) g1 (w.G G1 (Or.inr (by decide))) (r.G G1 (Or.inr rfl)) (z.G G1 (Or.inr (Nat.zero_le _))) (z'.G G1 (Or.inr (Nat.zero_le _))) hlt (by omega) (by omega)
      refine ⟨g, ?_, w2, r2, by omega⟩
      rw [if_neg (show ¬ (3 : Int32) ≤ nI i from nI_ge (b := 3) hlt (by decide)), ze_b3 e1, ze_b ((z.G G1 (Or.inr (Nat.zero_le _))).ld hlt), if_pos (hF i hlt), nI_1]
      exact e2
    · obtain ⟨g1, e1, w1, U1⟩ := w.back (by omega) (v := v0 + ch) (by omega) (by omega)
      have r1 := r.U U1
      have z1 := z'.G (zU_G U1) (Or.inr (by omega))
      have m1 := zU_m U1
      obtain ⟨g, e2, w2, r2, m2⟩ := zbk334 w1 r1 z1 (fun t ht => by
        show zDg (zvx ver now (v0 + ch) (now + 1) t) = F' t
        unfold zvx
        rw [if_pos rfl]
        exact hF' t ht) hq' zF 0 g1 w1 r1 z1 (Nat.zero_le _) (by unfold zF; omega) (by omega)
      rw [nI_0] at e2
      refine ⟨g, ?_, w2, r2, by omega⟩
      have e3 : nI v0 + nI ch + (2 : Int32) = nI (now + 1) := by
        rw [nI_add, show (2 : Int32) = nI 2 from rfl, nI_add]; congr 1; omega
      rw [if_pos (show (3 : Int32) ≤ nI i from nI_le (a := 3) hge (by omega)), ze_b w.is, e3, nI_add, ze_b3 e1, if_pos rfl]
      exact e2
/-- what a run of changes keeps -/
def zKe (ver0 : Nat → Nat → zT) (v0 : Nat) (now : Nat) (ver : Nat → Nat → zT) : Prop := (∀ t, ver v0 t = ver0 v0 t) ∧ ∀ t, t < 3 → (ver now t).nc = (ver0 v0 t).nc ∧ (ver now t).kd = (ver0 v0 t).kd ∧ (ver now t).nr = (ver0 v0 t).nr
theorem zKe.c (x : zKe ver0 v0 now ver) (hv : v0 ≤ now) {T : zT} (hT : T.nc = (ver now t).nc ∧ T.kd = (ver now t).kd ∧ T.nr = (ver now t).nr) : zKe ver0 v0 (now + 1) (zvc ver now t T) := by
  refine ⟨fun t' => (zvc_v hv).trans (x.1 t'), fun t' ht' => ?_⟩
  by_cases c : t' = t
  · rw [c, zvc_t, hT.1, hT.2.1, hT.2.2, ← c]
    exact x.2 t' ht'
  · rw [zvc_o c]
    exact x.2 t' ht'
theorem zbk147 (w : zWd h now ver tx pr gr) {K : Nat → Nat → Int32 → Nat → Int32 → Int32 → zx_H → Option ((Int32 ⊕ Nat) × zx_H)} {k : Nat} (hv : now = v0 + k + 1) {p6 : Int32} (hp : ¬ p6 < 0) {p3 : Nat} {p4 : Int32} : f_ColumnVaultLaw_isBack_147 K 1 0 (nI v0) p3 p4 (nI k) p6 h = K 1 0 (nI v0) p3 p4 (nI (k + 1)) h := by
  have e3 : nI now = nI v0 + nI k + (1 : Int32) := by
    rw [nI_add, show (1 : Int32) = nI 1 from rfl, nI_add]; congr 1
  unfold f_ColumnVaultLaw_isBack_147
  rw [if_neg hp, ze_b w.is, ze_b2 w.version, if_pos e3, nI_1]
end ZBK

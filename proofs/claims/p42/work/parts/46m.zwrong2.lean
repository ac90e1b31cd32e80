/-! ===== isWrong ===== -/
section ZWB
variable {h g j : zx_H} {now : Nat} {ver : Nat → Nat → zT} {tx : List Nat} {pr : Nat × (Nat → Nat) × (Nat → Int32)} {gr : zT × Nat × Nat × (Nat → Int64) × (Nat → Nat → Bool)} {q pt a m k t p n i : Nat} {w s u u1 u2 : List Nat} {T : zT}
/-- what isWrong leaves -/
def zWr (now : Nat) (ver : Nat → Nat → zT) (pr : Nat × (Nat → Nat) × (Nat → Int32)) (gr : zT × Nat × Nat × (Nat → Int64) × (Nat → Nat → Bool)) (h : zx_H) (k : Nat) (x : Option ((Int32 ⊕ Nat) × zx_H)) : Prop := ∃ g tx', x = some (.inl 1, g) ∧ zR g ∧ zWd g now ver tx' pr gr ∧ zM g ≤ zM h + k
theorem zWr_m {h' : zx_H} {k' : Nat} {x : Option ((Int32 ⊕ Nat) × zx_H)} (a : zWr now ver pr gr h' k' x) (hm : zM h' + k' ≤ zM h + k) : zWr now ver pr gr h k x := by
  obtain ⟨g, x', a1, a2, a3, a4⟩ := a
  exact ⟨g, x', a1, a2, a3, by omega⟩
/-- text u has fault (kd, pl) -/
def zFt (T : zT) (u : List Nat) (kd : Nat) (pl : Int32) : Prop := ∃ m, zpW (ztk u) T = (m, .inr (kd, pl)) ∧ m ≤ 40
theorem zwr580 (r : zR h) (w : zWd h now ver tx pr gr) (ht : t < 3) {lit : Nat} (hl : zLit lit u) (hu : u.length ≤ 160) (hc : ∀ c ∈ u, 1 ≤ c ∧ c ≤ 255) (hz : zFt (ver now t) u 3 5) (hB : zM h ≤ 6800000) : zWr now ver pr gr h 2000 (f_ColumnVaultLaw_isWrong_580 1 (nI t) 1 lit h) := by
  obtain ⟨m, ez, hm⟩ := hz
  obtain ⟨g1, e1, w1, G1⟩ := w.says (p := lit) (s := u) (fun g' G' => by
    have mm := G'.m
    exact zTx.cq (hl.tx (zlen (h := g') (by omega))) (fun f => hl.kd (zlen (h := g') (by omega)) f)) hu hc
  have m1 := G1.m
  obtain ⟨g2, e2, w2, G2⟩ := w1.errorKind ht (by rw [ez]; show zM g1 + 20 * m ≤ _; omega)
  rw [ez] at e2 G2
  have e2 : f_ColumnVault_errorKind 1 (nI t) g1 = some (.inl 3, g2) := e2
  have G2 : zG (20 * m + 100) 150 154 g1 g2 := G2
  have m2 := G2.m
  obtain ⟨g3, e3, w3, G3⟩ := w2.errorPlace ht (by rw [ez]; show zM g2 + 20 * m ≤ _; omega)
  rw [ez] at e3 G3
  have e3 : f_ColumnVault_errorPlace 1 (nI t) g2 = some (.inl 5, g3) := e3
  have G3 : zG (20 * m + 100) 150 154 g2 g3 := G3
  have m3 := G3.m
  refine ⟨g3, u, ?_, ((r.G G1 (Or.inl (by decide))).G G2 (Or.inl (by decide))).G G3 (Or.inl (by decide)), w3, by omega⟩
  unfold f_ColumnVaultLaw_isWrong_580
  rw [ze_b2 e1, ze_b w1.is, ze_b3 e2, if_neg (fun x => x rfl), ze_b w2.is, ze_b3 e3, if_neg (fun x => x rfl)]
theorem zh_ldA6 {c : Nat} {F : Nat → Option Nat} (e : h[q]? = some (.inl (6, 15, .inr (.inr (.inr (.inr F)))))) (hi : i < 15) (hk : F i = some c) : zf_ldA q (nI i) h = some c := by
  unfold zf_ldA; rw [e]
  have h1 : zx_in (nI i) 15 := vp_in_nI hi (by decide)
  show (if _ then _ else _) = _
  rw [if_pos h1, nI_clamp (by omega), hk]
theorem zwr475 {A1 A2 A3 A4 p1 p2 kd : Nat} {pl p4 : Int32} {F1 F2 : Nat → Option Nat} {f3 f4 : Nat → Int32} (r : zR h) (w : zWd h now ver tx pr gr) (ht : t < 3) (hi : i < 15) (e1 : h[A1]? = some (.inl (6, 15, .inr (.inr (.inr (.inr F1)))))) (e2 : h[A2]? = some (.inl (6, 15, .inr (.inr (.inr (.inr F2)))))) (e3 : h[A3]? = some (.inl (1, 15, .inl f3))) (e4 : h[A4]? = some (.inl (1, 15, .inl f4))) (a3 : 177 ≤ A3) (a4 : 177 ≤ A4) (i1 : F1 i = some p1) (i2 : F2 i = some p2) (i3 : f3 i = nI kd) (i4 : f4 i = pl) (s1 : zSo h p1 u1) (s2 : zSo h p2 u2) (hl1 : u1.length ≤ 30) (hl2 : u2.length ≤ 30) (hc : ∀ c ∈ u1 ++ u2, 1 ≤ c) (hz : zFt (ver now t) (u1 ++ u2) kd pl) (hz0 : zFt (ver now t) [35, 48, 32, 61, 32, 102, 105, 118, 101] 3 5) (hz1 : ¬ p4 = 0 → zFt (ver now t) [35, 49, 32, 61, 32, 53] 3 5) (hB : zM h ≤ 6700000) : zWr now ver pr gr h 9000 (f_ColumnVaultLaw_isWrong_475 1 (nI t) p4 A1 A2 A3 A4 (nI i) h) := by
  have hwl := w.len
  obtain ⟨g1, g2, n1, n2, b2, G2, l2⟩ := zSB_new2 (h := h) (by omega)
  have m2 := G2.m
  obtain ⟨g3, x3, k3, c3, b3, st3, d3⟩ := zSB_str b2 (u := u1) (p := p1) (fun g _ hg hk => by
    have s1' := s1.G G2
    rcases s1 with s1 | s1
    · exact s1.tx (zlen (h := g) (by omega))
    · have : zStr g p1 u1 := by
        obtain ⟨b, x, y, f, c1, c2, c3⟩ := s1
        have := zlt_of c1
        have := zlt_of c2
        exact ⟨b, x, y, f, by rw [hk p1 (by omega) (by omega) (by omega), G2.2.2 p1 (by omega) (Or.inr (Nat.zero_le _))]; exact c1, by rw [hk b (by omega) (by omega) (by omega), G2.2.2 b (by omega) (Or.inr (Nat.zero_le _))]; exact c2, c3⟩
      exact this.tx (zlen (h := g) (by omega))) (by show 0 + _ ≤ _; omega) (by omega)
  have d3 : k3 ≤ 16 ∨ k3 ≤ 2 * (0 + u1.length) := d3
  obtain ⟨y1, y2, y3, y4, y5⟩ := id st3
  have hx3 : h.length ≤ x3 := by omega
  have G3 : zG (48 + 2 * k3 + 10) 0 0 h g3 := st3.fr G2 (Nat.le_refl _) (by omega)
  have m3 := G3.m
  have l3 := G3.l
  have b3 : zSB g3 h.length x3 k3 u1 := b3
  obtain ⟨g4, x4, k4, c4, b4, st4, d4⟩ := zSB_str b3 (u := u2) (p := p2) (fun g _ hg hk => by
    rcases s2 with s2 | s2
    · exact s2.tx (zlen (h := g) (by omega))
    · have : zStr g p2 u2 := by
        obtain ⟨b, x, y, f, c1, c2, c3⟩ := s2
        have := zlt_of c1
        have := zlt_of c2
        exact ⟨b, x, y, f, by rw [hk p2 (by omega) (by omega) (by omega), G3.2.2 p2 (by omega) (Or.inr (Nat.zero_le _))]; exact c1, by rw [hk b (by omega) (by omega) (by omega), G3.2.2 b (by omega) (Or.inr (Nat.zero_le _))]; exact c2, c3⟩
      exact this.tx (zlen (h := g) (by omega))) (by omega) (by omega)
  obtain ⟨z1, z2, z3, z4, z5⟩ := id st4
  have G4 : zG (48 + 2 * k3 + 10 + 2 * k4 + 10) 0 0 h g4 := st4.fr G3 (Nat.le_refl _) hx3
  have m4 := G4.m
  have hlen : (u1 ++ u2).length = u1.length + u2.length := List.length_append
  obtain ⟨g5, g6, rr, e5, e6, w6, G6⟩ := zsb_say b4 (w.G G4 (Or.inr (by decide))) (by omega) hc (by omega) (by omega)
  have m6 := G6.m
  obtain ⟨m, ez, hm⟩ := hz
  obtain ⟨g7, e7, w7, G7⟩ := w6.errorKind ht (by rw [ez]; show zM g6 + 20 * m ≤ _; omega)
  rw [ez] at e7 G7
  have e7 : f_ColumnVault_errorKind 1 (nI t) g6 = some (.inl (nI kd), g7) := e7
  have G7 : zG (20 * m + 100) 150 154 g6 g7 := G7
  have m7 := G7.m
  obtain ⟨g8, e8, w8, G8⟩ := w7.errorPlace ht (by rw [ez]; show zM g7 + 20 * m ≤ _; omega)
  rw [ez] at e8 G8
  have e8 : f_ColumnVault_errorPlace 1 (nI t) g7 = some (.inl pl, g8) := e8
  have G8 : zG (20 * m + 100) 150 154 g7 g8 := G8
  have m8 := G8.m
  obtain ⟨g9, e9, w9, G9⟩ := w8.countNo ht ez (by omega)
  have m9 := G9.m
  have e9 := zask8E (b := 0) (c := 0) w8.is z15 e9
  obtain ⟨g10, e10, w10, G10⟩ := w9.chooseNo ht (how := 0) (by decide) ez (by omega)
  have m10 := G10.m
  have e10 : f_ColumnVault_choose 1 (nI t) (0 : Int32) g9 = some (.inr 15, g10) := e10
  have e10 := zask7E (c := 0) w9.is z15 e10
  have r10 := (((((r.G G4 (Or.inr rfl)).G G6 (Or.inl (by decide))).G G7 (Or.inl (by decide))).G G8 (Or.inl (by decide))).G G9 (Or.inl (by decide))).G G10 (Or.inl (by decide))
  have la1 : zf_ldA A1 (nI i) g2 = some p1 := zh_ldA6 (G2.gt e1 (Or.inr (Nat.zero_le _))) hi i1
  have la2 : zf_ldA A2 (nI i) g3 = some p2 := zh_ldA6 (G3.gt e2 (Or.inr (Nat.zero_le _))) hi i2
  have n3 : A3 ≠ zx_lim := by
    have := zlt_of e3
    have := zlen (h := h) (by omega)
    show A3 ≠ 1000000
    omega
  have n4 : A4 ≠ zx_lim := by
    have := zlt_of e4
    have := zlen (h := h) (by omega)
    show A4 ≠ 1000000
    omega
  have la3 : zf_ldI A3 (nI i) g7 = some (nI kd) := by
    rw [zh_ldI n3 (G7.gt (G6.gt (G4.gt e3 (Or.inr (Nat.zero_le _))) (Or.inr (by omega))) (Or.inr (by omega))) hi (by decide), i3]
  have la4 : zf_ldI A4 (nI i) g8 = some pl := by
    rw [zh_ldI n4 (G8.gt (G7.gt (G6.gt (G4.gt e4 (Or.inr (Nat.zero_le _))) (Or.inr (by omega))) (Or.inr (by omega))) (Or.inr (by omega))) hi (by decide), i4]
  unfold f_ColumnVaultLaw_isWrong_475
  rw [ze_b2 n1, ze_b2 n2, ze_b la1, ze_b b2.is, ze_b2 c3, ze_b la2, ze_b b3.is, ze_b2 c4, ze_b b4.is, ze_b2 e5, ze_b2 e6, ze_b w6.is, ze_b3 e7, ze_b la3, if_neg (fun x => x rfl), ze_b w7.is, ze_b3 e8, ze_b la4, if_neg (fun x => x rfl), ze_b2 e9, if_neg (fun x => x (show zxc 15 = -3000000004 from rfl)), ze_b2 e10, if_pos (show zxc 15 = -3000000004 from rfl)]
  by_cases hp : p4 = 0
  · rw [if_pos hp]
    exact zWr_m (zwr580 r10 w10 ht zl_682 (by decide) (by decide) hz0 (by omega)) (by omega)
  · rw [if_neg hp]
    exact zWr_m (zwr580 r10 w10 ht zl_680 (by decide) (by decide) (hz1 hp) (by omega)) (by omega)
theorem zStr.U {c n' : Nat} {X : (Nat → Int32) ⊕ (Nat → Int64) ⊕ (Nat → UInt32) ⊕ (Nat → UInt64) ⊕ (Nat → Option Nat)} (s : zStr h p u) (e : h[q]? = some (.inl (c, n', X))) (hc : c ≠ 3) (U : zU q 1 h g) : zStr g p u := by
  obtain ⟨b, x, y, f, e1, e2, r⟩ := s
  have n1 : p ≠ q := fun z => by rw [z, e] at e1; cases e1
  have n2 : b ≠ q := fun z => by
    rw [z, e] at e2
    have : c = 3 := by cases e2; rfl
    exact hc this
  exact ⟨b, x, y, f, (U.2.2 p (by omega)).trans e1, (U.2.2 b (by omega)).trans e2, r⟩
end ZWB

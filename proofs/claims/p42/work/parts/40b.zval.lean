/-! ===== drawn texts and values; how values compare ===== -/
section ZVA
variable {h g j : zx_H} {k k' : Nat}
/-- only the draws' cell of what stood may change -/
def zD (k : Nat) (h g : zx_H) : Prop := zG k 0 1 h g
theorem zcast97 : ∀ v, v < 26 → ((((97 : Int32) + nI v)).toUInt32 % 65536).toInt32 = nI (97 + v) := by decide +kernel
/-- one letter behind -/
theorem ztext_step {q a m : Nat} {w : List Nat} {b : Nat} (s : zSB h q a m w) (hq : b ≤ q) (ha : b ≤ a) (hm : m = 16) (hw : w.length < 8) {c : Nat} (hc : c < 128) (hB : zM h ≤ 7000000) : ∃ g, f_StringBuilder_append q (nI c) h = some (q, g) ∧ (∃ a', b ≤ a' ∧ zSB g q a' 16 (w ++ [c])) ∧ h.length ≤ g.length ∧ zM g ≤ zM h + 10 ∧ ∀ p, p < b → g[p]? = h[p]? := by
  obtain ⟨g, a', m', e, s', ⟨x1, x2, x3, x4, x5⟩, x6⟩ := zSB_char s hc (by omega) hB
  have ha2 := s.len
  have hqa : a < h.length ∧ q < h.length := by
    obtain ⟨ml, f, e1, e2, _⟩ := s
    exact ⟨zlt_of e2, zlt_of e1⟩
  have hm' : m' = 16 := by omega
  subst hm'
  subst hm
  exact ⟨g, e, ⟨a', by rcases x4 with x | x <;> omega, s'⟩, x1, by omega, fun p hp => x3 p (by omega) (by omega) (by omega)⟩
theorem ztext35 {q b : Nat} (hq : b ≤ q) (hb : 1 ≤ b) : ∀ n i a m v h, i < n → i + m ≤ 7 → zR h → zSB h q a 16 (zltr m v) → b ≤ a → zwd m v → zM h + 10 * i ≤ 6900000 → b ≤ h.length → ∃ g r m' v', f_ColumnVaultLaw_text_35 n 0 q (nI i) h = some (r, g) ∧ zStr g r (zltr m' v') ∧ zwd m' v' ∧ m' = m + i ∧ zR g ∧ h.length ≤ g.length ∧ zM g ≤ zM h + 10 * i + 44 ∧ (∀ p, 1 ≤ p → p < b → g[p]? = h[p]?) ∧ b ≤ r := by
  intro n
  induction n with
  | zero => intro i _ _ _ _ hn; exact absurd hn (Nat.not_lt_zero _)
  | succ n ih =>
    intro i a m v h hn him hR s ha hw hB hbl
    unfold f_ColumnVaultLaw_text_35
    have his : zf_is 1 q h = some () := by
      obtain ⟨ml, f, e1, _⟩ := s
      exact zh_is e1
    cases i with
    | zero =>
      obtain ⟨g, e, st, G, s'⟩ := zSB_toS s (by omega)
      rw [if_pos (show nI 0 ≤ (0 : Int32) by decide), ze_b his, ze_b2 e]
      exact ⟨g, h.length, m, v, rfl, st, hw, rfl, hR.G G (Or.inr rfl), G.l, by have := G.m; omega, fun p _ hp => G.2.2 p (by omega) (Or.inr (Nat.zero_le _)), hbl⟩
    | succ i =>
      rw [if_neg (nI_nle (by omega) (by omega))]
      -- after the draws: a letter
      have go : ∀ (g0 : zx_H) (u : Nat), u < 26 → zR g0 → zG 0 0 1 h g0 → g0.length = h.length → ∃ g r m' v', (zf_b (zf_is 1 q g0) fun _ => zf_b2 (f_StringBuilder_append q (((((97 : Int32) + nI u)).toUInt32 % 65536).toInt32) g0) fun _ h8 => (f_ColumnVaultLaw_text_35 n) 0 q (nI (i + 1) + (-1 : Int32)) h8) = some (r, g) ∧ zStr g r (zltr m' v') ∧ zwd m' v' ∧ m' = m + (i + 1) ∧ zR g ∧ h.length ≤ g.length ∧ zM g ≤ zM h + 10 * (i + 1) + 44 ∧ (∀ p, 1 ≤ p → p < b → g[p]? = h[p]?) ∧ b ≤ r := by
        intro g0 u hu hR0 G0 hl0
        have s0 : zSB g0 q a 16 (zltr m v) := by
          obtain ⟨ml, f, e1, e2, hr⟩ := s
          exact ⟨ml, f, G0.gt e1 (Or.inr (by omega)), G0.gt e2 (Or.inr (by omega)), hr⟩
        have his0 : zf_is 1 q g0 = some () := by
          obtain ⟨ml, f, e1, _⟩ := s0
          exact zh_is e1
        have hm0 := G0.m
        obtain ⟨g1, e1, ⟨a', ha', s1⟩, x1, x2, x3⟩ := ztext_step s0 hq ha rfl (by rw [zltr_len]; omega) (c := 97 + u) (by omega) (by omega)
        have hR1 : zR g1 := by
          obtain ⟨f, ef⟩ := hR0
          exact ⟨f, by rw [x3 0 (by omega)]; exact ef⟩
        rw [← zltr_add (by omega)] at s1
        obtain ⟨g, r, m', v', e2, y1, y2, y3, y4, y5, y6, y7, y8⟩ := ih i a' (m + 1) (256 * v + (97 + u)) g1 (by omega) (by omega) hR1 s1 ha' (zwd_add hw (by omega) (by omega)) (by omega) (by omega)
        refine ⟨g, r, m', v', ?_, y1, y2, by omega, y4, by omega, by omega, fun p p1 p2 => by rw [y7 p p1 p2, x3 p p2, G0.2.2 p (by omega) (Or.inr p1)], y8⟩
        rw [ze_b his0, zcast97 u hu, ze_b2 e1, pk_m1]
        exact e2
      obtain ⟨d1, g1, hd1, e1, hR1, G1, l1⟩ := zdraw hR (n := 3) (by decide) (by decide)
      rw [show (3 : Int32) = nI 3 from rfl, ze_b2 e1]
      by_cases hz : d1 = 0
      · rw [if_neg (by rw [hz]; decide)]
        obtain ⟨d2, g2, hd2, e2, hR2, G2, l2⟩ := zdraw hR1 (n := 26) (by decide) (by decide)
        rw [show (26 : Int32) = nI 26 from rfl, ze_b2 e2]
        exact go g2 d2 hd2 hR2 (G1.t G2) (by omega)
      · rw [if_pos (nI_ne0 (by omega) (by omega))]
        obtain ⟨d2, g2, hd2, e2, hR2, G2, l2⟩ := zdraw hR1 (n := 3) (by decide) (by decide)

        rw [ze_b2 e2]
        exact go g2 d2 (by omega) hR2 (G1.t G2) (by omega)
theorem ztext (hR : zR h) (hB : zM h ≤ 6800000) (hl1 : 1 ≤ h.length) : ∃ g r m v, f_ColumnVaultLaw_text 0 h = some (r, g) ∧ zStr g r (zltr m v) ∧ zwd m v ∧ 1 ≤ m ∧ m ≤ 7 ∧ zR g ∧ zG 170 0 1 h g := by
  obtain ⟨g0, e0, s0, G0, l0⟩ := zSB_new (h := h) (by omega)
  have m0 := G0.m
  have hnew : ∃ q2 h2, zf_new 1 h = some (q2, h2) ∧ f_StringBuilder_init q2 h2 = some ((), g0) ∧ q2 = h.length := by
    have hl := zlim (h := h) (by omega)
    rw [ze_b2 (zh_newO hl)] at e0
    refine ⟨h.length, _, zh_newO hl, ?_, rfl⟩
    cases hx : f_StringBuilder_init h.length (h ++ [.inr (1, zx_def 1)]) with
    | none => rw [hx] at e0; cases e0
    | some r =>
      obtain ⟨u, g'⟩ := r
      rw [hx] at e0
      have e0 : some (h.length, g') = some (h.length, g0) := e0
      cases e0
      rfl
  obtain ⟨q2, h2, n1, n2, rfl⟩ := hnew
  have hR0 := hR.G G0 (Or.inr rfl)
  have s0 : zSB g0 h.length (h.length + 1) 16 (zltr 0 0) := s0
  obtain ⟨d1, g1, hd1, e1, hR1, G1, l1⟩ := zdraw hR0 (n := 4) (by decide) (by decide)
  have go : ∀ (g2 : zx_H) (u : Nat), u < 7 → zR g2 → zG 0 0 1 g0 g2 → g2.length = g0.length → ∃ g r m v, f_ColumnVaultLaw_text_35 zF 0 h.length ((1 : Int32) + nI u) g2 = some (r, g) ∧ zStr g r (zltr m v) ∧ zwd m v ∧ 1 ≤ m ∧ m ≤ 7 ∧ zR g ∧ zG 170 0 1 h g := by
    intro g2 u hu hR2 G2 l2
    have s2 : zSB g2 h.length (h.length + 1) 16 (zltr 0 0) := by
      obtain ⟨ml, f, x1, x2, hr⟩ := s0
      exact ⟨ml, f, G2.gt x1 (Or.inr (by omega)), G2.gt x2 (Or.inr (by omega)), hr⟩
    have m2 := G2.m
    obtain ⟨g, r, m', v', x1, x2, x3, x4, x5, x6, x7, x8, x9⟩ := ztext35 (q := h.length) (b := h.length) (Nat.le_refl _) hl1 zF (1 + u) (h.length + 1) 0 0 g2 (by unfold zF; omega) (by omega) hR2 s2 (by omega) rfl (by omega) (by omega)
    refine ⟨g, r, m', v', ?_, x2, x3, by omega, by omega, x5, ⟨by omega, by omega, fun p hp hq => ?_⟩⟩
    · rw [show (1 : Int32) = nI 1 from rfl, nI_add]; exact x1
    · rw [x8 p (by omega) hp, G2.2.2 p (by omega) (Or.inr (by omega)), G0.2.2 p hp (Or.inr (Nat.zero_le _))]
  unfold f_ColumnVaultLaw_text
  rw [ze_b2 n1, ze_b2 n2, show (4 : Int32) = nI 4 from rfl, ze_b2 e1]
  by_cases hz : d1 = 0
  · rw [if_neg (by rw [hz]; decide)]
    obtain ⟨d2, g2, hd2, e2, hR2, G2, l2⟩ := zdraw hR1 (n := 7) (by decide) (by decide)
    rw [show (7 : Int32) = nI 7 from rfl, ze_b2 e2]
    exact go g2 d2 hd2 hR2 (G1.t G2) (by omega)
  · rw [if_pos (nI_ne0 (by omega) (by omega))]
    obtain ⟨d2, g2, hd2, e2, hR2, G2, l2⟩ := zdraw hR1 (n := 2) (by decide) (by decide)
    rw [show (2 : Int32) = nI 2 from rfl, ze_b2 e2]
    exact go g2 d2 (by omega) hR2 (G1.t G2) (by omega)
/-! a text's letters as a number -/
theorem zTx.length {p : Nat} {w : List Nat} (t : zTx h p w) : f_String_length p h = some (nI w.length, h) := by
  obtain ⟨t1, t2, ta, t3, t4, t5, t6, t7, -⟩ := t
  have eb0 : narrow .byte (.int 0) = .int 0 := rfl
  unfold f_String_length f_String_coder
  rw [ze_b t3, ze_b t4, ze_b t1, if_neg (by decide), ze_b t2, if_pos eb0, ze_b2 rfl, (zsh0 w.length (by omega)).1]
theorem zchr : ∀ c, c < 128 → (((nI c &&& (255 : Int32))).toUInt32 % 65536).toInt32 = nI c ∧ narrow .char (.int (nI c)) = .int (nI c) := by decide +kernel
theorem zTx.charAt {p : Nat} {w : List Nat} (t : zTx h p w) {i : Nat} (hi : i < w.length) : f_String_charAt p (nI i) h = some (nI (w.getD i 0), h) := by
  obtain ⟨t1, t2, ta, t3, t4, t5, t6, t7, -⟩ := t
  have hm : w.getD i 0 ∈ w := by rw [List.getD_eq_getElem?_getD, List.getElem?_eq_getElem hi]; exact List.getElem_mem hi
  obtain ⟨c1, c2⟩ := zchr _ (t6 _ hm)
  unfold f_String_charAt f_String_isLatin1 f_StringLatin1_charAt f_String_checkIndex f_Preconditions_checkIndex
  have hci : (zf_b2 (if nI i < 0 then none else if nI i < nI w.length then some (nI i, h) else none) fun _ h3 => some ((), h3)) = some ((), h) := by
    rw [if_neg (nI_pos (by omega)), if_pos (nI_lt hi (by omega))]; rfl
  have hl1 : (zf_b (zf_len ta h) fun v1 => zf_b2 (zf_b2 (if nI i < 0 then none else if nI i < v1 then some (nI i, h) else none) fun _ h3 => some ((), h3)) fun _ h3 => zf_b (zf_ldB ta (nI i) h3) fun v4 => if narrow .char (.int ((((v4 &&& (255 : Int32))).toUInt32 % 65536).toInt32)) = .int ((((v4 &&& (255 : Int32))).toUInt32 % 65536).toInt32) then some ((((v4 &&& (255 : Int32))).toUInt32 % 65536).toInt32, h3) else none) = some (nI (w.getD i 0), h) := by
    rw [ze_b t4, ze_b2 hci, ze_b (t5 i hi), c1, if_pos c2]
  rw [ze_b t1, if_neg (by decide), ze_b t2, if_neg (fun x => x rfl), ze_b2 rfl, if_neg (by decide), ze_b t3, ze_b2 hl1, if_pos c2]
theorem zcode4 {p m v : Nat} (t : zTx h p (zltr m v)) (hw : zwd m v) (hm : m ≤ 8) : ∀ n i, i ≤ m → m - i < n → f_ColumnVaultLaw_code_4 n p (lN (v / 256 ^ (m - i))) (nI i) h = some (lN v, h) := by
  intro n
  induction n with
  | zero => intro i _ hn; exact absurd hn (Nat.not_lt_zero _)
  | succ n ih =>
    intro i hi hn
    unfold f_ColumnVaultLaw_code_4
    have tl := t.length
    rw [zltr_len] at tl
    rw [ze_b t.1, ze_b2 tl]
    rcases Nat.lt_or_ge i m with hlt | hge
    · have tc := t.charAt (i := i) (by rw [zltr_len]; exact hlt)
      rw [zltr_get hlt] at tc
      rw [if_neg (nI_ge hlt (by omega)), ze_b t.1, ze_b2 tc, nI_1]
      have hc := zwc_l hw hlt

      have e : (256 : Int64) * lN (v / 256 ^ (m - i)) + (nI (zwc m v i)).toInt64 = lN (v / 256 ^ (m - (i + 1))) := by
        rw [nI_l (by omega), show (256 : Int64) = lN 256 from rfl, lN_mul, lN_add]
        congr 1
        unfold zwc
        have e1 : 256 ^ (m - i) = 256 ^ (m - 1 - i) * 256 := by rw [← Nat.pow_succ]; congr 1; omega
        rw [e1, ← Nat.div_div_eq_div_mul, show m - (i + 1) = m - 1 - i by omega]
        omega
      rw [e]
      exact ih (i + 1) hlt (by omega)
    · have e : i = m := Nat.le_antisymm hi hge
      subst e
      rw [if_pos (nI_le (Nat.le_refl _) (by omega)), Nat.sub_self, Nat.pow_zero, Nat.div_one]
theorem zcode {p m v : Nat} (t : zTx h p (zltr m v)) (hw : zwd m v) (hm : m ≤ 8) : f_ColumnVaultLaw_code p h = some (lN v, h) := by
  have h1 := zcode4 t hw hm zF 0 (Nat.zero_le _) (by unfold zF; omega)
  rw [Nat.sub_zero, Nat.div_eq_of_lt (zwd_lt hw)] at h1
  exact h1
/-- a drawn value is one of the column's kind -/
theorem zvalue (hR : zR h) (hB : zM h ≤ 6800000) (hl1 : 1 ≤ h.length) {kd : Nat} (hk : kd ≤ 1) : ∃ g v, f_ColumnVaultLaw_value 0 (nI kd) h = some (v, g) ∧ zokV kd v ∧ zR g ∧ zG 170 0 1 h g := by
  unfold f_ColumnVaultLaw_value
  rcases Nat.le_one_iff_eq_zero_or_eq_one.mp hk with rfl | rfl
  · rw [if_pos (by decide)]
    obtain ⟨d1, g1, hd1, e1, hR1, G1, l1⟩ := zdraw hR (n := 4) (by decide) (by decide)
    rw [show (4 : Int32) = nI 4 from rfl, ze_b2 e1]
    have hv : ∀ (u s : Nat), u ≤ 2000000 → s ≤ 1000000 → (s : Int) ≤ u + 1000000 → (u : Int) ≤ 1000000 + s → zokV 0 ((nI u - nI s).toInt64) := by
      intro u s hu hs h1 h2
      have e : ((nI u - nI s).toInt64).toInt = (u : Int) - s := by rw [Int32.toInt_toInt64, pk_sub_toInt (by omega) (by omega)]
      exact Or.inl ⟨rfl, by rw [e]; omega, by rw [e]; omega⟩
    by_cases hz : d1 = 0
    · rw [if_neg (by rw [hz]; decide)]
      obtain ⟨d2, g2, hd2, e2, hR2, G2, l2⟩ := zdraw hR1 (n := 2000001) (by decide) (by decide)
      rw [show (2000001 : Int32) = nI 2000001 from rfl, ze_b2 e2]
      exact ⟨g2, _, rfl, hv d2 1000000 (by omega) (by omega) (by omega) (by omega), hR2, (G1.t G2).w (by omega) (Nat.le_refl _) (Nat.le_refl _)⟩
    · rw [if_pos (nI_ne0 (by omega) (by omega))]
      obtain ⟨d2, g2, hd2, e2, hR2, G2, l2⟩ := zdraw hR1 (n := 11) (by decide) (by decide)
      rw [show (11 : Int32) = nI 11 from rfl, ze_b2 e2]
      exact ⟨g2, _, rfl, hv d2 5 (by omega) (by omega) (by omega) (by omega), hR2, (G1.t G2).w (by omega) (Nat.le_refl _) (Nat.le_refl _)⟩
  · obtain ⟨g, r, m, v, e1, st, hw, h0, h7, hR1, G1⟩ := ztext hR hB hl1
    have hm := G1.m
    rw [if_neg (by decide), ze_b2 e1, ze_b2 (zcode (st.tx (zlen (by omega))) hw (by omega))]
    exact ⟨g, _, rfl, Or.inr ⟨rfl, m, v, h0, h7, hw, rfl⟩, hR1, G1⟩
end ZVA

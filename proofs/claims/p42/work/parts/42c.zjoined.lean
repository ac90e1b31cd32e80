/-! ===== isJoined ===== -/
section ZJD
variable {h g : zx_H} {now : Nat} {ver : Nat → Nat → zT} {tx : List Nat} {pr : Nat × (Nat → Nat) × (Nat → Int32)} {gr : zT × Nat × Nat × (Nat → Int64) × (Nat → Nat → Bool)} {t t' c d how : Nat}
theorem zpre_get {α : Type} {d : α} {M L R : List α} {x : α} (h : L = (M ++ [x]) ++ R) : M.length < L.length ∧ L.getD M.length d = x := by
  subst h
  refine ⟨by rw [List.length_append, List.length_append]; show M.length < M.length + 1 + R.length; omega, ?_⟩
  have := zgdA2 (d := d) M ([x] ++ R) 0
  rw [Nat.add_zero] at this
  rw [List.append_assoc, this]
  rfl
theorem zjb_pre {p : Nat → Bool} {how a b : Nat} : ∀ k, ∃ S, zjb p how a (b + k) = zjb p how a b ++ S
  | 0 => ⟨[], (List.append_nil _).symm⟩
  | k + 1 => by
    obtain ⟨S, e⟩ := zjb_pre (p := p) (how := how) (a := a) (b := b) k
    refine ⟨S ++ (if p (b + k) = true ∧ how < 2 then [(a, nI (b + k))] else []), ?_⟩
    show zjb p how a (b + k) ++ (if p (b + k) = true ∧ how < 2 then [(a, nI (b + k))] else []) = _
    rw [e, List.append_assoc]
theorem zja_pre {A B : zT} {c d how i : Nat} : ∀ k, ∃ S, zja A B c d how (i + k) = zja A B c d how i ++ S
  | 0 => ⟨[], (List.append_nil _).symm⟩
  | k + 1 => by
    obtain ⟨S, e⟩ := zja_pre (A := A) (B := B) (c := c) (d := d) (how := how) (i := i) k
    refine ⟨S ++ (if A.ch (i + k) = true then zjr (zjp A B c d (i + k)) how (i + k) B.nr else []), ?_⟩
    show zja A B c d how (i + k) ++ (if A.ch (i + k) = true then zjr (zjp A B c d (i + k)) how (i + k) B.nr else []) = _
    rw [e, List.append_assoc]
theorem zjd139 {L M R : List (Nat × Int32)} (w : zWd h now ver tx (zpl3 L) gr) (ht : t < 3) (ht' : t' < 3) (hc : c < (ver now t).nc) (hd : d < (ver now t').nc) (hk : (ver now t).kd c = (ver now t').kd d) (hh : how ≤ 2) {a : Nat} (ha : a < (ver now t).nr) (hL : L = (M ++ zjr (zjp (ver now t) (ver now t') c d a) how a (ver now t').nr) ++ R) {K : Nat → Int32 → Int32 → Int32 → Int32 → Int32 → Int32 → Int32 → Int32 → zx_H → Option ((Int32 ⊕ Nat) × zx_H)} : ∀ n b, b ≤ (ver now t').nr → (ver now t').nr - b < n → f_ColumnVaultLaw_isJoined_139 K n 1 (nI t) (nI t') (nI c) (nI d) (nI how) (nI L.length) (nI (M ++ zjb (zjp (ver now t) (ver now t') c d a) how a b).length) (nI a) (zVl (ver now t) a c) (zb (decide (∀ b', b' < b → zjp (ver now t) (ver now t') c d a b' = false))) (nI b) h = K 1 (nI t) (nI t') (nI c) (nI d) (nI how) (nI L.length) (nI (M ++ zjr (zjp (ver now t) (ver now t') c d a) how a (ver now t').nr).length) (nI (a + 1)) h := by
  have h40 := (w.T ht').r40
  have h40a := (w.T ht).r40
  have hLl : L.length ≤ 1600 := w.prs.2.2.2
  have hkk : zVl (ver now t) a c = -9000000000 ↔ (ver now t).ky c a = -9000000000 := ztd_mi ((w.F ht).k hc ha)
  intro n
  induction n with
  | zero => intro b _ hn; exact absurd hn (Nat.not_lt_zero _)
  | succ n ih =>
    intro b hb hn
    unfold f_ColumnVaultLaw_isJoined_139
    rw [ze_b w.is, ze_b3 (w.size0 ht')]
    rcases Nat.lt_or_ge b (ver now t').nr with hlt | hge
    · have h1 := ih (b + 1) hlt (by omega)
      -- what the next row asks
      have nop : zjp (ver now t) (ver now t') c d a b = false → zjb (zjp (ver now t) (ver now t') c d a) how a (b + 1) = zjb (zjp (ver now t) (ver now t') c d a) how a b ∧ (decide (∀ b', b' < b + 1 → zjp (ver now t) (ver now t') c d a b' = false)) = (decide (∀ b', b' < b → zjp (ver now t) (ver now t') c d a b' = false)) := by
        intro e
        refine ⟨?_, decide_eq_decide.mpr ⟨fun x b' hb' => x b' (by omega), fun x b' hb' => ?_⟩⟩
        · show _ ++ (if _ then _ else _) = _
          rw [if_neg (fun x => by rw [e] at x; exact absurd x.1 (by decide)), List.append_nil]
        · rcases Nat.lt_or_ge b' b with y | y
          · exact x b' y
          · rw [show b' = b by omega]; exact e
      rw [if_neg (nI_ge hlt (by omega)), ze_b w.is, ze_b3 (w.isChosen ht' hlt)]
      by_cases hch : (ver now t').ch b = true
      · rw [if_neg (zb1 hch)]
        by_cases hm : (ver now t).ky c a = -9000000000
        · have e : zjp (ver now t) (ver now t') c d a b = false := by
            unfold zjp
            rw [decide_eq_false (fun x => x hm), Bool.false_and]
          obtain ⟨e1, e2⟩ := nop e
          rw [e1, e2] at h1
          rw [if_pos (hkk.mpr hm), nI_1]
          exact h1
        · rw [if_neg (fun x => hm (hkk.mp x)), ze_b w.is, ze_b3 (w.get ht' hd hlt)]
          have hinj : zVl (ver now t') b d = zVl (ver now t) a c ↔ (ver now t').ky d b = (ver now t).ky c a := by
            unfold zVl
            rw [hk]
            exact ztd_inj ((w.F ht').k hd hlt) (by rw [← hk]; exact (w.F ht).k hc ha)
          by_cases he : (ver now t').ky d b = (ver now t).ky c a
          · have e : zjp (ver now t) (ver now t') c d a b = true := by
              unfold zjp
              rw [decide_eq_true hm, hch, decide_eq_true he]; rfl
            have e2 : (decide (∀ b', b' < b + 1 → zjp (ver now t) (ver now t') c d a b' = false)) = false := decide_eq_false fun x => by
              have := x b (by omega)
              rw [e] at this; cases this
            rw [e2] at h1
            rw [if_pos (hinj.mpr he)]
            by_cases h2 : how < 2
            · have e1 : zjb (zjp (ver now t) (ver now t') c d a) how a (b + 1) = zjb (zjp (ver now t) (ver now t') c d a) how a b ++ [(a, nI b)] := by
                show _ ++ (if _ then _ else _) = _
                rw [if_pos ⟨e, h2⟩]
              obtain ⟨S, eS⟩ := zjb_pre (p := zjp (ver now t) (ver now t') c d a) (how := how) (a := a) (b := b + 1) ((ver now t').nr - (b + 1))
              rw [show b + 1 + ((ver now t').nr - (b + 1)) = (ver now t').nr by omega, e1] at eS
              have hL2 : ∃ R', L = ((M ++ zjb (zjp (ver now t) (ver now t') c d a) how a b) ++ [(a, nI b)]) ++ R' := by
                rw [hL]
                unfold zjr
                rw [eS]
                exact ⟨S ++ (if (∀ b, b < (ver now t').nr → zjp (ver now t) (ver now t') c d a b = false) ∧ 0 < how then [(a, -1)] else []) ++ R, by simp only [List.append_assoc]⟩
              obtain ⟨R', eR⟩ := hL2
              obtain ⟨g1, g2⟩ := zpre_get (d := (0, 0)) eR
              obtain ⟨q1, q2⟩ := w.pairAt g1
              rw [g2] at q1 q2
              rw [e1, ← List.append_assoc, List.length_append] at h1
              rw [if_neg (show ¬ (2 : Int32) ≤ nI how from nI_ge (b := 2) h2 (by decide)), if_neg (nI_ge g1 (by omega)), ze_b w.is, ze_b3 q1, if_neg (fun x => x rfl), ze_b w.is, ze_b3 q2, if_pos rfl, nI_1, nI_1]
              exact h1
            · have e1 : zjb (zjp (ver now t) (ver now t') c d a) how a (b + 1) = zjb (zjp (ver now t) (ver now t') c d a) how a b := by
                show _ ++ (if _ then _ else _) = _
                rw [if_neg (fun x => h2 x.2), List.append_nil]
              rw [e1] at h1
              rw [if_pos (show (2 : Int32) ≤ nI how from nI_le (a := 2) (by omega) (by omega)), nI_1]
              exact h1
          · have e : zjp (ver now t) (ver now t') c d a b = false := by
              unfold zjp
              rw [decide_eq_false he, Bool.and_false, Bool.and_false]
            obtain ⟨e1, e2⟩ := nop e
            rw [e1, e2] at h1
            rw [if_neg (fun x => he (hinj.mp x)), nI_1]
            exact h1
      · have e : zjp (ver now t) (ver now t') c d a b = false := by
          unfold zjp
          rw [ts_nt hch, Bool.false_and, Bool.and_false]
        obtain ⟨e1, e2⟩ := nop e
        rw [e1, e2] at h1
        rw [if_pos (zbt0 hch), nI_1]
        exact h1
    · have e : b = (ver now t').nr := Nat.le_antisymm hb hge
      subst e
      rw [if_pos (nI_le (Nat.le_refl _) (by omega))]
      have hr : zjr (zjp (ver now t) (ver now t') c d a) how a (ver now t').nr = zjb (zjp (ver now t) (ver now t') c d a) how a (ver now t').nr ++ (if (∀ b, b < (ver now t').nr → zjp (ver now t) (ver now t') c d a b = false) ∧ 0 < how then [(a, -1)] else []) := rfl
      by_cases hal : ∀ b', b' < (ver now t').nr → zjp (ver now t) (ver now t') c d a b' = false
      · rw [if_neg (zb1 (decide_eq_true hal))]
        by_cases h0 : how = 0
        · rw [if_neg (fun x => by omega), List.append_nil] at hr
          rw [if_pos (by rw [h0]; decide), nI_1, hr]
        · rw [if_pos ⟨hal, by omega⟩] at hr
          rw [hr, ← List.append_assoc] at hL
          obtain ⟨g1, g2⟩ := zpre_get (d := (0, 0)) hL
          obtain ⟨q1, q2⟩ := w.pairAt g1
          rw [g2] at q1 q2
          rw [if_neg (nI_nle (by omega) (by omega)), if_neg (nI_ge g1 (by omega)), ze_b w.is, ze_b3 q1, if_neg (fun x => x rfl), ze_b w.is, ze_b3 q2, if_pos rfl, nI_1, nI_1, hr, ← List.append_assoc, List.length_append (as := M ++ _)]
          rfl
      · rw [if_neg (fun x => hal x.1), List.append_nil] at hr
        rw [if_pos (zb0 (decide_eq_false hal)), nI_1, hr]
theorem zjd98 (w : zWd h now ver tx (zpl3 (zja (ver now t) (ver now t') c d how (ver now t).nr)) gr) (ht : t < 3) (ht' : t' < 3) (hc : c < (ver now t).nc) (hd : d < (ver now t').nc) (hk : (ver now t).kd c = (ver now t').kd d) (hh : how ≤ 2) (hB : zM h ≤ 6700000) : ∃ g, zG 320 0 0 h g ∧ ∀ n a, a ≤ (ver now t).nr → (ver now t).nr - a < n → f_ColumnVaultLaw_isJoined_98 n 1 (nI t) (nI t') (nI c) (nI d) (nI how) (nI (zja (ver now t) (ver now t') c d how (ver now t).nr).length) (nI (zja (ver now t) (ver now t') c d how a).length) (nI a) h = some (.inl 1, g) := by
  have h40 := (w.T ht).r40
  have hLl : (zja (ver now t) (ver now t') c d how (ver now t).nr).length ≤ 1600 := w.prs.2.2.2
  have e1 := zask10E (b := 0) (c := 0) w.is (Or.inl rfl) (w.pairNo (i := (zja (ver now t) (ver now t') c d how (ver now t).nr).length) (Nat.le_refl _) (by omega) 0 (by omega))
  have G1 : zG 20 0 0 h (h ++ [.inr (13, [])]) := zG_exc
  generalize h ++ [(.inr (13, []) : zx_E)] = g1 at e1 G1
  have w1 := w.G G1 (Or.inr (by decide))
  have m1 := G1.m
  obtain ⟨g2, e2, G2⟩ := w1.joinErrors ht ht' hc hd hk (by omega)
  refine ⟨g2, (G1.t G2).w (by omega) (Nat.le_refl _) (Nat.le_refl _), ?_⟩
  intro n
  induction n with
  | zero => intro b _ hn; exact absurd hn (Nat.not_lt_zero _)
  | succ n ih =>
    intro a ha hn
    unfold f_ColumnVaultLaw_isJoined_98
    rw [ze_b w.is, ze_b3 (w.size0 ht)]
    rcases Nat.lt_or_ge a (ver now t).nr with hlt | hge
    · have h1 := ih (a + 1) hlt (by omega)
      have hs : zja (ver now t) (ver now t') c d how (a + 1) = zja (ver now t) (ver now t') c d how a ++ (if (ver now t).ch a = true then zjr (zjp (ver now t) (ver now t') c d a) how a (ver now t').nr else []) := rfl
      rw [if_neg (nI_ge hlt (by omega)), ze_b w.is, ze_b3 (w.isChosen ht hlt)]
      by_cases hch : (ver now t).ch a = true
      · rw [if_pos hch] at hs
        obtain ⟨S, eS⟩ := zja_pre (A := ver now t) (B := ver now t') (c := c) (d := d) (how := how) (i := a + 1) ((ver now t).nr - (a + 1))
        rw [show a + 1 + ((ver now t).nr - (a + 1)) = (ver now t).nr by omega, hs] at eS
        have e3 := zjd139 (K := f_ColumnVaultLaw_isJoined_98 n) w ht ht' hc hd hk hh hlt eS zF 0 (Nat.zero_le _) (by have := (w.T ht').r40; unfold zF; omega)
        have e4 : (decide (∀ (b' : Nat), b' < 0 → zjp (ver now t) (ver now t') c d a b' = false)) = true := decide_eq_true fun b' hb' => absurd hb' (Nat.not_lt_zero _)
        rw [e4, nI_0, show zjb (zjp (ver now t) (ver now t') c d a) how a 0 = [] from rfl, List.append_nil, ← hs] at e3
        rw [if_pos (zb1 hch), ze_b w.is, ze_b3 (w.get ht hc hlt)]
        exact e3.trans h1
      · rw [if_neg hch, List.append_nil] at hs
        rw [hs] at h1
        rw [if_neg (fun x => x (zbt0 hch)), nI_1]
        exact h1
    · have e : a = (ver now t).nr := Nat.le_antisymm ha hge
      rw [if_pos (nI_le hge (by omega)), e, if_neg (fun x => x rfl), ze_b2 e1, if_neg (fun x => x (show zxc 13 = -3000000001 from rfl)), ze_b w1.is, ze_b3 e2, if_neg (fun x => x rfl)]
theorem zjoined (r : zR h) (w : zWd h now ver tx pr gr) (ht : t < 3) (ht' : t' < 3) (h1 : 1 ≤ (ver now t).nc) (h1' : 1 ≤ (ver now t').nc) (hA : (ver now t).nr ≤ 35) (hB' : (ver now t').nr ≤ 35) (hB : zM h ≤ 6600000) : ∃ g pr', f_ColumnVaultLaw_isJoined 1 0 (nI t) (nI t') h = some (.inl 1, g) ∧ zR g ∧ zWd g now ver tx pr' gr ∧ zM g ≤ zM h + 400 := by
  have h4 := (w.T ht).c4
  have h4' := (w.T ht').c4
  obtain ⟨c, g1, hc, e1, r1, w1, G1⟩ := zdrawW r w (n := (ver now t).nc) (by omega) (by omega)
  obtain ⟨d, g2, hd, e2, r2, w2, G2⟩ := zdrawW r1 w1 (n := (ver now t').nc) (by omega) (by omega)
  obtain ⟨how, g3, hh, e3, r3, w3, G3⟩ := zdrawW r2 w2 (n := 3) (by decide) (by decide)
  have m1 := G1.m
  have m2 := G2.m
  have m3 := G3.m
  unfold f_ColumnVaultLaw_isJoined
  rw [ze_b w.is, ze_b3 (w.size1 ht), ze_b2 e1, ze_b w1.is, ze_b3 (w1.size1 ht'), ze_b2 e2, show (3 : Int32) = nI 3 from rfl, ze_b2 e3, ze_b w3.is, ze_b3 (w3.kind ht hc), ze_b w3.is, ze_b3 (w3.kind ht' hd)]
  have k1 := (w3.F ht).k1 hc
  have k2 := (w3.F ht').k1 hd
  by_cases hk : (ver now t).kd c = (ver now t').kd d
  · obtain ⟨g4, e4, w4, G4⟩ := w3.join ht ht' hc hd hk (show how ≤ 2 by omega) hA hB' (by omega)
    have m4 := G4.m
    have r4 := r3.G G4 (Or.inl (by decide))
    obtain ⟨g5, G5, e5⟩ := zjd98 w4 ht ht' hc hd hk (show how ≤ 2 by omega) (by omega)
    have m5 := G5.m
    have e5 := e5 zF 0 (Nat.zero_le _) (by have := (w.T ht).r40; unfold zF; omega)
    rw [nI_0, show (zja (ver now t) (ver now t') c d how 0).length = 0 from rfl, nI_0] at e5
    rw [if_pos (by rw [hk]), ze_b w3.is, ze_b3 e4]
    exact ⟨g5, _, e5, r4.G G5 (Or.inr rfl), w4.G G5 (Or.inr (by decide)), by omega⟩
  · rw [if_neg (by rw [nI_eq (by omega) (by omega)]; exact hk)]
    by_cases htt : t = t'
    · subst htt
      have e4 := zask9E (c := (nI d).toInt64) w3.is (Or.inr (Or.inl rfl)) (by
        rw [show ((nI d).toInt64).toInt32 = nI d from Int32.toInt32_toInt64 _]
        exact w3.joinNo ht ht' hc hd hk 0 (by omega))
      have G4 : zG 20 0 0 g3 (g3 ++ [.inr (14, [])]) := zG_exc
      have m4 := G4.m
      rw [if_neg (fun x => x rfl), ze_b2 e4, if_neg (fun x => x (show zxc 14 = -3000000003 from rfl))]
      exact ⟨_, pr, rfl, r3.G G4 (Or.inr rfl), w3.G G4 (Or.inr (by decide)), by omega⟩
    · rw [if_pos (by rw [nI_eq (by omega) (by omega)]; exact htt)]
      exact ⟨g3, pr, rfl, r3, w3, by omega⟩
end ZJD

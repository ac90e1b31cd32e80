/-! ===== a text read as a filter ===== -/
section ZWH
variable {h g : zx_H} {now : Nat} {ver : Nat → Nat → zT} {tx : List Nat} {pr : Nat × (Nat → Nat) × (Nat → Int32)} {gr : zT × Nat × Nat × (Nat → Int64) × (Nat → Nat → Bool)}
theorem zlt1_b {b : Nat → Nat} (hb : ∀ i, b i ≤ 255) (p : Nat) : (zlt1 b p).1.1 ≤ 255 ∧ ((zlt1 b p).1.1 = 35 → (zlt1 b p).1.2.2 = -1 ∨ ∃ c, c < 10 ∧ (zlt1 b p).1.2.2 = lN c) := by
  have h0 := hb p
  have h1 := hb (p + 1)
  unfold zlt1
  by_cases e1 : zsgn (b p) = true
  · rw [if_pos e1]
    exact ⟨h0, fun _ => Or.inl rfl⟩
  · rw [if_neg e1]
    by_cases e2 : b p = 35
    · rw [if_pos e2]
      by_cases e3 : zdg (b (p + 1)) = true
      · rw [if_pos e3]
        have e4 : 48 ≤ b (p + 1) ∧ b (p + 1) ≤ 57 := of_decide_eq_true e3
        refine ⟨by show 35 ≤ 255; decide, fun _ => Or.inr ⟨b (p + 1) - 48, by omega, ?_⟩⟩
        show (nI (b (p + 1)) - 48).toInt64 = _
        rw [show (48 : Int32) = nI 48 from rfl, pk_sub e4.1, nI_l (by omega)]
      · rw [if_neg e3]
        exact ⟨by show 35 ≤ 255; decide, fun _ => Or.inl rfl⟩
    · rw [if_neg e2]
      by_cases e3 : zlr (b p) = true
      · rw [if_pos e3]
        exact ⟨by show 97 ≤ 255; decide, fun x => absurd x (by show ¬ 97 = 35; decide)⟩
      · rw [if_neg e3]
        by_cases e4 : zdg (b p) = true
        · rw [if_pos e4]
          exact ⟨by show 48 ≤ 255; decide, fun x => absurd x (by show ¬ 48 = 35; decide)⟩
        · rw [if_neg e4]
          by_cases e5 : b p = 45 ∧ zdg (b (p + 1)) = true
          · rw [if_pos e5]
            exact ⟨by show 48 ≤ 255; decide, fun x => absurd x (by show ¬ 48 = 35; decide)⟩
          · rw [if_neg e5]
            exact ⟨by show 1 ≤ 255; decide, fun x => absurd x (by show ¬ 1 = 35; decide)⟩
def zLq (t : Nat × Nat × Int64) : Prop := t.1 ≤ 255 ∧ (t.1 = 35 → t.2.2 = -1 ∨ ∃ c, c < 10 ∧ t.2.2 = lN c)
theorem zlx_b {b : Nat → Nat} (hb : ∀ i, b i ≤ 255) {len : Nat} : ∀ n p, ∀ t ∈ zlx b len n p, zLq t
  | 0, _, _, ht => absurd ht List.not_mem_nil
  | n + 1, p, t, ht => by
    unfold zlx at ht
    by_cases e1 : len ≤ p
    · rw [if_pos e1] at ht
      rw [List.mem_singleton.mp ht]
      exact ⟨Nat.zero_le _, fun x => absurd x (by show ¬ 0 = 35; decide)⟩
    · rw [if_neg e1] at ht
      by_cases e2 : b p = 32
      · rw [if_pos e2] at ht
        exact zlx_b hb n (p + 1) t ht
      · rw [if_neg e2] at ht
        rcases List.mem_cons.mp ht with ht | ht
        · rw [ht]; exact zlt1_b hb p
        · exact zlx_b hb n _ t ht
theorem zgdP {α : Type} {d : α} {P : α → Prop} : ∀ (l : List α) (i : Nat), i < l.length → (∀ t ∈ l, P t) → P (l.getD i d)
  | [], _, h, _ => absurd h (Nat.not_lt_zero _)
  | a :: _, 0, _, h => h a (List.mem_cons_self ..)
  | _ :: l, i + 1, hi, h => zgdP l i (Nat.lt_of_succ_lt_succ hi) fun t ht => h t (List.mem_cons_of_mem _ ht)
theorem zTxt.Lb (H : zTxt h tx) : zLb (ztk tx) := by
  intro i
  unfold zfo zvu
  rcases Nat.lt_or_ge i (ztk tx).length with h1 | h1
  · have := zgdP (d := zt0) (P := zLq) (ztk tx) i h1 (zlx_b (fun j => H.b255 j) 161 0)
    rw [if_pos h1]
    refine ⟨this.1, ?_⟩
    by_cases e : ((ztk tx).getD i zt0).1 = 35
    · rcases this.2 e with x | x
      · exact Or.inl x
      · exact Or.inr fun _ => x
    · exact Or.inr fun x => absurd x e
  · rw [zgdT (ztk tx) i h1, if_neg (by omega)]
    exact ⟨Nat.zero_le _, Or.inl rfl⟩
theorem zdef3 : zx_def 3 = [.null, .null, .null, .int 0, .int 0, .int 0, .int 0] := by with_unfolding_all rfl
theorem zRinit {qs : Nat} (hl : h.length + 1 < 600000) : f_FilterReader_init h.length 150 qs (h ++ [.inr (3, zx_def 3)]) = some ((), h ++ [.inr (3, [.ref 150, .ref qs, .ref (h.length + 1), .int 0, .int 0, .int 0, .int (-1)]), .inl (2, 6, .inr (.inl fun _ => 0))]) := by
  have n1 := zh_newJ (g := h) (r := [.inr (3, zx_def 3)]) (n := 6) (by show h.length + 1 < 600000; exact hl) (by decide)
  have n1 : zf_newa .long 2 (6 : Int32) (h ++ [.inr (3, zx_def 3)]) = some (h.length + 1, h ++ [.inr (3, zx_def 3), .inl (2, 6, .inr (.inl fun _ => 0))]) := n1
  rw [zdef3] at n1 ⊢
  unfold f_FilterReader_init
  rw [ze_b2 n1]
  rw [ze_b (zh_putE (k := 2) (by show _ < 7; decide))]
  rw [ze_b (zh_putE (k := 3) (by show _ < 7; decide))]
  rw [ze_b (zh_putE (k := 4) (by show _ < 7; decide))]
  rw [ze_b (zh_putE (k := 5) (by show _ < 7; decide))]
  rw [ze_b (zh_putE (k := 6) (by show _ < 7; decide))]
  rw [ze_b (zh_putE (k := 0) (by show _ < 7; decide))]
  rw [ze_b (zh_putE (k := 1) (by show _ < 7; decide))]
  rfl
/-- the reader's answer -/
def zRw (q n0 : Nat) (T : zT) (g1 g : zx_H) : zR0 → Prop
  | (_, .inl (_, S, k)) => ∃ n, f_FilterReader_readWhole q 148 g1 = some (some n, g) ∧ zf_I 3 5 q g = some 0 ∧ zf_I 3 6 q g = some (-1) ∧ zNo 41 g n g.length k ∧ zf_J 8 1 n g = some (zB S T.nr) ∧ n0 ≤ n
  | (_, .inr e) => f_FilterReader_readWhole q 148 g1 = some (none, g) ∧ zf_I 3 5 q g = some (nI e.1) ∧ zf_I 3 6 q g = some e.2
theorem zWd.read (w : zWd h now ver tx pr gr) {t : Nat} (ht : t < 3) (hB : zM h + 20 * (zpW (ztk tx) (ver now t)).1 ≤ 6900000) : ∃ g1 g, f_ColumnVault_readerOf 1 (nI t) h = some (.inl h.length, g1) ∧ zf_is 3 h.length g1 = some () ∧ zf_is 12 1 g1 = some () ∧ zf_A 12 1 1 g1 = some 148 ∧ zRw h.length h.length (ver now t) g1 g (zpW (ztk tx) (ver now t)) ∧ zWd g now ver tx pr gr ∧ zG (20 * (zpW (ztk tx) (ver now t)).1 + 100) 150 154 h g := by
  have hl := zlen (h := h) (by omega)
  have hM := zM_l (h := h)
  have hwl := w.len
  have hb := zq_b (v := now) ht
  generalize hg1 : h ++ [.inr (3, [.ref 150, .ref (zq now t), .ref (h.length + 1), .int 0, .int 0, .int 0, .int (-1)]), .inl (2, 6, .inr (.inl fun _ => 0))] = g1
  have hg1' : (h ++ [.inr (3, [.ref 150, .ref (zq now t), .ref (h.length + 1), .int 0, .int 0, .int 0, .int (-1)])]) ++ [.inl (2, 6, .inr (.inl fun _ => 0))] = g1 := by rw [← hg1, List.append_assoc]; rfl
  generalize hga : h ++ [.inr (3, [.ref 150, .ref (zq now t), .ref (h.length + 1), .int 0, .int 0, .int 0, .int (-1)])] = ga at hg1'
  have Ga : zG 20 0 0 h ga := by
    rw [← hga]
    refine zG_app.w ?_ (Nat.le_refl _) (Nat.le_refl _)
    show 12 + zt_sz.getD 3 0 ≤ 20
    decide
  have Gb : zG 18 0 0 ga g1 := by rw [← hg1']; exact zG_app (c := .inl (2, 6, .inr (.inl fun _ => 0)))
  have G1 : zG 38 0 0 h g1 := Ga.t Gb
  have la : ga.length = h.length + 1 := by rw [← hga, List.length_append]; rfl
  have l1 : g1.length = h.length + 2 := by rw [← hg1', List.length_append, la]; rfl
  have c1 : g1[h.length]? = some (.inr (3, [.ref 150, .ref (zq now t), .ref (h.length + 1), .int 0, .int 0, .int 0, .int (-1)])) := Gb.gt (by rw [← hga]; exact zG_end) (Or.inr (Nat.zero_le _))
  have c2 : g1[h.length + 1]? = some (.inl (2, 6, .inr (.inl fun _ => 0))) := by rw [← hg1', ← la]; exact zG_end
  have w1 := w.G G1 (Or.inr (by decide))
  have wn := w.G (zG_app (c := .inr (3, zx_def 3)) (a := 0) (b := 0)) (Or.inr (by decide))
  have er : f_ColumnVault_readerOf 1 (nI t) h = some (.inl h.length, g1) := by
    unfold f_ColumnVault_readerOf
    rw [ze_b2 (zh_newO (zlim (by omega))), ze_b (zh_A wn.v rfl), ze_b wn.is, ze_b3 (wn.sheetOf ht), ze_b2 (zRinit (by omega)), hg1]
  obtain ⟨g2, r2, K2, T2, U2⟩ := zrdAll w1.txt w1.tk
  have G2 : zG 0 150 154 g1 g2 := zG_U U2 (by decide) (by decide)
  have R2 : zRd g2 h.length (zq now t) (ver now t) (ztk tx) 0 [] 0 (-1) := ⟨by rw [U2.2.2 _ (by omega)]; exact c1, ⟨_, by rw [U2.2.2 _ (by omega)]; exact c2, fun i hi => absurd hi (Nat.not_lt_zero _)⟩, (w1.T ht).G G2 (Or.inl (by omega)), w.F ht, K2, w.txt.Lb, by omega, hwl, by decide, by decide⟩
  have m2 := G2.m
  have m1 := G1.m
  have l2 : g2.length = g1.length := U2.1
  have GG : zG 38 150 154 h g2 := ((zG0 G1).t G2).w (by omega) (Nat.le_refl _) (Nat.le_refl _)
  have hF := zFok (q := h.length) (qs := zq now t) (T := ver now t) (L := ztk tx) (fk := 0) (fp := -1) 20 0 (by decide) (by decide) g2 0 [] R2
  unfold zpW at hB ⊢
  generalize hz : zpF (ztk tx) (ver now t) 20 0 0 = z at hB hF ⊢
  have start : f_FilterReader_readWhole h.length 148 g1 = zf_b2 (f_FilterReader_readFilter 20 h.length (0 : Int32) g2) (fun v4 h5 =>
      zf_on v4 (
        some (none, h5)
      ) fun q6 =>
        zf_b (zf_A 3 0 h.length h5) fun v7 =>
        zf_b (zf_I 3 4 h.length h5) fun v8 =>
        zf_b (zf_is 11 v7 h5) fun _ =>
        zf_b2 (f_Tokens_formAt v7 v8 h5) fun v9 h10 =>
        if v9 = 0 then
          some ((some q6), h10)
        else
          zf_b (zf_A 3 0 h.length h10) fun v11 =>
          zf_b (zf_I 3 4 h.length h10) fun v12 =>
          zf_b (zf_is 11 v11 h10) fun _ =>
          zf_b2 (f_Tokens_placeAt v11 v12 h10) fun v13 h14 =>
          zf_b (zf_is 3 h.length h14) fun _ =>
          zf_b2 (f_FilterReader_fail h.length (1 : Int32) v13 h14) fun v15 h16 =>
          some (v15, h16)) := by
    unfold f_FilterReader_readWhole
    rw [ze_b (zh_A c1 rfl), ze_b (show zf_is 11 150 g1 = some () from zh_is w1.tk.1.choose_spec), ze_b2 r2, ze_b R2.is]
  have wl2 : ∀ {g3 : zx_H} {k : Nat}, zFr k h.length g2.length g2 g3 → zG k (h.length) (h.length + 2) g2 g3 := fun F => ⟨F.1, F.2.1, fun p hp hq => F.2.2 p hp (by omega) (by omega)⟩
  -- nothing of the object has changed but the tokens
  have fine : ∀ {g3 : zx_H} {k : Nat}, zFr k h.length g2.length g2 g3 → zTkL g3 (ztk tx) → zWd g3 now ver tx pr gr ∧ zG (38 + k) 150 154 h g3 := by
    intro g3 k F K3
    have Gx := wl2 F
    have w2 : zWd g2 now ver tx pr gr := ⟨w1.v.G G2 (by omega), w1.hi.G G2 (by omega), T2, K2.A, w1.prs.G G2 (by omega), w1.grs.G G2 (by omega), w1.ck.G G2 (by omega)⟩
    refine ⟨w2.G Gx (Or.inl hwl), ⟨Nat.le_trans GG.1 F.1, by have := GG.2.1; have := F.2.1; omega, fun p hp hq => ?_⟩⟩
    rw [F.2.2 p (by omega) (by omega) (by omega)]
    exact GG.2.2 p hp hq
  obtain ⟨wd, r⟩ := z
  cases r with
  | inr e =>
    rw [zrb_w2 rfl] at hB ⊢
    have hB : zM h + 20 * wd ≤ 6900000 := hB
    obtain ⟨g3, p', ks', r3, R3, F3⟩ := hF (by show zM g2 + 20 * wd ≤ _; omega)
    obtain ⟨w3, G3⟩ := fine F3 R3.K
    refine ⟨g1, g3, er, zh_is c1, w1.is, zh_A w1.v rfl, ⟨?_, zh_I R3.c rfl, zh_I R3.c rfl⟩, w3, G3.w (by show _ ≤ 20 * wd + 100; omega) (Nat.le_refl _) (Nat.le_refl _)⟩
    have r3 : f_FilterReader_readFilter 20 h.length (0 : Int32) g2 = some (none, g3) := r3
    rw [start, ze_b2 r3]
    rfl
  | inl r =>
    obtain ⟨p', S, k⟩ := r
    rw [zrb_w1 rfl] at hB ⊢
    have hB1 : zM h + 20 * wd ≤ 6900000 := by
      by_cases e : zfo (ztk tx) p' = 0
      · rw [if_pos e] at hB; exact hB
      · rw [if_neg e] at hB; exact hB
    obtain ⟨g3, n, ks', r3, hn, R3, N3, I3, N4, J3, F3⟩ := hF (by show zM g2 + 20 * wd ≤ _; omega)
    have r3 : f_FilterReader_readFilter 20 h.length (0 : Int32) g2 = some (some n, g3) := r3
    have hp20 := R3.p20
    by_cases e : zfo (ztk tx) p' = 0
    · rw [if_pos e]
      obtain ⟨w3, G3⟩ := fine F3 R3.K
      refine ⟨g1, g3, er, zh_is c1, w1.is, zh_A w1.v rfl, ⟨n, ?_, zh_I R3.c rfl, zh_I R3.c rfl, N3, J3, by omega⟩, w3, G3.w (by show _ ≤ 20 * wd + 100; omega) (Nat.le_refl _) (Nat.le_refl _)⟩
      rw [start, ze_b2 r3]
      show zf_b (zf_A 3 0 h.length g3) _ = _
      rw [ze_b (zh_A R3.c rfl), ze_b (zh_I R3.c rfl), ze_b R3.K.is, ze_b2 (R3.K.form (by omega)), e, if_pos (show nI 0 = 0 from rfl)]
    · rw [if_neg e]
      obtain ⟨g4, r4, R4, U4⟩ := R3.fail 1 (zpc (ztk tx) p')
      have hbf := (R3.Lb p').1
      obtain ⟨w4, G4⟩ := fine (F3.t (zFr_U U4)) R4.K
      refine ⟨g1, g4, er, zh_is c1, w1.is, zh_A w1.v rfl, ⟨?_, zh_I R4.c rfl, zh_I R4.c rfl⟩, w4, G4.w (by show _ ≤ 20 * wd + 100; omega) (Nat.le_refl _) (Nat.le_refl _)⟩
      rw [start, ze_b2 r3]
      show zf_b (zf_A 3 0 h.length g3) _ = _
      rw [ze_b (zh_A R3.c rfl), ze_b (zh_I R3.c rfl), ze_b R3.K.is, ze_b2 (R3.K.form (by omega)), if_neg (nI_ne0 (by omega) (by omega)), ze_b (zh_A R3.c rfl), ze_b (zh_I R3.c rfl), ze_b R3.K.is, ze_b2 (R3.K.place (by omega)), ze_b R3.is, ze_b2 r4]
end ZWH

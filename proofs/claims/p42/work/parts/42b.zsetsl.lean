/-! ===== areAlike, areSets ===== -/
section ZSE
variable {h g : zx_H} {now : Nat} {ver : Nat → Nat → zT} {tx : List Nat} {pr : Nat × (Nat → Nat) × (Nat → Int32)} {gr : zT × Nat × Nat × (Nat → Int64) × (Nat → Nat → Bool)} {t t' : Nat}
theorem zOn_self0 (A : zT) : fb_ct (zOn A A) A.nr = 0 := fb_ct_zero.mpr fun r hr => zOn_self A r hr
theorem zareAlike (w : zWd h now ver tx pr gr) (ht : t < 3) (hB : zM h ≤ 6500000) : ∃ g, f_ColumnVaultLaw_areAlike 1 (nI t) h = some (.inl 1, g) ∧ zG 60 0 0 h g := by
  have h40 := (w.T ht).r40
  have hl := zlen (h := h) (by omega)
  obtain ⟨g1, e1, zc1, G1, l1⟩ := w.choice ht (by omega)
  have w1 := w.G G1 (Or.inr (by decide))
  obtain ⟨a0, a1, a2, a3⟩ := w1.alike ht ht ⟨rfl, fun _ _ => rfl⟩
  have o0 := zOn_self0 (ver now t)
  rw [zleft_self] at a0
  rw [o0, Nat.add_zero] at a1
  rw [o0, Nat.sub_zero] at a2
  rw [o0] at a3
  have sz := zc1.size h40 hl
  have d1 : fb_ct (zDf (ver now t)) (ver now t).nr ≤ fb_ct (ver now t).ch (ver now t).nr := fb_ct_sub fun k _ hx => zDf_ch hx
  have d2 := fb_ct_le (ver now t).ch (ver now t).nr
  have d3 := zDf_pos (A := ver now t)
  refine ⟨g1, ?_, G1⟩
  unfold f_ColumnVaultLaw_areAlike
  rw [ze_b3 e1, ze_b w1.is, ze_b3 a1, ze_b w1.is, ze_b3 a0, if_neg (by decide), ze_b w1.is, ze_b3 a2, if_neg (fun x => x rfl), ze_b w1.is, ze_b3 a3, if_neg (by decide), ze_b2 sz, if_neg (nI_nlt d1 (by omega)), ze_b2 sz]
  generalize fb_ct (zDf (ver now t)) (ver now t).nr = d at *
  generalize fb_ct (ver now t).ch (ver now t).nr = s at *
  by_cases hz : s = 0
  · rw [if_pos (by rw [hz]; decide), if_neg (nI_pos (by omega))]
  · have := d3 (by omega)
    rw [if_neg (nI_nle (by omega) (by omega)), if_neg (show ¬ nI d < (1 : Int32) from nI_nlt (b := 1) (by omega) (by omega))]
/-- are the columns of the same kinds? -/
theorem zset24_0 (w : zWd h now ver tx pr gr) (ht : t < 3) (n : Nat) (c : Int32) : f_ColumnVaultLaw_areSets_24 (n + 1) 1 (nI t) (nI t') 0 c h = f_ColumnVaultLaw_areSets_68 1 (nI t) (nI t') 0 h := by
  rw [f_ColumnVaultLaw_areSets_24, ze_b w.is, ze_b3 (w.size1 ht), if_pos (show (0 : Int32) = 0 from rfl), ite_self]
theorem zset24_1 (w : zWd h now ver tx pr gr) (ht : t < 3) (ht' : t' < 3) (en : (ver now t).nc = (ver now t').nc) : ∀ n c, c ≤ (ver now t).nc → (ver now t).nc - c + 1 < n → (∀ d, d < c → (ver now t).kd d = (ver now t').kd d) → f_ColumnVaultLaw_areSets_24 n 1 (nI t) (nI t') 1 (nI c) h = f_ColumnVaultLaw_areSets_68 1 (nI t) (nI t') (if (∀ d, d < (ver now t).nc → (ver now t).kd d = (ver now t').kd d) then 1 else 0) h := by
  have h4 := (w.T ht).c4
  intro n
  induction n with
  | zero => intro c _ hn; exact absurd hn (Nat.not_lt_zero _)
  | succ n ih =>
    intro c hc hn hd
    rw [f_ColumnVaultLaw_areSets_24, ze_b w.is, ze_b3 (w.size1 ht)]
    rcases Nat.lt_or_ge c (ver now t).nc with hlt | hge
    · have k1 := (w.F ht).k1 hlt
      have k2 := (w.F ht').k1 (show c < (ver now t').nc by omega)
      rw [if_neg (nI_ge hlt (by omega)), if_neg (by decide), ze_b w.is, ze_b3 (w.kind ht hlt), ze_b w.is, ze_b3 (w.kind ht' (show c < (ver now t').nc by omega))]
      by_cases e : (ver now t).kd c = (ver now t').kd c
      · rw [if_neg (fun x => x (by rw [e])), nI_1]
        exact ih (c + 1) hlt (by omega) (fun d h1 => by
          rcases Nat.lt_or_ge d c with h2 | h2
          · exact hd d h2
          · rw [show d = c by omega]; exact e)
      · rw [if_pos (by rw [nI_eq (by omega) (by omega)]; exact e), if_neg (fun x => e (x c hlt))]
        cases n with
        | zero => omega
        | succ n => exact zset24_0 w ht n _
    · rw [if_pos (nI_le hge (by omega)), if_pos (fun d h1 => hd d (by omega))]
theorem zset68_0 (w : zWd h now ver tx pr gr) (ht : t < 3) (ht' : t' < 3) (hk : ¬ ((ver now t).nc = (ver now t').nc ∧ ∀ c, c < (ver now t).nc → (ver now t).kd c = (ver now t').kd c)) (hB : zM h ≤ 7000000) : ∃ g, f_ColumnVaultLaw_areSets_68 1 (nI t) (nI t') 0 h = some (.inl 1, g) ∧ zG 20 0 0 h g := by
  have e1 := zask18E (c := 1) w.is (Or.inr (Or.inl rfl)) (w.alikeNo ht ht' hk ((1 : Int64)).toInt32 (by omega))
  refine ⟨_, ?_, zG_exc (ci := 14)⟩
  unfold f_ColumnVaultLaw_areSets_68
  rw [if_neg (fun x => x rfl), ze_b2 e1, if_neg (fun x => x (show zxc 14 = -3000000003 from rfl))]
theorem zset68_1 (w : zWd h now ver tx pr gr) (ht : t < 3) (ht' : t' < 3) (hk : (ver now t).nc = (ver now t').nc ∧ ∀ c, c < (ver now t).nc → (ver now t).kd c = (ver now t').kd c) : f_ColumnVaultLaw_areSets_68 1 (nI t) (nI t') 1 h = some (.inl 1, h) := by
  obtain ⟨a0, a1, a2, a3⟩ := w.alike ht ht' hk
  obtain ⟨b0, b1, b2, b3⟩ := w.alike ht' ht ⟨hk.1.symm, fun c hc => (hk.2 c (by rw [hk.1]; exact hc)).symm⟩
  obtain ⟨-, c1, -, -⟩ := w.alike ht ht ⟨rfl, fun _ _ => rfl⟩
  have o0 := zOn_self0 (ver now t)
  rw [o0, Nat.add_zero] at c1
  have s1 := w.size2 ht
  have s2 := w.size2 ht'
  have m1 := zboth_eq hk.1
  have m2 := zleft_eq hk.1
  have m3 := zOn_le (ver now t) (ver now t')
  have m4 := zOn_le (ver now t') (ver now t)
  have m5 := zleft_ct hk.1
  have m6 := zleft_ct hk.1.symm
  generalize fb_ct (zDf (ver now t)) (ver now t).nr = dA at *
  generalize fb_ct (zDf (ver now t')) (ver now t').nr = dB at *
  generalize fb_ct (zOn (ver now t) (ver now t')) (ver now t).nr = oA at *
  generalize fb_ct (zOn (ver now t') (ver now t)) (ver now t').nr = oB at *
  generalize fb_ct (zTa (ver now t) (ver now t') (ver now t').nr) (ver now t).nr = lA at *
  generalize fb_ct (zTa (ver now t') (ver now t) (ver now t).nr) (ver now t').nr = lB at *
  generalize fb_ct (ver now t).ch (ver now t).nr = sA at *
  generalize fb_ct (ver now t').ch (ver now t').nr = sB at *
  have x1 : nI (dB + oA) = nI (dA + oB) := by congr 1; omega
  have x2 : nI (dB - oB) = nI (dA - oA) := by congr 1; omega
  have x3 : nI oA + nI oB + nI (dA - oA) = nI (dA + oB) := by
    rw [nI_add, nI_add]; congr 1; omega
  have x4 : nI dA = nI oA + nI (dA - oA) := by
    rw [nI_add]; congr 1; omega
  have x5 : nI sA - nI lA = nI sB - nI lB := by
    rw [pk_sub (by omega), pk_sub (by omega)]; congr 1
  unfold f_ColumnVaultLaw_areSets_68
  rw [if_pos (by decide), ze_b w.is, ze_b3 a1, ze_b w.is, ze_b3 a2, ze_b w.is, ze_b3 b1, if_neg (fun x => x x1), ze_b w.is, ze_b3 b2, if_neg (fun x => x x2), ze_b w.is, ze_b3 a3, ze_b w.is, ze_b3 b3, if_neg (fun x => x x3), ze_b w.is, ze_b3 c1, ze_b w.is, ze_b3 a3, if_neg (fun x => x x4), ze_b w.is, ze_b3 s1, ze_b w.is, ze_b3 a0, ze_b w.is, ze_b3 s2, ze_b w.is, ze_b3 b0, if_neg (fun x => x x5)]
theorem zareSets (w : zWd h now ver tx pr gr) (ht : t < 3) (ht' : t' < 3) (hB : zM h ≤ 7000000) : ∃ g, f_ColumnVaultLaw_areSets 1 (nI t) (nI t') h = some (.inl 1, g) ∧ zG 20 0 0 h g := by
  have h4 := (w.T ht).c4
  have h4' := (w.T ht').c4
  unfold f_ColumnVaultLaw_areSets
  rw [ze_b w.is, ze_b3 (w.size1 ht), ze_b w.is, ze_b3 (w.size1 ht')]
  by_cases en : (ver now t).nc = (ver now t').nc
  · have e1 := zset24_1 w ht ht' en zF 0 (Nat.zero_le _) (by unfold zF; omega) (fun d hd => absurd hd (Nat.not_lt_zero _))
    rw [nI_0] at e1
    rw [if_neg (fun x => x (by rw [en])), e1]
    by_cases hk : ∀ d, d < (ver now t).nc → (ver now t).kd d = (ver now t').kd d
    · rw [if_pos hk, zset68_1 w ht ht' ⟨en, hk⟩]
      exact ⟨h, rfl, zG.refl.w (by omega) (Nat.le_refl _) (Nat.le_refl _)⟩
    · rw [if_neg hk]
      exact zset68_0 w ht ht' (fun x => hk x.2) hB
  · rw [if_pos (by rw [nI_eq (by omega) (by omega)]; exact en), show zF = 4999 + 1 from rfl, zset24_0 w ht]
    exact zset68_0 w ht ht' (fun x => en x.1) hB
end ZSE

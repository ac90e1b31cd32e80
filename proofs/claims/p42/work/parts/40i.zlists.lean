/-! ===== the law's lists ===== -/
section ZLI
variable {h g : zx_H} {now : Nat} {ver : Nat → Nat → zT} {tx : List Nat} {pr : Nat × (Nat → Nat) × (Nat → Int32)} {gr : zT × Nat × Nat × (Nat → Int64) × (Nat → Nat → Bool)}
def zOa (h : zx_H) (p n : Nat) (o : Nat → Nat) : Prop := ∃ f, h[p]? = some (.inl (1, n, .inl f)) ∧ ∀ i, i < n → f i = nI (o i)
def zBa (h : zx_H) (p n : Nat) (c : Nat → Bool) : Prop := ∃ f, h[p]? = some (.inl (5, n, .inl f)) ∧ ∀ i, i < n → f i = zb (c i)
theorem zOa.G {p n k a b : Nat} {o : Nat → Nat} (z : zOa h p n o) (G : zG k a b h g) (h1 : p < a ∨ b ≤ p) : zOa g p n o := by
  obtain ⟨f, e, hf⟩ := z
  exact ⟨f, G.gt e h1, hf⟩
theorem zBa.G {p n k a b : Nat} {c : Nat → Bool} (z : zBa h p n c) (G : zG k a b h g) (h1 : p < a ∨ b ≤ p) : zBa g p n c := by
  obtain ⟨f, e, hf⟩ := z
  exact ⟨f, G.gt e h1, hf⟩
theorem zh_stBo {q n i : Nat} {f : Nat → Int32} {b : Bool} (e : h[q]? = some (.inl (5, n, .inl f))) (hi : i < n) (hn : n < 2 ^ 31) : zf_stB q (nI i) (zb b) h = some (h.set q (.inl (5, n, .inl (upd f i (zb b))))) := by
  have hin : zx_in (nI i) n := vp_in_nI hi hn
  have hna : vp_nar .boolean (zb b) = zb b := by cases b <;> rfl
  unfold zf_stB
  rw [e]
  show (if zt_at[5]? = some .boolean ∧ zx_in (nI i) n then some (h.set q (.inl (5, n, .inl (upd f (nI i).toNatClampNeg (vp_nar .boolean (zb b)))))) else _) = _
  rw [if_pos ⟨by decide, hin⟩, nI_clamp (by omega), hna]
theorem zh_ldBo {q n i : Nat} {f : Nat → Int32} (e : h[q]? = some (.inl (5, n, .inl f))) (hi : i < n) (hn : n < 2 ^ 31) : zf_ldB q (nI i) h = some (f i) := by
  have hin : zx_in (nI i) n := vp_in_nI hi hn
  unfold zf_ldB
  rw [e]
  show (if (zt_at[5]? = some .boolean ∨ zt_at[5]? = some .byte) ∧ zx_in (nI i) n then some (f (nI i).toNatClampNeg) else none) = _
  rw [if_pos ⟨Or.inl (by decide), hin⟩, nI_clamp (by omega)]
theorem zBa.ld {p n i : Nat} {c : Nat → Bool} (z : zBa h p n c) (hi : i < n) (hn : n < 2 ^ 31) : zf_ldB p (nI i) h = some (zb (c i)) := by
  obtain ⟨f, e, hf⟩ := z
  rw [zh_ldBo e hi hn, hf i hi]
theorem zBa.len {p n : Nat} {c : Nat → Bool} (z : zBa h p n c) (hp : p ≤ 600000) : zf_len p h = some (nI n) := by
  obtain ⟨f, e, _⟩ := z
  exact zh_len (by show p ≠ 1000000; omega) e rfl
theorem zOa.ld {p n i : Nat} {o : Nat → Nat} (z : zOa h p n o) (hi : i < n) (hn : n < 2 ^ 31) (hp : p ≤ 600000) : zf_ldI p (nI i) h = some (nI (o i)) := by
  obtain ⟨f, e, hf⟩ := z
  rw [zh_ldI (by show p ≠ 1000000; omega) e hi hn, hf i hi]
theorem zOa.len {p n : Nat} {o : Nat → Nat} (z : zOa h p n o) (hp : p ≤ 600000) : zf_len p h = some (nI n) := by
  obtain ⟨f, e, _⟩ := z
  exact zh_len (by show p ≠ 1000000; omega) e rfl
theorem zh_newZ {n : Nat} (hn : n ≤ 100000) (hl : h.length < zx_lim) : zf_newa .boolean 5 (nI n) h = some (h.length, h ++ [.inl (5, n, .inl fun _ => 0)]) := by
  unfold zf_newa
  have h1 : ¬ nI n < 0 ∧ n * componentBytes .boolean ≤ 536870912 ∧ h.length < zx_lim := ⟨nI_pos (by omega), by show n * 1 ≤ _; omega, hl⟩
  rw [nI_clamp (by omega)]
  show (if _ then _ else _) = _
  rw [if_pos h1]
theorem zWd.order (w : zWd h now ver tx pr gr) {t : Nat} (ht : t < 3) (hB : zM h ≤ 7000000) : ∃ g, f_ColumnVaultLaw_order 1 (nI t) h = some (.inl h.length, g) ∧ zOa g h.length (ver now t).nr (ver now t).od ∧ zG 60 0 0 h g ∧ g.length = h.length + 1 := by
  have h40 := (w.T ht).r40
  have hl := zlen (h := h) (by omega)
  have hwl := w.len
  have hn := zh_newI (g := h) (r := []) (n := (ver now t).nr) (by show h.length + 0 < 600000; have := zM_l (h := h); omega) (by omega)
  rw [List.append_nil] at hn
  have hn : zf_newa .int 1 (nI (ver now t).nr) h = some (h.length, h ++ [.inl (1, (ver now t).nr, .inl fun _ => 0)]) := hn
  have G0 : zG (12 + (ver now t).nr) 0 0 h (h ++ [.inl (1, (ver now t).nr, .inl fun _ => 0)]) := zG_app (c := .inl (1, (ver now t).nr, .inl fun _ => 0))
  have key : ∀ n i g f, i ≤ (ver now t).nr → (ver now t).nr - i < n → zWd g now ver tx pr gr → g[h.length]? = some (.inl (1, (ver now t).nr, .inl f)) → (∀ j, j < i → f j = nI ((ver now t).od j)) → ∃ g', f_ColumnVaultLaw_order_11 n 1 (nI t) h.length (nI i) g = some (.inl h.length, g') ∧ zOa g' h.length (ver now t).nr (ver now t).od ∧ zU h.length 1 g g' := by
    intro n
    induction n with
    | zero => intro i _ _ _ hn; exact absurd hn (Nat.not_lt_zero _)
    | succ n ih =>
      intro i g f hi hn wg e hf
      unfold f_ColumnVaultLaw_order_11
      rw [ze_b (zh_len (by show h.length ≠ 1000000; omega) e rfl)]
      rcases Nat.lt_or_ge i (ver now t).nr with hlt | hge
      · have r1 := zh_stI (x := nI ((ver now t).od i)) e hlt (by omega)
        have u1 : zU h.length 1 g (g.set h.length (.inl (1, (ver now t).nr, .inl (upd f i (nI ((ver now t).od i)))))) := zU_s e rfl (by omega)
        obtain ⟨g', r2, z2, u2⟩ := ih (i + 1) _ _ hlt (by omega) (wg.G (zG_U u1 (a := h.length) (b := h.length + 1) (Nat.le_refl _) (Nat.le_refl _)) (Or.inl hwl)) (zh_set_s e) (fun j hj => by
          by_cases c : j = i
          · rw [c, pk_us]
          · rw [pk_un c]; exact hf j (by omega))
        refine ⟨g', ?_, z2, zU_t u1 u2⟩
        rw [if_neg (nI_ge hlt (by omega)), ze_b wg.is, ze_b3 (wg.rowAt ht hlt), ze_b r1, nI_1]
        exact r2
      · have e9 : i = (ver now t).nr := Nat.le_antisymm hi hge
        rw [if_pos (nI_le hge (by omega))]
        exact ⟨g, rfl, ⟨f, e, fun j hj => hf j (by omega)⟩, zU_r⟩
  obtain ⟨g, r, z, u⟩ := key zF 0 _ (fun _ => 0) (Nat.zero_le _) (by unfold zF; omega) (w.G G0 (Or.inr (by decide))) zG_end (fun j hj => absurd hj (Nat.not_lt_zero _))
  have hlen : (h ++ [.inl (1, (ver now t).nr, .inl fun _ => 0)] : zx_H).length = h.length + 1 := List.length_append
  refine ⟨g, ?_, z, ⟨by rw [u.1, hlen]; omega, ?_, fun p hp _ => ?_⟩, by rw [u.1, hlen]⟩
  · unfold f_ColumnVaultLaw_order
    rw [ze_b w.is, ze_b3 (w.size0 ht), ze_b2 hn]
    exact r
  · have h1 := G0.m
    have h2 : zM g = zM (h ++ [.inl (1, (ver now t).nr, .inl fun _ => 0)]) := by unfold zM; rw [u.1, u.2.1]
    omega
  · rw [u.2.2 p (Or.inl hp)]
    exact List.getElem?_append_left hp
theorem zWd.choice (w : zWd h now ver tx pr gr) {t : Nat} (ht : t < 3) (hB : zM h ≤ 7000000) : ∃ g, f_ColumnVaultLaw_choice 1 (nI t) h = some (.inl h.length, g) ∧ zBa g h.length (ver now t).nr (ver now t).ch ∧ zG 60 0 0 h g ∧ g.length = h.length + 1 := by
  have h40 := (w.T ht).r40
  have hl := zlen (h := h) (by omega)
  have hwl := w.len
  have hn := zh_newZ (h := h) (n := (ver now t).nr) (by omega) (zlim (by omega))
  have G0 : zG (12 + (ver now t).nr) 0 0 h (h ++ [.inl (5, (ver now t).nr, .inl fun _ => 0)]) := zG_app (c := .inl (5, (ver now t).nr, .inl fun _ => 0))
  have key : ∀ n i g f, i ≤ (ver now t).nr → (ver now t).nr - i < n → zWd g now ver tx pr gr → g[h.length]? = some (.inl (5, (ver now t).nr, .inl f)) → (∀ j, j < i → f j = zb ((ver now t).ch j)) → ∃ g', f_ColumnVaultLaw_choice_11 n 1 (nI t) h.length (nI i) g = some (.inl h.length, g') ∧ zBa g' h.length (ver now t).nr (ver now t).ch ∧ zU h.length 1 g g' := by
    intro n
    induction n with
    | zero => intro i _ _ _ hn; exact absurd hn (Nat.not_lt_zero _)
    | succ n ih =>
      intro i g f hi hn wg e hf
      unfold f_ColumnVaultLaw_choice_11
      rw [ze_b (zh_len (by show h.length ≠ 1000000; omega) e rfl)]
      rcases Nat.lt_or_ge i (ver now t).nr with hlt | hge
      · have r1 := zh_stBo (b := (ver now t).ch i) e hlt (by omega)
        have u1 : zU h.length 1 g (g.set h.length (.inl (5, (ver now t).nr, .inl (upd f i (zb ((ver now t).ch i)))))) := zU_s e rfl (by omega)
        obtain ⟨g', r2, z2, u2⟩ := ih (i + 1) _ _ hlt (by omega) (wg.G (zG_U u1 (a := h.length) (b := h.length + 1) (Nat.le_refl _) (Nat.le_refl _)) (Or.inl hwl)) (zh_set_s e) (fun j hj => by
          by_cases c : j = i
          · rw [c, pk_us]
          · rw [pk_un c]; exact hf j (by omega))
        refine ⟨g', ?_, z2, zU_t u1 u2⟩
        rw [if_neg (nI_ge hlt (by omega)), ze_b wg.is, ze_b3 (wg.isChosen ht hlt), ze_b r1, nI_1]
        exact r2
      · have e9 : i = (ver now t).nr := Nat.le_antisymm hi hge
        rw [if_pos (nI_le hge (by omega))]
        exact ⟨g, rfl, ⟨f, e, fun j hj => hf j (by omega)⟩, zU_r⟩
  obtain ⟨g, r, z, u⟩ := key zF 0 _ (fun _ => 0) (Nat.zero_le _) (by unfold zF; omega) (w.G G0 (Or.inr (by decide))) zG_end (fun j hj => absurd hj (Nat.not_lt_zero _))
  have hlen : (h ++ [.inl (5, (ver now t).nr, .inl fun _ => 0)] : zx_H).length = h.length + 1 := List.length_append
  refine ⟨g, ?_, z, ⟨by rw [u.1, hlen]; omega, ?_, fun p hp _ => ?_⟩, by rw [u.1, hlen]⟩
  · unfold f_ColumnVaultLaw_choice
    rw [ze_b w.is, ze_b3 (w.size0 ht), ze_b2 hn]
    exact r
  · have h1 := G0.m
    have h2 : zM g = zM (h ++ [.inl (5, (ver now t).nr, .inl fun _ => 0)]) := by unfold zM; rw [u.1, u.2.1]
    omega
  · rw [u.2.2 p (Or.inl hp)]
    exact List.getElem?_append_left hp
/-- how many -/
theorem zBa.size {p n : Nat} {c : Nat → Bool} (z : zBa h p n c) (hn : n ≤ 40) (hp : p ≤ 600000) : f_ColumnVaultLaw_size p h = some (nI (fb_ct c n), h) := by
  have key : ∀ m i, i ≤ n → n - i < m → f_ColumnVaultLaw_size_10 m (nI (fb_ct c i)) p (nI n) (nI i) h = some (nI (fb_ct c n), h) := by
    intro m
    induction m with
    | zero => intro i _ hm; exact absurd hm (Nat.not_lt_zero _)
    | succ m ih =>
      intro i hi hm
      unfold f_ColumnVaultLaw_size_10
      rcases Nat.lt_or_ge i n with hlt | hge
      · have h1 := ih (i + 1) hlt (by omega)
        rw [fb_ct_succ] at h1
        rw [if_neg (nI_ge hlt (by omega)), ze_b (z.ld hlt (by omega)), nI_1]
        by_cases e : c i = true
        · rw [if_pos e] at h1
          rw [if_neg (zb1 e), nI_1]
          exact h1
        · rw [if_neg e] at h1
          rw [if_pos (zbt0 e), Int32.add_zero]
          exact h1
      · have e : i = n := Nat.le_antisymm hi hge
        rw [e, if_pos (nI_le (Nat.le_refl _) (by omega))]
  unfold f_ColumnVaultLaw_size
  rw [ze_b (z.len hp)]
  exact key zF 0 (Nat.zero_le _) (by unfold zF; omega)
theorem zBa.same {p p' n : Nat} {c : Nat → Bool} (z : zBa h p n c) (z' : zBa h p' n c) (hn : n ≤ 40) (hp : p ≤ 600000) (hp' : p' ≤ 600000) : f_ColumnVaultLaw_same p p' h = some (1, h) := by
  have key : ∀ m i, i ≤ n → n - i < m → f_ColumnVaultLaw_same_15 m p p' 1 (nI i) h = some (1, h) := by
    intro m
    induction m with
    | zero => intro i _ hm; exact absurd hm (Nat.not_lt_zero _)
    | succ m ih =>
      intro i hi hm
      unfold f_ColumnVaultLaw_same_15
      rw [ze_b (z.len hp)]
      rcases Nat.lt_or_ge i n with hlt | hge
      · rw [if_neg (nI_ge hlt (by omega)), if_neg (by decide), ze_b (z.ld hlt (by omega)), ze_b (z'.ld hlt (by omega)), if_neg (fun x => x rfl), nI_1]
        exact ih (i + 1) hlt (by omega)
      · rw [if_pos (nI_le hge (by omega)), if_pos (show narrow .boolean (.int 1) = .int 1 from rfl)]
  unfold f_ColumnVaultLaw_same
  rw [ze_b (z.len hp), ze_b (z'.len hp'), if_neg (fun x => x rfl)]
  exact key zF 0 (Nat.zero_le _) (by unfold zF; omega)
end ZLI

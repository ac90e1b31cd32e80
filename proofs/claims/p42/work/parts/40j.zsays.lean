/-! ===== a text said ===== -/
section ZSY
variable {h g : zx_H} {now : Nat} {ver : Nat → Nat → zT} {tx : List Nat} {pr : Nat × (Nat → Nat) × (Nat → Int32)} {gr : zT × Nat × Nat × (Nat → Int64) × (Nat → Nat → Bool)}
/-- what can be read as letters -/
def zCq (h : zx_H) (p : Nat) (w : List Nat) : Prop := fv_4 p h = some (nI w.length, h) ∧ ∀ i, i < w.length → fv_5 p (nI i) h = some (nI (w.getD i 0), h)
theorem zTx.cq {p : Nat} {w : List Nat} (t : zTx h p w) (hk : ∀ {α : Type} (f : Nat → Option α), zf_kd p h f = f 0) : zCq h p w := by
  refine ⟨?_, fun i hi => ?_⟩
  · unfold fv_4
    rw [hk, if_pos rfl]
    exact t.length
  · unfold fv_5
    rw [hk, if_pos rfl]
    exact t.charAt hi
theorem zSB.cq {q a m : Nat} {w : List Nat} (s : zSB h q a m w) (hlen : h.length ≤ 600000) : zCq h q w := by
  have hl := s.len
  obtain ⟨ml, f, e1, e2, h1, h2, h3, h4, h5⟩ := s
  have ha := zlt_of e2
  refine ⟨?_, fun i hi => ?_⟩
  · unfold fv_4
    rw [zh_kd e1, if_neg (by decide), if_pos rfl]
    unfold f_StringBuilder_length f_AbstractStringBuilder_length
    rw [ze_b (zh_is e1)]
    refine ze_b2 (a := nI w.length) (g := h) ?_
    rw [ze_b (zh_I e1 rfl)]
  · have hc : w.getD i 0 < 128 := by
      have : w.getD i 0 ∈ w := by rw [List.getD_eq_getElem?_getD, List.getElem?_eq_getElem hi]; exact List.getElem_mem hi
      exact h5 _ this
    obtain ⟨z1, z2⟩ := zchr _ hc
    have hne : a ≠ zx_lim := by show a ≠ 1000000; omega
    have ld : zf_ldB a (nI i) h = some (nI (w.getD i 0)) := by
      have hin : zx_in (nI i) m := vp_in_nI (show i < m by omega) (by omega)
      unfold zf_ldB
      rw [e2]
      show (if (zt_at[3]? = some .boolean ∨ zt_at[3]? = some .byte) ∧ zx_in (nI i) m then some (f (nI i).toNatClampNeg) else none) = _
      rw [if_pos ⟨Or.inr (by decide), hin⟩, nI_clamp (by omega), h4 i hi]
    have hcap : (if (nI m >>> ((0 : Int32) &&& 31)) < nI w.length then (nI m >>> ((0 : Int32) &&& 31)) else nI w.length) = nI w.length := by
      rw [(zsh0 m (by omega)).1, if_neg (nI_nlt h1 (by omega))]
    have hci : f_String_checkIndex (nI i) (nI w.length) h = some ((), h) := by
      unfold f_String_checkIndex f_Preconditions_checkIndex
      rw [if_neg (nI_pos (by omega)), if_pos (nI_lt hi (by omega))]
      rfl
    have ha2 : f_AbstractStringBuilder_charAt q (nI i) h = some (nI (w.getD i 0), h) := by
      unfold f_AbstractStringBuilder_charAt
      rw [ze_b (zh_I e1 rfl), ze_b (zh_A e1 rfl), ze_b (zh_I e1 rfl), ze_b (zh_len hne e2 rfl), hcap, ze_b2 hci, if_neg (fun x => x rfl), ze_b ld, z1, if_pos z2]
    unfold fv_5
    rw [zh_kd e1, if_neg (by decide), if_pos rfl]
    unfold f_StringBuilder_charAt
    rw [ze_b (zh_is e1), ze_b2 ha2, if_pos z2]
theorem ztk1 : ∀ (w : List Nat) (i : Nat), i < w.length → w.take i ++ [w.getD i 0] = w.take (i + 1)
  | [], _, h => absurd h (Nat.not_lt_zero _)
  | _ :: _, 0, _ => rfl
  | c :: w, i + 1, h => congrArg (fun z => c :: z) (ztk1 w i (Nat.lt_of_succ_lt_succ h))
theorem zWd.says (w : zWd h now ver tx pr gr) {p : Nat} {s : List Nat} (hq : ∀ g : zx_H, zG 0 148 150 h g → zCq g p s) (hl : s.length ≤ 160) (hc : ∀ c ∈ s, 1 ≤ c ∧ c ≤ 255) : ∃ g, f_ColumnVaultLaw_says 1 p h = some ((), g) ∧ zWd g now ver s pr gr ∧ zG 0 148 150 h g := by
  have htl := w.txt.2.2.1
  obtain ⟨g1, e1, w1, U1⟩ := w.clear
  have hneg : ¬ lN tx.length < (0 : Int64) := by
    rw [zl_t, zN_t (by omega), show ((0 : Int64)).toInt = 0 by decide]
    omega
  have key : ∀ n i g, i ≤ s.length → s.length - i < n → zWd g now ver (s.take i) pr gr → zG 0 148 150 h g → ∃ g', f_ColumnVaultLaw_says_9 n 1 p (lN tx.length) (nI i) g = some ((), g') ∧ zWd g' now ver s pr gr ∧ zG 0 148 150 h g' := by
    intro n
    induction n with
    | zero => intro i _ _ hn; exact absurd hn (Nat.not_lt_zero _)
    | succ n ih =>
      intro i g hi hn wg G
      have cq := hq g G
      unfold f_ColumnVaultLaw_says_9
      rw [ze_b2 cq.1]
      rcases Nat.lt_or_ge i s.length with hlt | hge
      · have hm : s.getD i 0 ∈ s := by rw [List.getD_eq_getElem?_getD, List.getElem?_eq_getElem hlt]; exact List.getElem_mem hlt
        have hci := hc _ hm
        have hti : (s.take i).length = i := by rw [List.length_take]; omega
        obtain ⟨g2, e2, w2, U2⟩ := wg.type1 hci.1 hci.2 (by rw [hti]; omega)
        rw [ztk1 s i hlt] at w2
        have ea := zask17 (a := 0) (b := 0) wg.is e2
        obtain ⟨g', e3, w3, G3⟩ := ih (i + 1) g2 hlt (by omega) w2 ((G.t (zG_U U2 (a := 148) (b := 150) (Nat.le_refl _) (Nat.le_refl _))).w (by omega) (Nat.le_refl _) (Nat.le_refl _))
        refine ⟨g', ?_, w3, G3⟩
        have hne : ¬ (nI ((s.take i).length + 1)).toInt64 = (-3000000004 : Int64) := by
          rw [hti, nI_l (by omega)]
          intro x
          have := congrArg Int64.toInt x
          rw [zN_t (by omega), show ((-3000000004 : Int64)).toInt = -3000000004 by decide +kernel] at this
          omega
        rw [if_neg (nI_ge hlt (by omega)), if_neg hneg, ze_b2 (cq.2 i hlt), nI_l (by omega), ze_b2 ea, if_pos hne, nI_1]
        exact e3
      · have e : i = s.length := Nat.le_antisymm hi hge
        rw [if_pos (nI_le hge (by omega))]
        rw [e, List.take_length] at wg
        exact ⟨g, rfl, wg, G⟩
  obtain ⟨g, e2, w2, G2⟩ := key zF 0 g1 (Nat.zero_le _) (by unfold zF; omega) w1 (zG_U U1 (Nat.le_refl _) (Nat.le_refl _))
  refine ⟨g, ?_, w2, G2⟩
  unfold f_ColumnVaultLaw_says
  rw [ze_b w.is, ze_b2 e1, nI_l (by omega)]
  exact e2
end ZSY

/-! ===== the text typed ===== -/
section ZTY
variable {h g : zx_H} {now : Nat} {ver : Nat → Nat → zT} {tx : List Nat} {pr : Nat × (Nat → Nat) × (Nat → Int32)} {gr : zT × Nat × Nat × (Nat → Int64) × (Nat → Nat → Bool)}
theorem zgdL : ∀ (l : List Nat) (c i : Nat), i < l.length → (l ++ [c]).getD i 0 = l.getD i 0
  | [], _, _, h => absurd h (Nat.not_lt_zero _)
  | _ :: _, _, 0, _ => rfl
  | _ :: l, c, i + 1, h => zgdL l c i (Nat.lt_of_succ_lt_succ h)
theorem zgdE : ∀ (l : List Nat) (c : Nat), (l ++ [c]).getD l.length 0 = c
  | [], _ => rfl
  | _ :: l, c => zgdE l c
theorem zgdO : ∀ (l : List Nat) (i : Nat), l.length ≤ i → l.getD i 0 = 0
  | [], _, _ => rfl
  | _ :: _, 0, h => absurd h (Nat.not_succ_le_zero _)
  | _ :: l, i + 1, h => zgdO l i (Nat.le_of_succ_le_succ h)
theorem zTxt.byteAt (H : zTxt h tx) {i : Nat} (hi : i < 2 ^ 30) : f_FilterText_byteAt 148 (nI i) h = some (nI (tx.getD i 0), h) := by
  obtain ⟨h1, ⟨f, h2, h3⟩, h4, h5⟩ := H
  unfold f_FilterText_byteAt
  rw [if_neg (nI_pos (by omega)), ze_b (zh_I h1 rfl)]
  rcases Nat.lt_or_ge i tx.length with hlt | hge
  · have l := zh_ldI (by decide) h2 (show i < 160 by omega) (by decide)
    rw [h3 i hlt] at l
    rw [if_neg (nI_ge hlt (by omega)), ze_b (zh_A h1 rfl), ze_b l]
  · rw [if_pos (nI_le hge (by omega)), zgdO tx i hge]
    rfl
theorem zbyt {c k : Nat} (h : c < 256) (hk : 8 ≤ k) (hk2 : k < 64) : (((lN c).toUInt64 >>> ((nI k).toInt64.toUInt64 &&& Int64.toUInt64 63)).toInt64 &&& (255 : Int64)) = 0 := by
  have h2 : 2 ^ 8 ≤ 2 ^ k := Nat.pow_le_pow_right (by decide) hk
  rw [zN_shr (by omega) hk2, Nat.div_eq_of_lt (by omega), zN_255 (by decide)]
  rfl
theorem zbyt0 {c : Nat} (h : c < 256) : (((lN c).toUInt64 >>> ((nI 0).toInt64.toUInt64 &&& Int64.toUInt64 63)).toInt64 &&& (255 : Int64)) = lN c := by
  rw [zN_shr (by omega) (by decide), Nat.pow_zero, Nat.div_one, zN_255 (by omega), Nat.mod_eq_of_lt h]
theorem zm8 (j : Nat) : nI (j + 8) + (-8 : Int32) = nI j := by
  rw [← nI_add, Int32.add_assoc, show nI 8 + (-8 : Int32) = 0 by decide, Int32.add_zero]
theorem zby_m {c : Nat} (hc : c < 256) (a : Int32) : ∀ m, m ≤ 7 → ∀ n, f_ColumnVault_bytesIn_5 (n + m) (lN c) a (nI (8 * m)) h = f_ColumnVault_bytesIn_5 n (lN c) a (nI 0) h
  | 0, _, _ => rfl
  | m + 1, hm, n => by
    rw [← zby_m hc a m (by omega) n]
    show f_ColumnVault_bytesIn_5 (n + m + 1) (lN c) a (nI (8 * m + 8)) h = _
    rw [f_ColumnVault_bytesIn_5.eq_def]
    show (if nI (8 * m + 8) < 0 then _ else _) = _
    rw [if_neg (nI_pos (by omega)), if_neg (fun x => x (zbyt hc (by omega) (by omega))), zm8, Int32.add_zero]
theorem zbytesIn {c : Nat} (h1 : 1 ≤ c) (hc : c < 256) : f_ColumnVault_bytesIn (lN c) h = some (1, h) := by
  have e := zby_m (h := h) hc 0 7 (by decide) 4993
  have e : f_ColumnVault_bytesIn_5 zF (lN c) 0 56 h = f_ColumnVault_bytesIn_5 (4991 + 1 + 1) (lN c) 0 (nI 0) h := e
  unfold f_ColumnVault_bytesIn
  rw [e]
  rw [f_ColumnVault_bytesIn_5.eq_def]
  show (if nI 0 < 0 then _ else _) = _
  rw [if_neg (by decide), zbyt0 hc, if_pos (show ¬ lN c = (0 : Int64) from fun x => by
    have x : lN c = lN 0 := x
    rw [zN_i (by omega) (by decide)] at x
    omega)]
  rw [f_ColumnVault_bytesIn_5.eq_def]
  show (if nI 0 + (-8 : Int32) < 0 then _ else _) = _
  rw [if_pos (by decide)]
  rfl
theorem zTxt.app (H : zTxt h tx) {c : Nat} (h1 : 1 ≤ c) (h2 : c ≤ 255) (hl : tx.length < 160) : ∃ g, f_FilterText_append 148 (nI c) h = some ((), g) ∧ zTxt g (tx ++ [c]) ∧ zU 148 2 h g := by
  obtain ⟨e1, ⟨f, e2, e3⟩, e4, e5⟩ := H
  have r1 := zh_stI (x := nI c) e2 hl (by decide)
  generalize hh1 : h.set 149 (.inl (1, 160, .inl (upd f tx.length (nI c)))) = h1 at r1
  have c1 := zh_set_k hh1 (by decide) e1
  have a1 := zh_set_r e2 hh1
  have u1 : zU 148 2 h h1 := by rw [← hh1]; exact zU_s e2 rfl (by omega)
  have r2 := zh_put (k := 1) (v := .int (nI (tx.length + 1))) c1 (by show _ < 2; decide)
  generalize hh2 : h1.set 148 (.inr (4, [.ref 149, .int (nI (tx.length + 1))])) = h2
  have r2 : zf_put 4 1 148 (.int (nI (tx.length + 1))) h1 = some h2 := r2.trans (congrArg some hh2)
  have c2 := zh_set_r c1 hh2
  have a2 := zh_set_k hh2 (by decide) a1
  have u2 : zU 148 2 h1 h2 := by rw [← hh2]; exact zU_s c1 rfl (by omega)
  have hlen : (tx ++ [c]).length = tx.length + 1 := List.length_append
  refine ⟨h2, ?_, ⟨by rw [hlen]; exact c2, ⟨_, a2, fun i hi => ?_⟩, by rw [hlen]; exact hl, fun x hx => ?_⟩, zU_t u1 u2⟩
  · unfold f_FilterText_append
    rw [if_neg (nI_ne0 (by omega) (by omega)), ze_b (zh_I e1 rfl), if_neg (show ¬ (160 : Int32) ≤ nI tx.length from nI_ge (b := 160) hl (by decide)), ze_b (zh_A e1 rfl), ze_b (zh_I e1 rfl), ze_b r1, ze_b (zh_I c1 rfl), nI_1, ze_b r2]
  · rw [hlen] at hi
    by_cases e : i = tx.length
    · rw [e, pk_us, zgdE]
    · rw [pk_un e, e3 i (by omega), zgdL tx c i (by omega)]
  · rcases List.mem_append.mp hx with hx | hx
    · exact e5 x hx
    · have : x = c := List.mem_singleton.mp hx
      omega
theorem zap_m {c : Nat} (hc : c < 256) (e0 : zf_is 4 148 h = some ()) : ∀ m, m ≤ 7 → ∀ n, f_FilterText_appendBytes_3 (n + m) 148 (lN c) (nI (8 * m)) h = f_FilterText_appendBytes_3 n 148 (lN c) (nI 0) h
  | 0, _, _ => rfl
  | m + 1, hm, n => by
    rw [← zap_m hc e0 m (by omega) n]
    show f_FilterText_appendBytes_3 (n + m + 1) 148 (lN c) (nI (8 * m + 8)) h = _
    rw [f_FilterText_appendBytes_3.eq_def]
    show (if nI (8 * m + 8) < 0 then _ else _) = _
    have ea : f_FilterText_append 148 ((0 : Int64).toInt32) h = some ((), h) := by
      unfold f_FilterText_append
      rw [if_pos (by decide)]
    rw [if_neg (nI_pos (by omega)), ze_b e0, zbyt hc (by omega) (by omega), ze_b2 ea, zm8]
theorem zTxt.appBytes (H : zTxt h tx) {c : Nat} (h1 : 1 ≤ c) (h2 : c ≤ 255) (hl : tx.length < 160) : ∃ g, f_FilterText_appendBytes 148 (lN c) h = some ((), g) ∧ zTxt g (tx ++ [c]) ∧ zU 148 2 h g := by
  obtain ⟨g, e, H2, U⟩ := H.app h1 h2 hl
  refine ⟨g, ?_, H2, U⟩
  have e9 := zap_m (show c < 256 by omega) (zh_is H.1) 7 (by decide) 4993
  have e9 : f_FilterText_appendBytes_3 zF 148 (lN c) 56 h = f_FilterText_appendBytes_3 (4991 + 1 + 1) 148 (lN c) (nI 0) h := e9
  unfold f_FilterText_appendBytes
  rw [e9]
  rw [f_FilterText_appendBytes_3.eq_def]
  show (if nI 0 < 0 then _ else _) = _
  rw [if_neg (by decide), ze_b (zh_is H.1), zbyt0 (by omega), lN_i, ze_b2 e]
  rw [f_FilterText_appendBytes_3.eq_def]
  show (if nI 0 + (-8 : Int32) < 0 then _ else _) = _
  rw [if_pos (by decide)]
/-- the text alone changed -/
theorem zWd.Tx (w : zWd h now ver tx pr gr) {tx' : List Nat} (hh : zTxt g tx') {k : Nat} (x : zG k 148 150 h g) : zWd g now ver tx' pr gr := ⟨w.v.G x (by omega), w.hi.G x (by omega), hh, w.tk.G x (by omega), w.prs.G x (by omega), w.grs.G x (by omega), w.ck.G x (by omega)⟩
theorem zWd.type1 (w : zWd h now ver tx pr gr) {c : Nat} (h1 : 1 ≤ c) (h2 : c ≤ 255) (hl : tx.length < 160) : ∃ g, f_ColumnVault_type 1 (lN c) h = some (.inl (nI (tx.length + 1)), g) ∧ zWd g now ver (tx ++ [c]) pr gr ∧ zU 148 2 h g := by
  obtain ⟨g, e, H2, U⟩ := w.txt.appBytes h1 h2 hl
  have w' := w.Tx H2 (zG_U U (a := 148) (b := 150) (by omega) (by omega))
  refine ⟨g, ?_, w', U⟩
  have hlen : (tx ++ [c]).length = tx.length + 1 := List.length_append
  have e1 := H2.1
  rw [hlen] at e1
  unfold f_ColumnVault_type
  rw [ze_b (zh_A w.v rfl), ze_b (zh_I w.txt.1 rfl), ze_b2 (zbytesIn h1 (by omega)), nI_1, if_pos (show nI (tx.length + 1) ≤ (160 : Int32) from nI_le (b := 160) hl (by decide)), ze_b (zh_A w.v rfl), ze_b (zh_is w.txt.1), ze_b2 e, ze_b (zh_A w'.v rfl), ze_b (zh_I e1 rfl)]
theorem zWd.clear (w : zWd h now ver tx pr gr) : ∃ g, f_ColumnVault_clearText 1 h = some (nI tx.length, g) ∧ zWd g now ver [] pr gr ∧ zU 148 2 h g := by
  obtain ⟨e1, ⟨f, e2, e3⟩, e4, e5⟩ := w.txt
  have r2 := zh_put (k := 1) (v := .int (0 : Int32)) e1 (by show _ < 2; decide)
  generalize hh2 : h.set 148 (.inr (4, [.ref 149, .int (nI 0)])) = h2
  have r2 : zf_put 4 1 148 (.int (0 : Int32)) h = some h2 := r2.trans (congrArg some hh2)
  have c2 := zh_set_r e1 hh2
  have a2 := zh_set_k hh2 (by decide) e2
  have u2 : zU 148 2 h h2 := by rw [← hh2]; exact zU_s e1 rfl (by omega)
  have H2 : zTxt h2 [] := ⟨c2, ⟨_, a2, fun i hi => absurd hi (Nat.not_lt_zero _)⟩, Nat.zero_le _, fun x hx => by cases hx⟩
  refine ⟨h2, ?_, w.Tx H2 (zG_U u2 (a := 148) (b := 150) (by omega) (by omega)), u2⟩
  unfold f_ColumnVault_clearText
  rw [ze_b (zh_A w.v rfl), ze_b (zh_I e1 rfl), ze_b (zh_A w.v rfl), ze_b r2]
end ZTY

/-! ===== totals ===== -/
section ZTO
variable {h g : zx_H} {q : Nat} {T : zT}
theorem zI0 (n : Nat) (hn : n < 2 ^ 31) : (nI n).toInt64 = lN n := nI_l hn
theorem TS.total0 (S : TS h q T) (w : zWF T) {c : Nat} (hc : c < T.nc) (p : Nat → Bool) : f_ColumnVault_totalOf q (nI c) (zB p T.nr) 0 h = some (.inl (lN (fb_ct (zKn T c p) T.nr)), h) := by
  have h40 := S.r40
  have hle := fb_ct_le (zKn T c p) T.nr
  unfold f_ColumnVault_totalOf
  rw [ze_b S.ok, ze_b2 (S.kindOf hc), if_neg (by decide), if_neg (by decide), if_pos (by decide)]
  unfold f_ColumnVault_totalOf_41
  rw [if_neg (by decide), ze_b S.ok, ze_b2 (S.known w hc), zB_and (by omega), ze_b2 (zB_cnt (by omega) h)]
  show some (Sum.inl (nI (fb_ct (zKn T c p) T.nr)).toInt64, h) = _
  rw [nI_l (by omega)]
theorem TS.total1 (S : TS h q T) {c : Nat} (hc : c < T.nc) (hk : T.kd c = 0) (p : Nat → Bool) : f_ColumnVault_totalOf q (nI c) (zB p T.nr) 1 h = some (.inl (zs (fun r => if T.ky c r ≠ -9000000000 ∧ p r = true then T.ky c r else 0) T.nr), h) := by
  unfold f_ColumnVault_totalOf
  rw [ze_b S.ok, ze_b2 (S.kindOf hc), hk, if_neg (by decide), if_neg (by decide), if_neg (by decide), if_pos (by decide)]
  unfold f_ColumnVault_totalOf_41
  rw [if_pos (by decide), if_neg (by decide), ze_b S.ok, ze_b2 (S.sumOf hc p)]
theorem TS.total1No (S : TS h q T) {c : Nat} (hc : c < T.nc) (hk : T.kd c = 1) (x : Int64) (hB : zM h ≤ 7200000) : f_ColumnVault_totalOf q (nI c) x 1 h = some (.inr 14, h ++ [.inr (14, [])]) := by
  unfold f_ColumnVault_totalOf
  rw [ze_b S.ok, ze_b2 (S.kindOf hc), hk, if_neg (by decide), if_neg (by decide), if_neg (by decide), if_neg (by decide), if_pos (zlim hB)]
theorem TS.total6No (S : TS h q T) {c : Nat} (hc : c < T.nc) (x : Int64) (hB : zM h ≤ 7200000) : f_ColumnVault_totalOf q (nI c) x 6 h = some (.inr 14, h ++ [.inr (14, [])]) := by
  unfold f_ColumnVault_totalOf
  rw [ze_b S.ok, ze_b2 (S.kindOf hc), if_neg (by decide), if_pos (by decide), if_pos (zlim hB)]
/-- least, greatest, middle: w = 2, 3, 4 -/
def zIx (w m : Nat) : Nat := if w = 2 then 0 else if w = 3 then m - 1 else (m - 1) / 2
theorem TS.total2 (S : TS h q T) (w : zWF T) {c : Nat} (hc : c < T.nc) (p : Nat → Bool) {x : Nat} (hx : x = 2 ∨ x = 3 ∨ x = 4) (hB : zM h ≤ 7100000) : ∃ g o m, zRis T c p o m ∧ m ≤ 40 ∧ zG 72 0 0 h g ∧ f_ColumnVault_totalOf q (nI c) (zB p T.nr) (nI x) h = if m = 0 then some (.inr 16, g) else some (.inl (zVl T (o (zIx x m)) c), g) := by
  obtain ⟨g, o, m, f, e, G, ea, hf, hr, hm⟩ := S.rising w hc p hB
  have S2 := S.G G (Or.inr (Nat.zero_le _))
  have hl := zlen (h := h) (by omega)
  have hgm := G.m
  have hne : h.length ≠ zx_lim := by show h.length ≠ 1000000; omega
  have hix : 0 < m → zIx x m < m := by
    intro h0
    unfold zIx
    rcases hx with rfl | rfl | rfl
    · rw [if_pos rfl]; exact h0
    · rw [if_neg (by decide), if_pos rfl]; omega
    · rw [if_neg (by decide), if_neg (by decide)]; omega
  have start : f_ColumnVault_totalOf q (nI c) (zB p T.nr) (nI x) h = f_ColumnVault_totalOf_41 q (nI c) (zB p T.nr) (nI x) h := by
    unfold f_ColumnVault_totalOf
    rw [ze_b S.ok, ze_b2 (S.kindOf hc)]
    rcases hx with rfl | rfl | rfl
    · rw [if_neg (by decide), if_neg (by decide), if_pos (by decide)]
    · rw [if_neg (by decide), if_neg (by decide), if_pos (by decide)]
    · rw [if_neg (by decide), if_neg (by decide), if_pos (by decide)]
  rw [start]
  unfold f_ColumnVault_totalOf_41
  rcases Nat.eq_zero_or_pos m with h0 | h0
  · refine ⟨g ++ [.inr (16, [])], o, m, hr, hm, (G.t zG_exc).w (by omega) (Nat.le_refl _) (Nat.le_refl _), ?_⟩
    rw [if_pos (by rcases hx with rfl | rfl | rfl <;> decide), if_pos (by rcases hx with rfl | rfl | rfl <;> decide), ze_b S.ok, ze_b2 e, if_pos (by rcases hx with rfl | rfl | rfl <;> decide), ze_b (zh_len hne ea rfl), if_neg (by rw [h0]; decide), if_pos (zlim (by omega)), if_pos h0]
  · refine ⟨g, o, m, hr, hm, G.w (by omega) (Nat.le_refl _) (Nat.le_refl _), ?_⟩
    have ld : ∀ i, i < m → zf_ldI h.length (nI i) g = some (nI (o i)) := fun i hi => by
      rw [zh_ldI hne ea hi (by omega), hf i hi]
    have vl : ∀ i, i < m → f_Sheet_valueOf q (nI c) (nI (o i)) g = some (zVl T (o i) c, g) := fun i hi => S2.valueOf w hc (hr.lt hi).1
    have em : nI m - 1 = nI (m - 1) := by
      obtain ⟨j, rfl⟩ : ∃ j, m = j + 1 := ⟨m - 1, by omega⟩
      rw [nI_pred, Nat.add_sub_cancel]
    rw [if_pos (by rcases hx with rfl | rfl | rfl <;> decide), if_pos (by rcases hx with rfl | rfl | rfl <;> decide), ze_b S.ok, ze_b2 e, if_pos (by rcases hx with rfl | rfl | rfl <;> decide), ze_b (zh_len hne ea rfl), if_pos (nI_ne0 h0 (by omega)), ze_b (zh_len hne ea rfl), if_neg (show ¬ m = 0 by omega)]
    rcases hx with rfl | rfl | rfl
    · rw [if_neg (by decide)]
      have l0 := ld 0 h0
      rw [nI_0] at l0
      rw [ze_b l0, ze_b S2.ok, ze_b2 (vl 0 h0)]
      rfl
    · rw [if_pos (by decide), if_neg (by decide), em, ze_b (ld (m - 1) (by omega)), ze_b S2.ok, ze_b2 (vl (m - 1) (by omega))]
      rfl
    · rw [if_pos (by decide), if_pos (by decide), em, show (2 : Int32) = nI 2 from rfl, pk_div (by omega) (by decide) (by decide), ze_b (ld ((m - 1) / 2) (by omega)), ze_b S2.ok, ze_b2 (vl ((m - 1) / 2) (by omega))]
      rfl
theorem TS.total5 (S : TS h q T) (w : zWF T) {c : Nat} (hc : c < T.nc) (p : Nat → Bool) (hB : zM h ≤ 7100000) : ∃ g o m, zRis T c p o m ∧ m ≤ 40 ∧ zG 72 0 0 h g ∧ f_ColumnVault_totalOf q (nI c) (zB p T.nr) 5 h = some (.inl (lN (fb_ct (fun i => decide (i = 0 ∨ T.ky c (o i) ≠ T.ky c (o (i - 1)))) m)), g) := by
  obtain ⟨g, o, m, f, e, G, ea, hf, hr, hm⟩ := S.rising w hc p hB
  have S2 := S.G G (Or.inr (Nat.zero_le _))
  have hl := zlen (h := h) (by omega)
  have hle := fb_ct_le (fun i => decide (i = 0 ∨ T.ky c (o i) ≠ T.ky c (o (i - 1)))) m
  refine ⟨g, o, m, hr, hm, G.w (by omega) (Nat.le_refl _) (Nat.le_refl _), ?_⟩
  unfold f_ColumnVault_totalOf
  rw [ze_b S.ok, ze_b2 (S.kindOf hc), if_neg (by decide), if_neg (by decide), if_pos (by decide)]
  unfold f_ColumnVault_totalOf_41
  rw [if_pos (by decide), if_pos (by decide), ze_b S.ok, ze_b2 e, if_neg (by decide), ze_b S2.ok, ze_b2 (S2.diffKeys hc ea hl hf (fun i hi => (hr.lt hi).1) hm), nI_l (by omega)]
end ZTO
section ZTP
variable {h g : zx_H} {now : Nat} {ver : Nat → Nat → zT} {tx : List Nat} {pr : Nat × (Nat → Nat) × (Nat → Int32)} {gr : zT × Nat × Nat × (Nat → Int64) × (Nat → Nat → Bool)}
theorem zWd.totalE (w : zWd h now ver tx pr gr) {t c : Nat} (ht : t < 3) (hc : c < (ver now t).nc) (x : Int32) {r : Int64 ⊕ Nat} {g : zx_H} (e : f_ColumnVault_totalOf (zq now t) (nI c) (zB (ver now t).ch (ver now t).nr) x h = some (r, g)) : f_ColumnVault_total 1 (nI t) (nI c) x h = some (r, g) := by
  unfold f_ColumnVault_total
  rw [ze_b w.is, ze_b3 (w.sheetWith ht hc), ze_b (w.T ht).J5]
  cases r with
  | inl v => rw [ze_b3 e]
  | inr E => rw [ze_b3E e]
/-! changes -/
theorem zU_G {h g : zx_H} (U : zU 2 146 h g) : zG 0 2 148 h g := zG_U U (by omega) (by omega)
theorem zUq {v t : Nat} (ht : t < 3) {h g : zx_H} (U : zU (zq v t) 4 h g) : zU 2 146 h g := zU_w U (by have := zq_b (v := v) ht; omega) (by have := zq_b (v := v) ht; omega)
theorem zWd.N (w : zWd h (now + 1) (zvx ver now now) tx pr gr) {t : Nat} (ht : t < 3) : TS h (zq (now + 1) t) (ver now t) ∧ zWF (ver now t) := by
  have a := w.T ht
  have b := w.F ht
  rw [zvx_n] at a b
  exact ⟨a, b⟩
theorem zWd.addColumn (w : zWd h now ver tx pr gr) (hn : now < 100000) {t : Nat} (ht : t < 3) (hc : (ver now t).nc < 4) {kd : Nat} (hk : kd ≤ 1) : ∃ g, f_ColumnVault_addColumn 1 (nI t) (nI kd) h = some (.inl (nI (ver now t).nc), g) ∧ zWd g (now + 1) (zvc ver now t (zCol (ver now t) kd)) tx pr gr ∧ zU 2 146 h g := by
  obtain ⟨g1, e1, w1, U1⟩ := w.nextOf hn ht
  obtain ⟨S1, F1⟩ := w1.N ht
  obtain ⟨g2, e2, S2, U2⟩ := S1.col hc kd
  refine ⟨g2, ?_, w1.done ht S2 (F1.col hc hk) U2, zU_t U1 (zUq ht U2)⟩
  have e25 : f_ColumnVault_addColumn_25 1 (nI t) (nI kd) (zq now t) h = some (.inl (nI (ver now t).nc), g2) := by
    unfold f_ColumnVault_addColumn_25
    rw [ze_b (w.T ht).I3, if_pos (show nI (ver now t).nc < (4 : Int32) from nI_lt (b := 4) hc (by decide)), ze_b w.is, ze_b3 e1, ze_b S1.ok, ze_b2 e2]
  unfold f_ColumnVault_addColumn
  rw [ze_b w.is, ze_b3 (w.sheetOf ht)]
  rcases Nat.le_one_iff_eq_zero_or_eq_one.mp hk with rfl | rfl
  · rw [if_pos (by decide)]; exact e25
  · rw [if_neg (by decide), if_pos (by decide)]; exact e25
theorem zWd.addRow (w : zWd h now ver tx pr gr) (hn : now < 100000) {t : Nat} (ht : t < 3) (hr : (ver now t).nr < 40) : ∃ g, f_ColumnVault_addRow 1 (nI t) h = some (.inl (nI (ver now t).nr), g) ∧ zWd g (now + 1) (zvc ver now t (zRow (ver now t))) tx pr gr ∧ zU 2 146 h g := by
  obtain ⟨g1, e1, w1, U1⟩ := w.nextOf hn ht
  obtain ⟨S1, F1⟩ := w1.N ht
  obtain ⟨g2, e2, S2, U2⟩ := S1.row hr
  refine ⟨g2, ?_, w1.done ht S2 (F1.row hr) U2, zU_t U1 (zUq ht U2)⟩
  unfold f_ColumnVault_addRow
  rw [ze_b w.is, ze_b3 (w.sheetOf ht), ze_b (w.T ht).I4, if_pos (show nI (ver now t).nr < (40 : Int32) from nI_lt (b := 40) hr (by decide)), ze_b w.is, ze_b3 e1, ze_b S1.ok, ze_b2 e2]
theorem zWd.addRowNo (w : zWd h now ver tx pr gr) {t : Nat} (ht : t < 3) (hr : (ver now t).nr = 40) (hB : zM h ≤ 7200000) : f_ColumnVault_addRow 1 (nI t) h = some (.inr 15, h ++ [.inr (15, [])]) := by
  unfold f_ColumnVault_addRow
  rw [ze_b w.is, ze_b3 (w.sheetOf ht), ze_b (w.T ht).I4, hr, if_neg (by decide), if_pos (zlim hB)]
theorem zWd.set (w : zWd h now ver tx pr gr) (hn : now < 100000) {t c r : Nat} (ht : t < 3) (hc : c < (ver now t).nc) (hr : r < (ver now t).nr) {k : Int64} (hk : zokK ((ver now t).kd c) k) (hk' : k ≠ -9000000000) : ∃ g, f_ColumnVault_set 1 (nI t) (nI r) (nI c) (ztd ((ver now t).kd c) k) h = some (.inl (zb (decide (k ≠ (ver now t).ky c r))), g) ∧ zWd g (now + 1) (zvc ver now t (zPut (ver now t) c r k)) tx pr gr ∧ zU 2 146 h g := by
  have S := w.T ht
  have k1 := (w.F ht).k1 hc
  obtain ⟨g1, e1, w1, U1⟩ := w.nextOf hn ht
  obtain ⟨S1, F1⟩ := w1.N ht
  obtain ⟨g2, e2, S2, U2⟩ := S1.putKey hc hr k
  refine ⟨g2, ?_, w1.done ht S2 (F1.put hk) U2, zU_t U1 (zUq ht U2)⟩
  unfold f_ColumnVault_set
  rw [ze_b w.is, ze_b3 (w.sheetWith ht hc), ze_b3 (S.reqRow hr), ze_b S.ok, ze_b2 (S.kindOf hc), if_neg (zokV_m (ztd_V hk hk')), ze_b3 (zreqVal (ztd_V hk hk') h)]
  unfold f_ColumnVault_set_38
  rw [ze_b S.ok, ze_b2 (S.keyAt hc hr), ze_b2 (zf_keyOf hk k1 h), ze_b w.is, ze_b3 e1, ze_b S1.ok, ze_b2 e2]
  by_cases e : k = (ver now t).ky c r
  · rw [if_pos e, decide_eq_false (fun x => x e)]; rfl
  · rw [if_neg e, decide_eq_true e]; rfl
theorem zWd.remove (w : zWd h now ver tx pr gr) (hn : now < 100000) {t r : Nat} (ht : t < 3) (hr : r < (ver now t).nr) : ∃ g, f_ColumnVault_remove 1 (nI t) (nI r) h = some (.inl (nI ((ver now t).nr - 1)), g) ∧ zWd g (now + 1) (zvc ver now t (zDrop (ver now t) r)) tx pr gr ∧ zU 2 146 h g := by
  have S := w.T ht
  obtain ⟨g1, e1, w1, U1⟩ := w.nextOf hn ht
  obtain ⟨S1, F1⟩ := w1.N ht
  obtain ⟨g2, e2, S2, U2⟩ := S1.drop F1 hr
  refine ⟨g2, ?_, w1.done ht S2 (F1.drop hr) U2, zU_t U1 (zUq ht U2)⟩
  have e4 : zf_I 10 4 (zq (now + 1) t) g2 = some (nI ((ver now t).nr - 1)) := S2.I4
  unfold f_ColumnVault_remove
  rw [ze_b w.is, ze_b3 (w.sheetOf ht), ze_b3 (S.reqRow hr), ze_b w.is, ze_b3 e1, ze_b S1.ok, ze_b2 e2, ze_b e4]
theorem zWd.sort (w : zWd h now ver tx pr gr) (hn : now < 100000) {t c : Nat} (ht : t < 3) (hc : c < (ver now t).nc) (down first : Bool) : ∃ g o', f_ColumnVault_sort 1 (nI t) (nI c) (zb down) (zb first) h = some (.inl (nI (fb_ct (fun p => decide (o' p ≠ (ver now t).od p)) (ver now t).nr)), g) ∧ zWd g (now + 1) (zvc ver now t (zKO (ver now t) (ver now t).ky o')) tx pr gr ∧ zPerm o' (ver now t).nr ∧ zSrt (ver now t) c down first o' (ver now t).nr ∧ zU 2 146 h g := by
  have S := w.T ht
  have F := w.F ht
  obtain ⟨g1, e1, w1, U1⟩ := w.nextOf hn ht
  obtain ⟨S1, F1⟩ := w1.N ht
  obtain ⟨g2, o', e2, S2, hp, hs, U2⟩ := S1.sort F1 hc down first
  have w2 := w1.done ht S2 (F1.ord hp) U2
  -- the sheet before stands as it was
  have Sb : TS g2 (zq now t) (ver now t) := by
    have hv := w2.hi.ts (v := now) (by omega) (by omega) ht
    rw [zvc_v (Nat.le_refl _)] at hv
    exact hv
  refine ⟨g2, o', ?_, w2, hp, hs, zU_t U1 (zUq ht U2)⟩
  unfold f_ColumnVault_sort
  rw [ze_b w.is, ze_b3 (w.sheetWith ht hc), ze_b w.is, ze_b3 e1, ze_b S1.ok, ze_b2 e2, ze_b S2.ok, ze_b2 (S2.unlike Sb rfl (F1.ord hp) F)]
  rfl
theorem zWd.turnChoice (w : zWd h now ver tx pr gr) (hn : now < 100000) {t : Nat} (ht : t < 3) : ∃ g, f_ColumnVault_turnChoice 1 (nI t) h = some (.inl (nI (fb_ct (fun r => !(ver now t).ch r) (ver now t).nr)), g) ∧ zWd g (now + 1) (zvc ver now t (zCho (ver now t) (fun r => !(ver now t).ch r))) tx pr gr ∧ zU 2 146 h g := by
  obtain ⟨g1, e1, w1, U1⟩ := w.nextOf hn ht
  obtain ⟨S1, F1⟩ := w1.N ht
  have h40 := S1.r40
  obtain ⟨g2, e2, S2, U2⟩ := S1.cho (fun r => !(ver now t).ch r)
  refine ⟨g2, ?_, w1.done ht S2 (F1.cho _) U2, zU_t U1 (zUq ht U2)⟩
  have e3 : zB (fun _ => true) (ver now t).nr &&& (zB (ver now t).ch (ver now t).nr ^^^ (-1)) = zB (fun r => !(ver now t).ch r) (ver now t).nr := by
    rw [zB_andn (by omega)]
    exact zB_c fun j _ => Bool.true_and _
  have e4 : zf_J 10 5 (zq (now + 1) t) g2 = some (zB (fun r => !(ver now t).ch r) (ver now t).nr) := S2.J5
  unfold f_ColumnVault_turnChoice
  rw [ze_b w.is, ze_b3 (w.sheetOf ht), ze_b w.is, ze_b3 e1, ze_b S1.ok, ze_b2 S1.allRows, ze_b S1.J5, e3, ze_b e2, ze_b e4, ze_b2 (zB_cnt (by omega) g2)]
theorem zWd.back (w : zWd h now ver tx pr gr) (hn : now < 100000) {v : Nat} (h1 : v ≤ now) (h2 : now < v + 12) : ∃ g, f_ColumnVault_back 1 (nI v) h = some (.inl (nI (now + 1)), g) ∧ zWd g (now + 1) (zvx ver now v) tx pr gr ∧ zU 2 146 h g := by
  obtain ⟨g, e, hh, U⟩ := w.hi.next hn h1 h2
  have w' := w.H hh (zU_G U)
  refine ⟨g, ?_, w', U⟩
  have ek : f_History_keeps 2 (nI v) h = some (1, h) := by
    unfold f_History_keeps
    rw [if_neg (nI_pos (by omega)), ze_b (zh_I w.hi.c rfl), if_neg (nI_nlt h1 (by omega)), ze_b (zh_I w.hi.c rfl), if_neg]
    rw [zi_e, show (12 : Int32) = nI 12 from rfl, pk_sub_toInt (by omega) (by omega), nI_toInt (by omega)]
    omega
  unfold f_ColumnVault_back
  rw [ze_b (zh_A w.v rfl), ze_b (zh_is w.hi.c), ze_b2 ek, if_pos (by decide), ze_b (zh_A w.v rfl), ze_b (zh_is w.hi.c), ze_b2 e, ze_b (zh_A w'.v rfl), ze_b (zh_I w'.hi.c rfl)]
theorem zWd.backNo (w : zWd h now ver tx pr gr) {v : Nat} (hv : v < 2 ^ 30) (hx : now < v ∨ v + 12 ≤ now) (hB : zM h ≤ 7200000) : f_ColumnVault_back 1 (nI v) h = some (.inr 13, h ++ [.inr (13, [])]) := by
  have hn := w.hi.n
  have ek : f_History_keeps 2 (nI v) h = some (0, h) := by
    unfold f_History_keeps
    rw [if_neg (nI_pos (by omega)), ze_b (zh_I w.hi.c rfl)]
    rcases Nat.lt_or_ge now v with h1 | h1
    · rw [if_pos (nI_lt h1 (by omega))]
    · rw [if_neg (nI_nlt h1 (by omega)), ze_b (zh_I w.hi.c rfl), if_pos]
      rw [zi_e, show (12 : Int32) = nI 12 from rfl, pk_sub_toInt (by omega) (by omega), nI_toInt (by omega)]
      omega
  unfold f_ColumnVault_back
  rw [ze_b (zh_A w.v rfl), ze_b (zh_is w.hi.c), ze_b2 ek, if_neg (by decide), if_pos (zlim hB)]
/-- rows of numbers added: what the law needs of them -/
theorem zfill113 {q : Nat} {c : Nat} (first step : Int32) (h1 : -20 ≤ first.toInt ∧ first.toInt ≤ 20) (h2 : -3 ≤ step.toInt ∧ step.toInt ≤ 3) {many : Nat} (hm : many ≤ 6) : ∀ n i h T, i ≤ many → many - i < n → TS h q T → zWF T → c < T.nc → T.kd c = 0 → T.nr + (many - i) ≤ 40 → ∃ g T', f_ColumnVault_fill_113 n (nI c) first step (nI many) q (nI i) h = some (.inl (nI (T.nr + (many - i))), g) ∧ TS g q T' ∧ zWF T' ∧ T'.nc = T.nc ∧ T'.kd = T.kd ∧ T'.nr = T.nr + (many - i) ∧ zU q 4 h g := by
  intro n
  induction n with
  | zero => intro i _ _ _ hn; exact absurd hn (Nat.not_lt_zero _)
  | succ n ih =>
    intro i h T hi hn S F hc hk hr
    unfold f_ColumnVault_fill_113
    rcases Nat.lt_or_ge i many with hlt | hge
    · obtain ⟨g1, e1, S1, U1⟩ := S.row (show T.nr < 40 by omega)
      have ev : (step * nI i).toInt = step.toInt * i := by
        have e3 : (nI i).toInt = i := nI_toInt (by omega)
        have b1 : -18 ≤ step.toInt * (i : Int) ∧ step.toInt * (i : Int) ≤ 18 := by
          have hi' : i = 0 ∨ i = 1 ∨ i = 2 ∨ i = 3 ∨ i = 4 ∨ i = 5 := by omega
          rcases hi' with rfl | rfl | rfl | rfl | rfl | rfl <;> simp <;> omega
        rw [fb_mulI (by rw [e3]; omega) (by rw [e3]; omega), e3]
      have b1 : -18 ≤ step.toInt * (i : Int) ∧ step.toInt * (i : Int) ≤ 18 := by
        have hi' : i = 0 ∨ i = 1 ∨ i = 2 ∨ i = 3 ∨ i = 4 ∨ i = 5 := by omega
        rcases hi' with rfl | rfl | rfl | rfl | rfl | rfl <;> simp <;> omega
      have es : ((first + step * nI i).toInt64).toInt = first.toInt + step.toInt * i := by
        rw [Int32.toInt_toInt64, fb_addI (by rw [ev]; omega) (by rw [ev]; omega), ev]
      have hok : zokK ((zRow T).kd c) ((first + step * nI i).toInt64) := Or.inr (Or.inl ⟨hk, by rw [es]; omega, by rw [es]; omega⟩)
      obtain ⟨g2, e2, S2, U2⟩ := S1.putKey (c := c) (r := T.nr) hc (Nat.lt_succ_self _) ((first + step * nI i).toInt64)
      obtain ⟨g3, T3, e3, S3, F3, a1, a2, a3, U3⟩ := ih (i + 1) g2 _ hlt (by omega) S2 ((F.row (by omega)).put hok) hc hk (by show T.nr + 1 + (many - (i + 1)) ≤ 40; omega)
      have ea : (zPut (zRow T) c T.nr ((first + step * nI i).toInt64)).nr + (many - (i + 1)) = T.nr + (many - i) := by show T.nr + 1 + (many - (i + 1)) = _; omega
      rw [ea] at e3 a3
      refine ⟨g3, T3, ?_, S3, F3, a1, a2, a3, zU_t U1 (zU_t U2 U3)⟩
      rw [if_neg (nI_ge hlt (by omega)), ze_b S.ok, ze_b2 e1, ze_b S1.ok, ze_b2 e2, nI_1]
      exact e3
    · have e : i = many := Nat.le_antisymm hi hge
      subst e
      rw [if_pos (nI_le (Nat.le_refl _) (by omega)), ze_b S.I4, Nat.sub_self, Nat.add_zero]
      exact ⟨h, T, rfl, S, F, rfl, rfl, rfl, zU_r⟩
theorem zWd.fill (w : zWd h now ver tx pr gr) (hn : now < 100000) {t c : Nat} (ht : t < 3) (hc : c < (ver now t).nc) (hk : (ver now t).kd c = 0) {first step : Int32} (h1 : -20 ≤ first.toInt ∧ first.toInt ≤ 20) (h2 : -3 ≤ step.toInt ∧ step.toInt ≤ 3) {many : Nat} (hm1 : 1 ≤ many) (hm : many ≤ 6) (hr : (ver now t).nr + many ≤ 40) : ∃ g T', f_ColumnVault_fill 1 (nI t) (nI c) first step (nI many) h = some (.inl (nI ((ver now t).nr + many)), g) ∧ zWd g (now + 1) (zvc ver now t T') tx pr gr ∧ T'.nc = (ver now t).nc ∧ T'.kd = (ver now t).kd ∧ T'.nr = (ver now t).nr + many ∧ zU 2 146 h g := by
  have S := w.T ht
  obtain ⟨g1, e1, w1, U1⟩ := w.nextOf hn ht
  obtain ⟨S1, F1⟩ := w1.N ht
  obtain ⟨g2, T2, e2, S2, F2, a1, a2, a3, U2⟩ := zfill113 first step h1 h2 hm zF 0 g1 _ (Nat.zero_le _) (by unfold zF; omega) S1 F1 hc hk (by omega)
  refine ⟨g2, T2, ?_, w1.done ht S2 F2 U2, a1, a2, a3, zU_t U1 (zUq ht U2)⟩
  have b1 : -15 ≤ step.toInt * ((many - 1 : Nat) : Int) ∧ step.toInt * ((many - 1 : Nat) : Int) ≤ 15 := by
    have hi' : many - 1 = 0 ∨ many - 1 = 1 ∨ many - 1 = 2 ∨ many - 1 = 3 ∨ many - 1 = 4 ∨ many - 1 = 5 := by omega
    rcases hi' with e | e | e | e | e | e <;> rw [e] <;> simp <;> omega
  have em : nI many - 1 = nI (many - 1) := by
    obtain ⟨j, rfl⟩ : ∃ j, many = j + 1 := ⟨many - 1, by omega⟩
    rw [nI_pred, Nat.add_sub_cancel]
  have ev : (step * nI (many - 1)).toInt = step.toInt * ((many - 1 : Nat) : Int) := by
    have e3 : (nI (many - 1)).toInt = ((many - 1 : Nat) : Int) := nI_toInt (by omega)
    rw [fb_mulI (by rw [e3]; omega) (by rw [e3]; omega), e3]
  have es : ((first + step * nI (many - 1)).toInt64).toInt = first.toInt + step.toInt * ((many - 1 : Nat) : Int) := by
    rw [Int32.toInt_toInt64, fb_addI (by rw [ev]; omega) (by rw [ev]; omega), ev]
  have ef : (first.toInt64).toInt = first.toInt := Int32.toInt_toInt64 _
  have n1 : ((-1000 : Int32)).toInt = -1000 := by decide
  have n2 : ((1000 : Int32)).toInt = 1000 := by decide
  unfold f_ColumnVault_fill
  rw [ze_b w.is, ze_b3 (w.sheetWith ht hc), ze_b S.ok, ze_b2 (S.kindOf hc), hk, if_neg (by decide), ze_b2 (zisNum (by rw [ef]; omega) (by rw [ef]; omega) h), if_neg (by decide), if_neg (by rw [zi_t, n1]; omega), if_neg (by rw [zi_t, n2]; omega), if_neg (show ¬ nI many < (1 : Int32) from nI_nlt (b := 1) hm1 (by omega)), if_neg (show ¬ (40 : Int32) < nI many from nI_nlt (a := 40) (by omega) (by omega)), em, ze_b2 (zisNum (by rw [es]; omega) (by rw [es]; omega) h), if_pos (by decide), ze_b S.I4, nI_add, if_pos (show nI ((ver now t).nr + many) ≤ (40 : Int32) from nI_le (b := 40) hr (by decide)), ze_b w.is, ze_b3 e1]
  rw [Nat.sub_zero] at e2
  exact e2
end ZTP

/-! ===== refusals asked for ===== -/
section ZRF
variable {h g : zx_H} {now : Nat} {ver : Nat → Nat → zT} {tx : List Nat} {pr : Nat × (Nat → Nat) × (Nat → Int32)} {gr : zT × Nat × Nat × (Nat → Int64) × (Nat → Nat → Bool)} {t c : Nat} {x : Int32}
def zAk (h : zx_H) (what a b : Int32) (c : Int64) (X : Int64) : Prop := ∃ g, f_ColumnVaultLaw_asks 1 what a b c h = some (X, g) ∧ zG 20 0 0 h g
theorem z13 : zEx 13 := Or.inl rfl
theorem z14 : zEx 14 := Or.inr (Or.inl rfl)
theorem z15 : zEx 15 := Or.inr (Or.inr (Or.inl rfl))
theorem zWd.s0 (w : zWd h now ver tx pr gr) : f_ColumnVault_sheetOf 1 (0 : Int32) h = some (.inl (zq now 0), h) := by
  have e := w.sheetOf (t := 0) (by decide)
  rw [nI_0] at e
  exact e
theorem zWd.sw (w : zWd h now ver tx pr gr) (hc : c < (ver now 0).nc) : f_ColumnVault_sheetWith 1 (0 : Int32) (nI c) h = some (.inl (zq now 0), h) := by
  have e := w.sheetWith (t := 0) (by decide) hc
  rw [nI_0] at e
  exact e
theorem zWd.sw0 (w : zWd h now ver tx pr gr) (hc : 1 ≤ (ver now 0).nc) : f_ColumnVault_sheetWith 1 (0 : Int32) (0 : Int32) h = some (.inl (zq now 0), h) := by
  have e := w.sw (c := 0) (by omega)
  rw [nI_0] at e
  exact e
theorem zWd.swNo (w : zWd h now ver tx pr gr) (hB : zM h ≤ 7200000) : f_ColumnVault_sheetWith 1 (0 : Int32) (nI (ver now 0).nc) h = some (.inr 13, h ++ [.inr (13, [])]) := by
  have h4 := (w.T (t := 0) (by decide)).c4
  have e := w.sheetWithNo (t := 0) (c := nI (ver now 0).nc) (by decide) (Or.inr (nI_le (Nat.le_refl _) (by omega))) hB
  rw [nI_0] at e
  exact e
theorem zWd.kd0 (w : zWd h now ver tx pr gr) (hc : 1 ≤ (ver now 0).nc) (hk : (ver now 0).kd 0 = 0) : f_Sheet_kindOf (zq now 0) (0 : Int32) h = some (0, h) := by
  have e := (w.T (t := 0) (by decide)).kindOf (c := 0) (by omega)
  rw [hk, nI_0] at e
  exact e
theorem zrf0 (w : zWd h now ver tx pr gr) (hx : x < 0 ∨ 3 ≤ x) (hB : zM h ≤ 7200000) : zAk h 0 x 9 0 (-3000000001) := by
  refine ⟨_, zask0E w.is z13 ?_, zG_exc (ci := 13)⟩
  unfold f_ColumnVault_addColumn
  rw [ze_b w.is, ze_b3E (w.sheetNo hx hB)]
theorem zrf0k (w : zWd h now ver tx pr gr) (hB : zM h ≤ 7200000) : zAk h 0 0 2 0 (-3000000003) := by
  refine ⟨_, zask0E w.is z14 ?_, zG_exc (ci := 14)⟩
  unfold f_ColumnVault_addColumn
  rw [ze_b w.is, ze_b3 w.s0, if_neg (by decide), if_neg (by decide), if_pos (zlim hB)]
theorem zrf1 (w : zWd h now ver tx pr gr) (hx : x < 0 ∨ 3 ≤ x) (hB : zM h ≤ 7200000) : zAk h 1 x 0 0 (-3000000001) := by
  refine ⟨_, zask1E w.is z13 ?_, zG_exc (ci := 13)⟩
  unfold f_ColumnVault_addRow
  rw [ze_b w.is, ze_b3E (w.sheetNo hx hB)]
theorem zrf2 (w : zWd h now ver tx pr gr) (hB : zM h ≤ 7200000) : zAk h 2 0 (nI (ver now 0).nc) 0 (-3000000001) := by
  refine ⟨_, zask2E w.is z13 ?_, zG_exc (ci := 13)⟩
  unfold f_ColumnVault_fill
  rw [ze_b w.is, ze_b3E (w.swNo hB)]
theorem zrf2a (w : zWd h now ver tx pr gr) (hc : 1 ≤ (ver now 0).nc) (hk : (ver now 0).kd 0 = 0) (hB : zM h ≤ 7200000) : zAk h 2 0 0 1000001 (-3000000003) := by
  refine ⟨_, zask2E w.is z14 ?_, zG_exc (ci := 14)⟩
  unfold f_ColumnVault_fill
  rw [ze_b w.is, ze_b3 (w.sw0 hc), ze_b (w.T (t := 0) (by decide)).ok, ze_b2 (w.kd0 hc hk), if_neg (fun y => y rfl), ze_b2 (zisNumNo (Or.inr (by decide +kernel)) h), if_pos rfl, if_pos (zlim hB)]
theorem zrf2b (w : zWd h now ver tx pr gr) (hc : 1 ≤ (ver now 0).nc) (hk : (ver now 0).kd 0 = 0) (hB : zM h ≤ 7200000) : zAk h 2 0 0 999990 (-3000000003) := by
  refine ⟨_, zask2E w.is z14 ?_, zG_exc (ci := 14)⟩
  unfold f_ColumnVault_fill
  rw [ze_b w.is, ze_b3 (w.sw0 hc), ze_b (w.T (t := 0) (by decide)).ok, ze_b2 (w.kd0 hc hk), if_neg (fun y => y rfl), ze_b2 (zisNum (by decide +kernel) (by decide +kernel) h), if_neg (by decide), if_neg (by decide), if_neg (by decide), if_neg (by decide), if_neg (by decide), ze_b2 (zisNumNo (Or.inr (by decide +kernel)) h), if_neg (fun y => y rfl), if_pos (zlim hB)]
theorem zrf2c (w : zWd h now ver tx pr gr) (hc : 1 ≤ (ver now 0).nc) (hk : (ver now 0).kd 0 = 0) (hr : (ver now 0).nr = 40) (hB : zM h ≤ 7200000) : zAk h 2 0 0 1 (-3000000004) := by
  have S := w.T (t := 0) (by decide)
  have i4 := S.I4
  rw [hr] at i4
  refine ⟨_, zask2E w.is z15 ?_, zG_exc (ci := 15)⟩
  unfold f_ColumnVault_fill
  rw [ze_b w.is, ze_b3 (w.sw0 hc), ze_b S.ok, ze_b2 (w.kd0 hc hk), if_neg (fun y => y rfl), ze_b2 (zisNum (by decide +kernel) (by decide +kernel) h), if_neg (by decide), if_neg (by decide), if_neg (by decide), if_neg (by decide), if_neg (by decide), ze_b2 (zisNum (by decide +kernel) (by decide +kernel) h), if_pos (by decide), ze_b i4, if_neg (by decide), if_pos (zlim hB)]
theorem zrf6 (w : zWd h now ver tx pr gr) (hB : zM h ≤ 7200000) : zAk h 6 0 (nI (ver now 0).nr) 0 (-3000000001) := by
  have S := w.T (t := 0) (by decide)
  have h40 := S.r40
  refine ⟨_, zask6E w.is z13 ?_, zG_exc (ci := 13)⟩
  unfold f_ColumnVault_rowAt
  rw [ze_b w.is, ze_b3 w.s0, ze_b3E (S.reqPlaceNo (Or.inr (nI_le (Nat.le_refl _) (by omega))) hB)]
theorem zrf12 (w : zWd h now ver tx pr gr) (hc : 1 ≤ (ver now 0).nc) (hB : zM h ≤ 7200000) : zAk h 12 0 0 6 (-3000000003) := by
  have S := w.T (t := 0) (by decide)
  have e := w.totalE (t := 0) (c := 0) (by decide) (by omega) 6 (S.total6No (c := 0) (by omega) _ hB)
  rw [nI_0] at e
  exact ⟨_, zask12E (c := 6) w.is z14 e, zG_exc (ci := 14)⟩
theorem zrf12c (w : zWd h now ver tx pr gr) (hB : zM h ≤ 7200000) : zAk h 12 0 (nI (ver now 0).nc) 6 (-3000000001) := by
  refine ⟨_, zask12E w.is z13 ?_, zG_exc (ci := 13)⟩
  unfold f_ColumnVault_total
  rw [ze_b w.is, ze_b3E (w.swNo hB)]
theorem zrf14 (w : zWd h now ver tx pr gr) (hc : 1 ≤ (ver now 0).nc) (hk : (ver now 0).kd 0 = 0) (hB : zM h ≤ 7200000) : zAk h 14 0 0 1000001 (-3000000003) := by
  have e := zreqValNo (h := h) (v := 1000001) (Or.inr (by decide +kernel)) hB
  rw [nI_0] at e
  refine ⟨_, zask14E w.is z14 ?_, zG_exc (ci := 14)⟩
  unfold f_ColumnVault_between
  rw [ze_b w.is, ze_b3 (w.sw0 hc), ze_b (w.T (t := 0) (by decide)).ok, ze_b2 (w.kd0 hc hk), ze_b3E e]
theorem zrf15 (w : zWd h now ver tx pr gr) (hc : 1 ≤ (ver now 0).nc) (hk : (ver now 0).kd 0 = 0) (hB : zM h ≤ 7200000) : zAk h 15 0 0 (-9000000000) (-3000000003) := by
  have e := zreqValNo (h := h) (v := -9000000000) (Or.inl (by rw [zl_m]; decide)) hB
  rw [nI_0] at e
  refine ⟨_, zask15E w.is z14 ?_, zG_exc (ci := 14)⟩
  unfold f_ColumnVault_nearest
  rw [ze_b w.is, ze_b3 (w.sw0 hc), ze_b (w.T (t := 0) (by decide)).ok, ze_b2 (w.kd0 hc hk), ze_b3E e]
theorem zrf18 (w : zWd h now ver tx pr gr) (hx : x < 0 ∨ 3 ≤ x) (hB : zM h ≤ 7200000) : zAk h 18 0 x 9 (-3000000001) := by
  refine ⟨_, zask18E w.is z13 ?_, zG_exc (ci := 13)⟩
  unfold f_ColumnVault_alike
  rw [ze_b w.is, ze_b3 w.s0, ze_b w.is, ze_b3E (w.sheetNo hx hB)]
theorem zrf18k (w : zWd h now ver tx pr gr) (hB : zM h ≤ 7200000) : zAk h 18 0 0 4 (-3000000003) := by
  have S := w.T (t := 0) (by decide)
  have F := w.F (t := 0) (by decide)
  have k := S.kinds S F F
  rw [decide_eq_true (show (ver now 0).nc = (ver now 0).nc ∧ ∀ c, c < (ver now 0).nc → (ver now 0).kd c = (ver now 0).kd c from ⟨rfl, fun _ _ => rfl⟩)] at k
  refine ⟨_, zask18E w.is z14 ?_, zG_exc (ci := 14)⟩
  unfold f_ColumnVault_alike
  rw [ze_b w.is, ze_b3 w.s0, ze_b w.is, ze_b3 w.s0, ze_b S.ok, ze_b2 k, if_pos (by decide), if_neg (by decide), if_neg (by decide), if_neg (by decide), if_neg (by decide), if_pos (zlim hB)]
theorem zrf21 (w : zWd h now ver tx pr gr) (hB : zM h ≤ 7200000) : zAk h 21 0 4 0 (-3000000003) := by
  have e := w.size4 (t := 0) (by decide) hB
  rw [nI_0] at e
  exact ⟨_, zask21E w.is z14 e, zG_exc (ci := 14)⟩
theorem zrf20 (w : zWd h now ver tx pr gr) (hc : 1 ≤ (ver now 0).nc) (hB : zM h ≤ 7200000) : zAk h 20 0 0 (nI (ver now 0).nr).toInt64 (-3000000001) := by
  have S := w.T (t := 0) (by decide)
  have h40 := S.r40
  refine ⟨_, zask20E w.is z13 ?_, zG_exc (ci := 13)⟩
  unfold f_ColumnVault_running
  rw [Int32.toInt32_toInt64, ze_b w.is, ze_b3 (w.sw0 hc), ze_b3E (S.reqPlaceNo (Or.inr (nI_le (Nat.le_refl _) (by omega))) hB)]
theorem zrq0 {q : Nat} {T : zT} (S : TS h q T) (hr : 1 ≤ T.nr) : f_ColumnVault_requireRow q (0 : Int32) h = some (.inl (), h) := by
  have e := S.reqRow (c := 0) (by omega)
  rw [nI_0] at e
  exact e
theorem zrf3 (w : zWd h now ver tx pr gr) (hc : 1 ≤ (ver now 0).nc) (hr : 1 ≤ (ver now 0).nr) (hk : (ver now 0).kd 0 = 0) (hB : zM h ≤ 7200000) : zAk h 3 0 0 1000001 (-3000000003) := by
  have S := w.T (t := 0) (by decide)
  have e := zreqValNo (h := h) (v := 1000001) (Or.inr (by decide +kernel)) hB
  rw [nI_0] at e
  refine ⟨_, zask3E w.is z14 ?_, zG_exc (ci := 14)⟩
  unfold f_ColumnVault_set
  rw [ze_b w.is, ze_b3 (w.sw0 hc), ze_b3 (zrq0 S hr), ze_b S.ok, ze_b2 (w.kd0 hc hk), if_neg (by decide), ze_b3E e]
theorem zrf3c (w : zWd h now ver tx pr gr) (hB : zM h ≤ 7200000) : zAk h 3 0 (nI (ver now 0).nc) 1 (-3000000001) := by
  refine ⟨_, zask3E w.is z13 ?_, zG_exc (ci := 13)⟩
  unfold f_ColumnVault_set
  rw [ze_b w.is, ze_b3E (w.swNo hB)]
theorem zrf4 (w : zWd h now ver tx pr gr) (hB : zM h ≤ 7200000) : zAk h 4 0 0 (nI (ver now 0).nc).toInt64 (-3000000001) := by
  refine ⟨_, zask4E w.is z13 ?_, zG_exc (ci := 13)⟩
  unfold f_ColumnVault_get
  rw [Int32.toInt32_toInt64, ze_b w.is, ze_b3E (w.swNo hB)]
/-- no text -/
theorem zrf3t (w : zWd h now ver tx pr gr) (hc : c < (ver now 0).nc) (hk : (ver now 0).kd c = 1) (hr : 1 ≤ (ver now 0).nr) {v : Int64} (hv : v ≠ -9000000000) (e : f_ColumnVault_isWord v h = some (0, h)) (hB : zM h ≤ 7200000) : zAk h 3 0 (nI c) v (-3000000003) := by
  have S := w.T (t := 0) (by decide)
  have k := S.kindOf hc
  rw [hk] at k
  refine ⟨_, zask3E w.is z14 ?_, zG_exc (ci := 14)⟩
  unfold f_ColumnVault_set
  rw [ze_b w.is, ze_b3 (w.sw hc), ze_b3 (zrq0 S hr), ze_b S.ok, ze_b2 k, if_neg hv, ze_b3E (zreqValNoT e hB)]
theorem zrf20t (w : zWd h now ver tx pr gr) (hc : c < (ver now 0).nc) (hk : (ver now 0).kd c = 1) (hr : 1 ≤ (ver now 0).nr) (hB : zM h ≤ 7200000) : zAk h 20 0 (nI c) 0 (-3000000003) := by
  have S := w.T (t := 0) (by decide)
  have k := S.kindOf hc
  rw [hk] at k
  have p := S.reqPlace (c := 0) (by omega)
  rw [nI_0] at p
  have p : f_ColumnVault_requirePlace (zq now 0) ((0 : Int64)).toInt32 h = _ := p
  refine ⟨_, zask20E w.is z14 ?_, zG_exc (ci := 14)⟩
  have rn : f_ColumnVault_requireNumbers (zq now 0) (nI c) h = some (.inr 14, h ++ [.inr (14, [])]) := by
    unfold f_ColumnVault_requireNumbers
    rw [ze_b S.ok, ze_b2 k, if_neg (by decide), if_pos (zlim hB)]
  unfold f_ColumnVault_running
  rw [ze_b w.is, ze_b3 (w.sw hc), ze_b3 p, ze_b3E rn]
theorem ziw5 (h : zx_H) : f_ColumnVault_isWord 5 h = some (0, h) := by
  unfold f_ColumnVault_isWord
  rw [if_neg (by decide), if_pos (by decide), show zF = 4999 + 1 from rfl, f_ColumnVault_isWord_19, if_neg (by decide), if_neg (by decide)]
  have e := zisLetNo (n := 5) (Or.inl (by decide)) (by decide) h
  rw [show ((((5 : Int64).toUInt64 >>> ((((8 : Int32) * (0 : Int32))).toInt64.toUInt64 &&& Int64.toUInt64 63)).toInt64 &&& (255 : Int64))).toInt32 = nI 5 by decide, ze_b2 e, if_neg (fun y => y rfl)]
theorem ziwA (h : zx_H) : f_ColumnVault_isWord 24832 h = some (0, h) := by
  unfold f_ColumnVault_isWord
  rw [if_neg (by decide), if_pos (by decide), show zF = 4999 + 1 from rfl, f_ColumnVault_isWord_19, if_neg (by decide), if_neg (by decide)]
  have e := zisLetNo (n := 0) (Or.inl (by decide)) (by decide) h
  rw [show ((((24832 : Int64).toUInt64 >>> ((((8 : Int32) * (0 : Int32))).toInt64.toUInt64 &&& Int64.toUInt64 63)).toInt64 &&& (255 : Int64))).toInt32 = nI 0 by decide, ze_b2 e, if_neg (fun y => y rfl)]
theorem ziw8 (h : zx_H) : f_ColumnVault_isWord (lN 7017280452245743464) h = some (0, h) := by
  unfold f_ColumnVault_isWord
  rw [if_neg (by decide +kernel), if_neg (by decide +kernel)]
theorem zrf8 (hl : h.length ≤ 600000) : f_ColumnVaultLaw_code (zx_lim + 1 + 674) h = some (lN 7017280452245743464, h) := by
  have l := zl_674.tx hl
  have l : zTx h (zx_lim + 1 + 674) (zltr 8 7017280452245743464) := l
  refine zcode l ?_ (by decide)
  exact ⟨by decide, by decide, by decide, by decide, by decide, by decide, by decide, by decide, rfl⟩
end ZRF

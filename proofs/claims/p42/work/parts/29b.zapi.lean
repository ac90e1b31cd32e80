/-! ===== the object's questions ===== -/
section ZAP
variable {h g : zx_H} {now : Nat} {ver : Nat → Nat → zT} {tx : List Nat} {pr : Nat × (Nat → Nat) × (Nat → Int32)} {gr : zT × Nat × Nat × (Nat → Int64) × (Nat → Nat → Bool)}
theorem zbn (b : Bool) : narrow .boolean (.int (zb b)) = .int (zb b) := by cases b <;> rfl
theorem zWd.size0 (w : zWd h now ver tx pr gr) {t : Nat} (ht : t < 3) : f_ColumnVault_size 1 (nI t) 0 h = some (.inl (nI (ver now t).nr), h) := by
  unfold f_ColumnVault_size
  rw [ze_b w.is, ze_b3 (w.sheetOf ht), if_pos rfl, ze_b (w.T ht).I4]
theorem zWd.size1 (w : zWd h now ver tx pr gr) {t : Nat} (ht : t < 3) : f_ColumnVault_size 1 (nI t) 1 h = some (.inl (nI (ver now t).nc), h) := by
  unfold f_ColumnVault_size
  rw [ze_b w.is, ze_b3 (w.sheetOf ht), if_neg (by decide), if_pos rfl, ze_b (w.T ht).I3]
theorem zWd.size2 (w : zWd h now ver tx pr gr) {t : Nat} (ht : t < 3) : f_ColumnVault_size 1 (nI t) 2 h = some (.inl (nI (fb_ct (ver now t).ch (ver now t).nr)), h) := by
  have := (w.T ht).r40
  unfold f_ColumnVault_size
  rw [ze_b w.is, ze_b3 (w.sheetOf ht), if_neg (by decide), if_neg (by decide), if_pos rfl, ze_b (w.T ht).J5, ze_b2 (zB_cnt (by omega) h)]
theorem zWd.size4 (w : zWd h now ver tx pr gr) {t : Nat} (ht : t < 3) (hB : zM h ≤ 7200000) : f_ColumnVault_size 1 (nI t) 4 h = some (.inr 14, h ++ [.inr (14, [])]) := by
  unfold f_ColumnVault_size
  rw [ze_b w.is, ze_b3 (w.sheetOf ht), if_neg (by decide), if_neg (by decide), if_neg (by decide), if_neg (by decide), if_pos (zlim hB)]
theorem zWd.version (w : zWd h now ver tx pr gr) : f_ColumnVault_version 1 h = some (nI now, h) := by
  unfold f_ColumnVault_version
  rw [ze_b (zh_A w.v rfl), ze_b (zh_I w.hi.c rfl)]
theorem zWd.kind (w : zWd h now ver tx pr gr) {t c : Nat} (ht : t < 3) (hc : c < (ver now t).nc) : f_ColumnVault_kind 1 (nI t) (nI c) h = some (.inl (nI ((ver now t).kd c)), h) := by
  unfold f_ColumnVault_kind
  rw [ze_b w.is, ze_b3 (w.sheetWith ht hc), ze_b (w.T ht).ok, ze_b2 ((w.T ht).kindOf hc)]
/-- the value told -/
def zVl (T : zT) (r c : Nat) : Int64 := ztd (T.kd c) (T.ky c r)
theorem TS.valueOf {q : Nat} {T : zT} (S : TS h q T) (f : zWF T) {c r : Nat} (hc : c < T.nc) (hr : r < T.nr) : f_Sheet_valueOf q (nI c) (nI r) h = some (zVl T r c, h) := by
  unfold f_Sheet_valueOf
  rw [ze_b S.ok, ze_b2 (S.kindOf hc), ze_b S.ok, ze_b2 (S.keyAt hc hr), ze_b2 (zf_toldOf (f.k hc hr) (f.k1 hc) h)]
  rfl
theorem zWd.get (w : zWd h now ver tx pr gr) {t r c : Nat} (ht : t < 3) (hc : c < (ver now t).nc) (hr : r < (ver now t).nr) : f_ColumnVault_get 1 (nI t) (nI r) (nI c) h = some (.inl (zVl (ver now t) r c), h) := by
  unfold f_ColumnVault_get
  rw [ze_b w.is, ze_b3 (w.sheetWith ht hc), ze_b3 ((w.T ht).reqRow hr), ze_b (w.T ht).ok, ze_b2 ((w.T ht).valueOf (w.F ht) hc hr)]
theorem zWd.rowAt (w : zWd h now ver tx pr gr) {t p : Nat} (ht : t < 3) (hp : p < (ver now t).nr) : f_ColumnVault_rowAt 1 (nI t) (nI p) h = some (.inl (nI ((ver now t).od p)), h) := by
  unfold f_ColumnVault_rowAt
  rw [ze_b w.is, ze_b3 (w.sheetOf ht), ze_b3 ((w.T ht).reqPlace hp), ze_b (w.T ht).ok, ze_b2 ((w.T ht).rowInOrder hp)]
theorem zWd.placeOf (w : zWd h now ver tx pr gr) {t r : Nat} (ht : t < 3) (hr : r < (ver now t).nr) : f_ColumnVault_placeOf 1 (nI t) (nI r) h = some (.inl (nI (zpl (ver now t).od r (ver now t).nr)), h) := by
  unfold f_ColumnVault_placeOf
  rw [ze_b w.is, ze_b3 (w.sheetOf ht), ze_b3 ((w.T ht).reqRow hr), ze_b (w.T ht).ok, ze_b2 ((w.T ht).placeIn (w.F ht) hr)]
theorem zWd.isChosen (w : zWd h now ver tx pr gr) {t r : Nat} (ht : t < 3) (hr : r < (ver now t).nr) : f_ColumnVault_isChosen 1 (nI t) (nI r) h = some (.inl (zb ((ver now t).ch r)), h) := by
  unfold f_ColumnVault_isChosen
  rw [ze_b w.is, ze_b3 (w.sheetOf ht), ze_b3 ((w.T ht).reqRow hr), ze_b (w.T ht).J5, ze_b2 ((w.T ht).holds hr), if_pos (zbn _)]
theorem zWd.running (w : zWd h now ver tx pr gr) {t c p : Nat} (ht : t < 3) (hc : c < (ver now t).nc) (hk : (ver now t).kd c = 0) (hp : p < (ver now t).nr) : f_ColumnVault_running 1 (nI t) (nI c) (nI p) h = some (.inl (zs (fun r => if (ver now t).ky c r ≠ -9000000000 ∧ decide (zpl (ver now t).od r (ver now t).nr < p + 1) = true then (ver now t).ky c r else 0) (ver now t).nr), h) := by
  have S := w.T ht
  unfold f_ColumnVault_running f_ColumnVault_requireNumbers
  have e1 := S.upTo (w.F ht) (m := p + 1) hp
  rw [nI_pred] at e1
  have e2 : zf_b3 (zf_b (zf_is 10 (zq now t) h) fun _ => zf_b2 (f_Sheet_kindOf (zq now t) (nI c) h) fun v1 h2 => if v1 = 0 then some (Sum.inl (), h2) else if h2.length < zx_lim then some (Sum.inr 14, h2 ++ [.inr (14, [])]) else none) (fun (_ : Unit) h8 => zf_b (zf_is 10 (zq now t) h8) fun _ => zf_b2 (f_Sheet_rowsUpTo (zq now t) (nI p) h8) fun v10 h11 => zf_b (zf_is 10 (zq now t) h11) fun _ => zf_b2 (f_Sheet_sumOf (zq now t) (nI c) v10 h11) fun v12 h13 => some ((Sum.inl v12 : Int64 ⊕ Nat), h13)) = some (Sum.inl (zs (fun r => if (ver now t).ky c r ≠ -9000000000 ∧ decide (zpl (ver now t).od r (ver now t).nr < p + 1) = true then (ver now t).ky c r else 0) (ver now t).nr), h) := by
    rw [ze_b S.ok, ze_b2 (S.kindOf hc), hk, if_pos (by decide), ze_b3 rfl, ze_b S.ok, ze_b2 e1, ze_b S.ok, ze_b2 (S.sumOf hc _)]
  rw [ze_b w.is, ze_b3 (w.sheetWith ht hc), ze_b3 (S.reqPlace hp)]
  exact e2
theorem zWd.rank (w : zWd h now ver tx pr gr) {t b c r : Nat} (ht : t < 3) (hb : b < (ver now t).nc) (hc : c < (ver now t).nc) (hr : r < (ver now t).nr) (hm : (ver now t).ky c r ≠ -9000000000) : f_ColumnVault_rank 1 (nI t) (nI b) (nI c) (nI r) h = some (.inl (nI (1 + fb_ct (fun r' => decide ((ver now t).ky b r' = (ver now t).ky b r) && decide ((ver now t).ky c r' ≠ -9000000000 ∧ (ver now t).ky c r' < (ver now t).ky c r)) (ver now t).nr)), h) := by
  have S := w.T ht
  have h40 := S.r40
  have f := w.F ht
  have k0 := zokK_ge (f.k hc hr) hm
  unfold f_ColumnVault_rank
  rw [ze_b w.is, ze_b3 (w.sheetWith ht hb), ze_b3 (S.reqCol hc), ze_b3 (S.reqRow hr), ze_b S.ok, ze_b2 (S.keyAt hc hr), if_pos hm, ze_b S.ok, ze_b2 (S.keyAt hb hr), ze_b S.ok, ze_b2 (S.rwi hb _), ze_b S.ok, ze_b2 (S.rft hc _ _), zB_and (by omega), ze_b2 (zB_cnt (by omega) h)]
  rw [show (1 : Int32) = nI 1 from rfl, nI_add]
  congr 4
  refine congrArg _ (fb_ct_cong fun j hj => ?_)
  congr 1
  refine decide_eq_decide.mpr ?_
  have e1 : ((-8999999999 : Int64)).toInt = -8999999999 := by decide +kernel
  have e2 : ((ver now t).ky c r - 1).toInt = ((ver now t).ky c r).toInt - 1 := by
    rw [show (1 : Int64) = lN 1 from rfl]
    have : (lN 1).toInt = 1 := by decide
    rw [fb_subL (by rw [this]; omega) (by rw [this]; omega), this]
  rw [zl_e, zl_e, zl_t, e1, e2]
  constructor
  · rintro ⟨a, b'⟩
    refine ⟨fun e => ?_, by omega⟩
    rw [e, zl_m] at a
    omega
  · rintro ⟨a, b'⟩
    have := zokK_ge (f.k hc hj) a
    omega
theorem zWd.rankNo (w : zWd h now ver tx pr gr) {t b c r : Nat} (ht : t < 3) (hb : b < (ver now t).nc) (hc : c < (ver now t).nc) (hr : r < (ver now t).nr) (hm : (ver now t).ky c r = -9000000000) (hB : zM h ≤ 7200000) : f_ColumnVault_rank 1 (nI t) (nI b) (nI c) (nI r) h = some (.inr 16, h ++ [.inr (16, [])]) := by
  have S := w.T ht
  unfold f_ColumnVault_rank
  rw [ze_b w.is, ze_b3 (w.sheetWith ht hb), ze_b3 (S.reqCol hc), ze_b3 (S.reqRow hr), ze_b S.ok, ze_b2 (S.keyAt hc hr), if_neg (fun x => x hm), if_pos (zlim hB)]
theorem zWd.previous (w : zWd h now ver tx pr gr) {t b r : Nat} (ht : t < 3) (hb : b < (ver now t).nc) (hr : r < (ver now t).nr) : ∃ x, f_ColumnVault_previous 1 (nI t) (nI b) (nI r) h = some (.inl x, h) ∧ zLst (fun i => decide ((ver now t).ky b ((ver now t).od i) = (ver now t).ky b r) && decide (zpl (ver now t).od ((ver now t).od i) (ver now t).nr < zpl (ver now t).od r (ver now t).nr)) (ver now t).nr (ver now t).od x := by
  have S := w.T ht
  have h40 := S.r40
  obtain ⟨z1, z2⟩ := zpl_r (w.F ht).p hr
  obtain ⟨x, e, hx⟩ := S.last (w.F ht) (fun r' => decide ((ver now t).ky b r' = (ver now t).ky b r) && decide (zpl (ver now t).od r' (ver now t).nr < zpl (ver now t).od r (ver now t).nr))
  refine ⟨x, ?_, hx⟩
  unfold f_ColumnVault_previous
  rw [ze_b w.is, ze_b3 (w.sheetWith ht hb), ze_b3 (S.reqRow hr), ze_b S.ok, ze_b2 (S.placeIn (w.F ht) hr), ze_b S.ok, ze_b2 (S.keyAt hb hr), ze_b S.ok, ze_b2 (S.rwi hb _), ze_b S.ok, ze_b2 (S.upTo (w.F ht) (by omega)), ze_b S.ok, zB_and (by omega), ze_b2 e]
theorem zisNum {v : Int64} (h1 : -1000000 ≤ v.toInt) (h2 : v.toInt ≤ 1000000) (h : zx_H) : f_ColumnVault_isNumber v h = some (1, h) := by
  unfold f_ColumnVault_isNumber
  have e1 : ((-1000000 : Int64)).toInt = -1000000 := by decide +kernel
  have e2 : ((1000000 : Int64)).toInt = 1000000 := by decide +kernel
  rw [if_neg (by rw [zl_t, e1]; omega)]
  first
    | rw [if_neg (by rw [zl_t, e2]; omega)]
    | rw [if_pos (by rw [zl_e, e2]; omega)]
theorem zisNumNo {v : Int64} (h1 : v.toInt < -1000000 ∨ 1000000 < v.toInt) (h : zx_H) : f_ColumnVault_isNumber v h = some (0, h) := by
  unfold f_ColumnVault_isNumber
  have e1 : ((-1000000 : Int64)).toInt = -1000000 := by decide +kernel
  have e2 : ((1000000 : Int64)).toInt = 1000000 := by decide +kernel
  by_cases hc : v < (-1000000 : Int64)
  · rw [if_pos hc]
  · rw [if_neg hc]
    rw [zl_t, e1] at hc
    first
      | rw [if_pos (by rw [zl_t, e2]; omega)]
      | rw [if_neg (by rw [zl_e, e2]; omega)]
theorem zisLet {n : Nat} (h1 : 97 ≤ n) (h2 : n ≤ 122) (h : zx_H) : f_ColumnVault_isLetter (nI n) h = some (1, h) := by
  unfold f_ColumnVault_isLetter
  rw [if_neg (show ¬ nI n < (97 : Int32) from nI_nlt (b := 97) h1 (by omega))]
  first
    | rw [if_neg (show ¬ (122 : Int32) < nI n from nI_nlt (a := 122) h2 (by omega))]
    | rw [if_pos (show nI n ≤ (122 : Int32) from nI_le (b := 122) h2 (by omega))]
theorem zisLetNo {n : Nat} (h1 : n < 97 ∨ 122 < n) (hn : n < 1000) (h : zx_H) : f_ColumnVault_isLetter (nI n) h = some (0, h) := by
  unfold f_ColumnVault_isLetter
  rcases Nat.lt_or_ge n 97 with h2 | h2
  · rw [if_pos (show nI n < (97 : Int32) from nI_lt (b := 97) h2 (by omega))]
  · rw [if_neg (show ¬ nI n < (97 : Int32) from nI_nlt (b := 97) h2 (by omega))]
    first
      | rw [if_pos (show (122 : Int32) < nI n from nI_lt (a := 122) (by omega) (by omega))]
      | rw [if_neg (show ¬ nI n ≤ (122 : Int32) from nI_ge (b := n) (a := 122) (by omega) (by omega))]
theorem zwd_sh : ∀ {m v : Nat}, zwd m v → ∀ j, (j < m → 97 ≤ v / 256 ^ j % 256 ∧ v / 256 ^ j % 256 ≤ 122) ∧ (m ≤ j → v / 256 ^ j = 0)
  | 0, v, h, j => ⟨fun x => absurd x (Nat.not_lt_zero _), fun _ => by
    have h : v = 0 := h
    rw [h, Nat.zero_div]⟩
  | m + 1, v, h, 0 => ⟨fun _ => by rw [Nat.pow_zero, Nat.div_one]; exact h.1, fun x => absurd x (by omega)⟩
  | m + 1, v, h, j + 1 => by
    obtain ⟨a, b⟩ := zwd_sh h.2 j
    have e : v / 256 ^ (j + 1) = v / 256 / 256 ^ j := by rw [Nat.pow_succ, Nat.mul_comm, ← Nat.div_div_eq_div_mul]
    rw [e]
    exact ⟨fun x => a (by omega), fun x => b (by omega)⟩
theorem zshr8 {v j : Nat} (hv : v < 2 ^ 63) (hj : j ≤ 7) : ((lN v).toUInt64 >>> ((((8 : Int32) * nI j)).toInt64.toUInt64 &&& Int64.toUInt64 63)).toInt64 = lN (v / 256 ^ j) := by
  have e1 : (8 : Int32) * nI j = nI (8 * j) := pk_mul 8 j
  rw [e1, zN_shr (by omega) (by omega), show (256 : Nat) = 2 ^ 8 from rfl, ← Nat.pow_mul]
theorem zisWord {m v : Nat} (h0 : 1 ≤ m) (hm : m ≤ 7) (hw : zwd m v) (h : zx_H) : f_ColumnVault_isWord (lN v) h = some (1, h) := by
  have hv := zwd_56 hm hw
  have key : ∀ n j, j ≤ m → m - j < n → f_ColumnVault_isWord_19 n (lN v) (nI j) h = some (1, h) := by
    intro n
    induction n with
    | zero => intro j _ hn; exact absurd hn (Nat.not_lt_zero _)
    | succ n ih =>
      intro j hj hn
      unfold f_ColumnVault_isWord_19
      rcases Nat.lt_or_ge j 7 with h1 | h1
      · rw [if_neg (show ¬ (7 : Int32) ≤ nI j from nI_ge (b := 7) h1 (by decide)), zshr8 (by omega) (by omega)]
        obtain ⟨a, b⟩ := zwd_sh hw j
        have hd : v / 256 ^ j ≤ v := Nat.div_le_self _ _
        rcases Nat.lt_or_ge j m with h2 | h2
        · obtain ⟨a1, a2⟩ := a h2
          rw [if_neg, zN_255 (by omega), lN_i, ze_b2 (zisLet a1 a2 h), if_pos (by decide), nI_1]
          · exact ih (j + 1) h2 (by omega)
          · intro e
            have e : lN (v / 256 ^ j) = lN 0 := e
            rw [zN_i (by omega) (by decide)] at e
            rw [e] at a1
            omega
        · rw [if_pos (by rw [b h2]; rfl)]
      · rw [if_pos (show (7 : Int32) ≤ nI j from nI_le (a := 7) h1 (by omega))]
  have hp : 1 ≤ v := by
    obtain ⟨k, rfl⟩ : ∃ k, m = k + 1 := ⟨m - 1, by omega⟩
    have := hw.1.1
    omega
  unfold f_ColumnVault_isWord
  have e0 : ((0 : Int64)).toInt = 0 := by decide
  rw [if_neg (by rw [zl_e, zN_t (by omega), e0]; omega)]
  have hs : ((lN v).toUInt64 >>> (((56 : Int32)).toInt64.toUInt64 &&& Int64.toUInt64 63)).toInt64 = lN (v / 2 ^ 56) := zN_shr (k := 56) (by omega) (by decide)
  rw [hs, Nat.div_eq_of_lt (by omega), if_pos (show lN 0 = 0 from rfl)]
  exact key zF 0 (Nat.zero_le _) (by unfold zF; omega)
theorem zreqVal {kd : Nat} {v : Int64} (hv : zokV kd v) (h : zx_H) : f_ColumnVault_requireValue (nI kd) v h = some (.inl (), h) := by
  unfold f_ColumnVault_requireValue
  rcases hv with ⟨rfl, h1, h2⟩ | ⟨rfl, m, w, h0, hm, hw, rfl⟩
  · rw [if_pos (by decide), ze_b2 (zisNum h1 h2 h), if_pos (by decide)]
  · rw [if_neg (by decide), ze_b2 (zisWord h0 hm hw h), if_pos (by decide)]
theorem zreqValNo {v : Int64} (h1 : v.toInt < -1000000 ∨ 1000000 < v.toInt) (hB : zM h ≤ 7200000) : f_ColumnVault_requireValue (nI 0) v h = some (.inr 14, h ++ [.inr (14, [])]) := by
  unfold f_ColumnVault_requireValue
  rw [if_pos (by decide), ze_b2 (zisNumNo h1 h), if_neg (by decide), if_pos (zlim hB)]
theorem zreqValNoT {v : Int64} (e : f_ColumnVault_isWord v h = some (0, h)) (hB : zM h ≤ 7200000) : f_ColumnVault_requireValue (nI 1) v h = some (.inr 14, h ++ [.inr (14, [])]) := by
  unfold f_ColumnVault_requireValue
  rw [if_neg (by decide), ze_b2 e, if_neg (by decide), if_pos (zlim hB)]
/-- between the values told of two keys -/
theorem zWd.between (w : zWd h now ver tx pr gr) {t c : Nat} (ht : t < 3) (hc : c < (ver now t).nc) {a b : Int64} (ha : zokK ((ver now t).kd c) a) (hb : zokK ((ver now t).kd c) b) (ha' : a ≠ -9000000000) (hb' : b ≠ -9000000000) : f_ColumnVault_between 1 (nI t) (nI c) (ztd ((ver now t).kd c) a) (ztd ((ver now t).kd c) b) h = some (.inl (nI (fb_ct (fun r => decide (a ≤ (ver now t).ky c r ∧ (ver now t).ky c r ≤ b)) (ver now t).nr)), h) := by
  have S := w.T ht
  have h40 := S.r40
  have k1 := (w.F ht).k1 hc
  unfold f_ColumnVault_between
  rw [ze_b w.is, ze_b3 (w.sheetWith ht hc), ze_b S.ok, ze_b2 (S.kindOf hc), ze_b3 (zreqVal (ztd_V ha ha') h), ze_b3 (zreqVal (ztd_V hb hb') h), ze_b2 (zf_keyOf ha k1 h), ze_b2 (zf_keyOf hb k1 h), ze_b S.ok, ze_b2 (S.rft hc _ _), ze_b2 (zB_cnt (by omega) h)]
theorem zWd.nearest (w : zWd h now ver tx pr gr) {t c : Nat} (ht : t < 3) (hc : c < (ver now t).nc) {a : Int64} (ha : zokK ((ver now t).kd c) a) (ha' : a ≠ -9000000000) (below : Bool) (hB : zM h ≤ 7200000) : ∃ best, zNear (ver now t) c a below (ver now t).nr best ∧ f_ColumnVault_nearest 1 (nI t) (nI c) (ztd ((ver now t).kd c) a) (zb below) h = if best = -9000000000 then some (.inr 16, h ++ [.inr (16, [])]) else some (.inl (ztd ((ver now t).kd c) best), h) := by
  have S := w.T ht
  have k1 := (w.F ht).k1 hc
  obtain ⟨best, e, hn⟩ := S.near hc a below
  refine ⟨best, hn, ?_⟩
  unfold f_ColumnVault_nearest
  rw [ze_b w.is, ze_b3 (w.sheetWith ht hc), ze_b S.ok, ze_b2 (S.kindOf hc), ze_b3 (zreqVal (ztd_V ha ha') h), ze_b2 (zf_keyOf ha k1 h), ze_b S.ok, ze_b2 e]
  by_cases hb : best = -9000000000
  · rw [if_pos hb, if_neg (fun x => x hb), if_pos (zlim hB)]
  · rw [if_neg hb, if_pos hb]
    have hk : zokK ((ver now t).kd c) best := by
      rcases hn with ⟨x, _⟩ | ⟨_, ⟨r, hr, x⟩, _⟩
      · exact absurd x hb
      · rw [← x]; exact (w.F ht).k hc hr
    rw [ze_b2 (zf_toldOf hk k1 h)]
theorem zWd.alike (w : zWd h now ver tx pr gr) {t t' : Nat} (ht : t < 3) (ht' : t' < 3) (hk : (ver now t).nc = (ver now t').nc ∧ ∀ c, c < (ver now t).nc → (ver now t).kd c = (ver now t').kd c) :
    f_ColumnVault_alike 1 (nI t) (nI t') 0 h = some (.inl (nI (fb_ct (zTa (ver now t) (ver now t') (ver now t').nr) (ver now t).nr)), h) ∧
    f_ColumnVault_alike 1 (nI t) (nI t') 1 h = some (.inl (nI (fb_ct (zDf (ver now t)) (ver now t).nr + fb_ct (zOn (ver now t') (ver now t)) (ver now t').nr)), h) ∧
    f_ColumnVault_alike 1 (nI t) (nI t') 2 h = some (.inl (nI (fb_ct (zDf (ver now t)) (ver now t).nr - fb_ct (zOn (ver now t) (ver now t')) (ver now t).nr)), h) ∧
    f_ColumnVault_alike 1 (nI t) (nI t') 3 h = some (.inl (nI (fb_ct (zOn (ver now t) (ver now t')) (ver now t).nr)), h) := by
  have S := w.T ht
  have S' := w.T ht'
  have h40 := S.r40
  have hle : fb_ct (zOn (ver now t) (ver now t')) (ver now t).nr ≤ fb_ct (zDf (ver now t)) (ver now t).nr := fb_ct_sub fun k _ hx => by
    unfold zOn at hx
    exact (Bool.and_eq_true_iff.mp hx).1
  have hlt := fb_ct_le (zDf (ver now t)) (ver now t).nr
  refine ⟨?_, ?_, ?_, ?_⟩
  · unfold f_ColumnVault_alike
    rw [ze_b w.is, ze_b3 (w.sheetOf ht), ze_b w.is, ze_b3 (w.sheetOf ht'), ze_b S.ok, ze_b2 (S.kinds S' (w.F ht) (w.F ht')), decide_eq_true hk, if_pos (by decide), if_pos rfl, ze_b S.ok, ze_b2 (S.left S' hk.1)]
  · unfold f_ColumnVault_alike
    rw [ze_b w.is, ze_b3 (w.sheetOf ht), ze_b w.is, ze_b3 (w.sheetOf ht'), ze_b S.ok, ze_b2 (S.kinds S' (w.F ht) (w.F ht')), decide_eq_true hk, if_pos (by decide), if_neg (by decide), if_pos rfl, ze_b S.ok, ze_b2 S.diffRows, ze_b2 (zB_cnt (by omega) h), ze_b S'.ok, ze_b2 (S'.onlyHere S hk.1.symm), nI_add]
  · unfold f_ColumnVault_alike
    rw [ze_b w.is, ze_b3 (w.sheetOf ht), ze_b w.is, ze_b3 (w.sheetOf ht'), ze_b S.ok, ze_b2 (S.kinds S' (w.F ht) (w.F ht')), decide_eq_true hk, if_pos (by decide), if_neg (by decide), if_neg (by decide), if_pos rfl, ze_b S.ok, ze_b2 S.diffRows, ze_b2 (zB_cnt (by omega) h), ze_b S.ok, ze_b2 (S.onlyHere S' hk.1), pk_sub hle]
  · unfold f_ColumnVault_alike
    rw [ze_b w.is, ze_b3 (w.sheetOf ht), ze_b w.is, ze_b3 (w.sheetOf ht'), ze_b S.ok, ze_b2 (S.kinds S' (w.F ht) (w.F ht')), decide_eq_true hk, if_pos (by decide), if_neg (by decide), if_neg (by decide), if_neg (by decide), if_pos rfl, ze_b S.ok, ze_b2 (S.onlyHere S' hk.1)]
theorem zWd.alikeNo (w : zWd h now ver tx pr gr) {t t' : Nat} (ht : t < 3) (ht' : t' < 3) (hk : ¬ ((ver now t).nc = (ver now t').nc ∧ ∀ c, c < (ver now t).nc → (ver now t).kd c = (ver now t').kd c)) (x : Int32) (hB : zM h ≤ 7200000) : f_ColumnVault_alike 1 (nI t) (nI t') x h = some (.inr 14, h ++ [.inr (14, [])]) := by
  have S := w.T ht
  have S' := w.T ht'
  unfold f_ColumnVault_alike
  rw [ze_b w.is, ze_b3 (w.sheetOf ht), ze_b w.is, ze_b3 (w.sheetOf ht'), ze_b S.ok, ze_b2 (S.kinds S' (w.F ht) (w.F ht')), decide_eq_false hk, if_neg (by decide), if_pos (zlim hB)]
end ZAP

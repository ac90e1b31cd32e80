/-! ===== means and shares; the groups asked ===== -/
section ZFP
def zgd (f : FP.Core.Fmt) : FP.Core.Datum → Prop
  | .nan => False
  | .inf _ => True
  | .fin _ c q => c < 2 ^ f.p ∧ q ≤ f.qmax
theorem zgd_bound {f : FP.Core.Fmt} {s : Bool} {c : Nat} {q : Int} (h : c < 2 ^ f.p) : zgd f (FP.Core.bound f s c q) := by
  unfold FP.Core.bound
  by_cases e : q ≤ f.qmax
  · rw [if_pos e]; exact ⟨h, e⟩
  · rw [if_neg e]; exact True.intro
theorem zgd_settle {s : Bool} {c : Nat} {q : Int} : zgd FP.Core.b64 (FP.Core.settle FP.Core.b64 s c q) := by
  unfold FP.Core.settle
  by_cases e : c < 2 ^ FP.Core.b64.p
  · rw [if_pos e]; exact zgd_bound e
  · rw [if_neg e]; exact zgd_bound (by decide)
theorem zgd_ratio {s : Bool} {n d : Nat} {e : Int} : zgd FP.Core.b64 (FP.Core.roundRatio FP.Core.b64 s n d e) := by
  unfold FP.Core.roundRatio
  by_cases h : n = 0
  · rw [if_pos h]
    exact ⟨by decide, by decide⟩
  · rw [if_neg h]; exact zgd_settle
theorem zgd_enc : ∀ {d : FP.Core.Datum}, zgd FP.Core.b64 d → FP.Core.encode FP.Core.b64 d < 18446744073709551616 ∧ FP.Core.encode FP.Core.b64 d % 9223372036854775808 ≤ 9218868437227405312
  | .nan, h => h.elim
  | .inf s, _ => by cases s <;> decide
  | .fin s c q, h => by
    have h1 : c < 9007199254740992 := h.1
    have h2 : q ≤ 971 := h.2
    have eq : FP.Core.b64.qmin = -1074 := by decide
    have et : FP.Core.b64.tails = 4503599627370496 := by decide
    have ee : FP.Core.b64.exps = 2048 := by decide
    have hE : FP.Core.encode FP.Core.b64 (.fin s c q) = if c < 4503599627370496 then (s.toNat * 2048 + 0) * 4503599627370496 + c else (s.toNat * 2048 + ((q - -1074).toNat + 1)) * 4503599627370496 + (c - 4503599627370496) := by
      show (if c < FP.Core.b64.tails then FP.Core.assemble FP.Core.b64 s 0 c else FP.Core.assemble FP.Core.b64 s ((q - FP.Core.b64.qmin).toNat + 1) (c - FP.Core.b64.tails)) = _
      unfold FP.Core.assemble
      rw [et, ee, eq]
    rw [hE]
    by_cases e : c < 4503599627370496
    · rw [if_pos e]
      cases s
      · show (0 * 2048 + 0) * 4503599627370496 + c < _ ∧ ((0 * 2048 + 0) * 4503599627370496 + c) % _ ≤ _
        omega
      · show (1 * 2048 + 0) * 4503599627370496 + c < _ ∧ ((1 * 2048 + 0) * 4503599627370496 + c) % _ ≤ _
        omega
    · rw [if_neg e]
      generalize hk : (q - -1074).toNat = k
      have hk2 : k ≤ 2045 := by omega
      cases s
      · show (0 * 2048 + (k + 1)) * 4503599627370496 + (c - 4503599627370496) < _ ∧ ((0 * 2048 + (k + 1)) * 4503599627370496 + (c - 4503599627370496)) % _ ≤ _
        omega
      · show (1 * 2048 + (k + 1)) * 4503599627370496 + (c - 4503599627370496) < _ ∧ ((1 * 2048 + (k + 1)) * 4503599627370496 + (c - 4503599627370496)) % _ ≤ _
        omega
theorem zdec_nan {n : Nat} (h : n % 9223372036854775808 ≤ 9218868437227405312) : FP.Core.decode FP.Core.b64 n ≠ .nan := by
  have et : FP.Core.b64.tails = 4503599627370496 := by decide
  have ee : FP.Core.b64.exps = 2048 := by decide
  unfold FP.Core.decode FP.Core.fieldE FP.Core.fieldT
  rw [et, ee]
  by_cases e1 : n / 4503599627370496 % 2048 = 2048 - 1
  · rw [if_pos e1, if_pos (by omega)]
    exact fun x => by cases x
  · rw [if_neg e1]
    by_cases e2 : n / 4503599627370496 % 2048 = 0
    · rw [if_pos e2]; exact fun x => by cases x
    · rw [if_neg e2]; exact fun x => by cases x
def zfinD : FP.Core.Datum → Bool
  | .fin _ d _ => d != 0
  | _ => false
theorem zgd_quot : ∀ {x y : FP.Core.Datum}, x ≠ .nan → zfinD y = true → zgd FP.Core.b64 (FP.Core.quotient FP.Core.b64 x y)
  | .nan, _, h, _ => absurd rfl h
  | _, .nan, _, h => by cases h
  | _, .inf _, _, h => by cases h
  | .inf _, .fin _ _ _, _, _ => True.intro
  | .fin s c q, .fin t d r, _, h => by
    have hd : d ≠ 0 := by
      intro e
      subst e
      cases h
    show zgd FP.Core.b64 (if d = 0 then _ else _)
    rw [if_neg hd]
    exact zgd_ratio
theorem zord_eq : ∀ {x : FP.Core.Datum}, x ≠ .nan → FP.Core.order x x = some .eq
  | .nan, h => absurd rfl h
  | .inf s, _ => by
    show some (compare _ _) = _
    cases s <;> rfl
  | .fin s c q, _ => by
    show some (compare _ _) = _
    have hc : ∀ a : Int, compare a a = Ordering.eq := fun a => by
      show compareOfLessAndEq a a = _
      unfold compareOfLessAndEq
      rw [if_neg (by omega), if_pos rfl]
    rw [hc]
theorem zfin40 : ∀ n, n < 41 → n ≠ 0 → zfinD (FP.Core.decode FP.Core.b64 (FP.i2d (nI n)).toNat) = true := by decide +kernel
theorem zround_gd : ∀ {i : Int}, zgd FP.Core.b64 (FP.Core.round FP.Core.b64 (FP.Core.ofInt i)) := fun {_} => zgd_ratio
theorem zu64 {n : Nat} (h : n < 18446744073709551616) : (UInt64.ofNat n).toNat = n := by
  rw [UInt64.toNat_ofNat']
  exact Nat.mod_eq_of_lt h
theorem zmean_ok (s : Int64) {n : Nat} (h1 : 1 ≤ n) (h2 : n ≤ 40) : ((FP.ddiv (FP.l2d s) (FP.i2d (nI n))) &&& 0x7fffffffffffffff ≤ 0x7ff0000000000000) ∧ FP.dcmp (FP.ddiv (FP.l2d s) (FP.i2d (nI n))) (FP.ddiv (FP.l2d s) (FP.i2d (nI n))) = some .eq := by
  have hs := zgd_enc (zround_gd (i := s.toInt))
  have es : (FP.l2d s).toNat = FP.Core.encode FP.Core.b64 (FP.Core.round FP.Core.b64 (FP.Core.ofInt s.toInt)) := zu64 hs.1
  have d1 : FP.Core.decode FP.Core.b64 (FP.l2d s).toNat ≠ .nan := by rw [es]; exact zdec_nan hs.2
  have d2 := zfin40 n (by omega) (by omega)
  have hq := zgd_enc (zgd_quot d1 d2)
  have eq : (FP.ddiv (FP.l2d s) (FP.i2d (nI n))).toNat = FP.Core.encode FP.Core.b64 (FP.Core.quotient FP.Core.b64 (FP.Core.decode FP.Core.b64 (FP.l2d s).toNat) (FP.Core.decode FP.Core.b64 (FP.i2d (nI n)).toNat)) := zu64 hq.1
  rw [← eq] at hq
  refine ⟨?_, zord_eq (zdec_nan hq.2)⟩
  rw [UInt64.le_iff_toNat_le, UInt64.toNat_and]
  have e1 : (0x7fffffffffffffff : UInt64).toNat = 2 ^ 63 - 1 := by decide
  have e2 : (0x7ff0000000000000 : UInt64).toNat = 9218868437227405312 := by decide
  rw [e1, e2, Nat.and_two_pow_sub_one_eq_mod]
  exact hq.2
theorem zi2d {n : Nat} (h : n < 2 ^ 31) : FP.i2d (nI n) = FP.l2d (lN n) := by
  show UInt64.ofNat (FP.Core.fromInt FP.Core.b64 (nI n).toInt) = UInt64.ofNat (FP.Core.fromInt FP.Core.b64 (lN n).toInt)
  rw [nI_toInt h, zN_t (by omega)]
theorem zshare : ∀ n, n < 41 → ∀ m, m < 41 → m ≠ 0 → ((FP.fdiv (FP.i2f (nI n)) (FP.i2f (nI m))) &&& 0x7fffffff ≤ 0x7f800000) ∧ FP.fcmp (FP.fdiv (FP.i2f (nI n)) (FP.i2f (nI m))) (FP.fdiv (FP.i2f (nI n)) (FP.i2f (nI m))) = some .eq := by decide +kernel
variable {h g : zx_H} {now : Nat} {ver : Nat → Nat → zT} {tx : List Nat} {pr : Nat × (Nat → Nat) × (Nat → Int32)} {gr : zT × Nat × Nat × (Nat → Int64) × (Nat → Nat → Bool)}
theorem zWd.share (w : zWd h now ver tx pr gr) {t : Nat} (ht : t < 3) (h0 : (ver now t).nr ≠ 0) : f_ColumnVault_chosenShare 1 (nI t) h = some (.inl (FP.fdiv (FP.i2f (nI (fb_ct (ver now t).ch (ver now t).nr))) (FP.i2f (nI (ver now t).nr))), h) := by
  have S := w.T ht
  have h40 := S.r40
  have hle := fb_ct_le (ver now t).ch (ver now t).nr
  unfold f_ColumnVault_chosenShare
  rw [ze_b w.is, ze_b3 (w.sheetOf ht), ze_b S.I4, if_pos (nI_ne0 (by omega) (by omega)), ze_b S.J5, ze_b2 (zB_cnt (by omega) h), ze_b S.I4, if_pos (zshare _ (by omega) _ (by omega) h0).1]
theorem zWd.mean (w : zWd h now ver tx pr gr) {t c : Nat} (ht : t < 3) (hc : c < (ver now t).nc) (hk : (ver now t).kd c = 0) (h0 : fb_ct (zKn (ver now t) c (ver now t).ch) (ver now t).nr ≠ 0) : f_ColumnVault_meanOf 1 (nI t) (nI c) h = some (.inl (FP.ddiv (FP.l2d (zs (fun r => if (ver now t).ky c r ≠ -9000000000 ∧ (ver now t).ch r = true then (ver now t).ky c r else 0) (ver now t).nr)) (FP.i2d (nI (fb_ct (zKn (ver now t) c (ver now t).ch) (ver now t).nr)))), h) := by
  have S := w.T ht
  have F := w.F ht
  have h40 := S.r40
  have hle := fb_ct_le (zKn (ver now t) c (ver now t).ch) (ver now t).nr
  have en : f_ColumnVault_requireNumbers (zq now t) (nI c) h = some (.inl (), h) := by
    unfold f_ColumnVault_requireNumbers
    rw [ze_b S.ok, ze_b2 (S.kindOf hc), hk, if_pos (by decide)]
  have ec : f_Long_bitCount (zB (ver now t).ch (ver now t).nr &&& zB (fun r => decide ((ver now t).ky c r ≠ -9000000000)) (ver now t).nr) h = some (nI (fb_ct (zKn (ver now t) c (ver now t).ch) (ver now t).nr), h) := by
    rw [zB_and (by omega)]
    exact zB_cnt (by omega) h
  unfold f_ColumnVault_meanOf
  rw [ze_b w.is, ze_b3 (w.sheetWith ht hc), ze_b3 en, ze_b S.J5, ze_b S.ok, ze_b2 (S.known F hc), ze_b2 ec, if_pos (nI_ne0 (by omega) (by omega)), ze_b S.J5, ze_b S.ok, ze_b2 (S.sumOf hc _), if_pos (zmean_ok _ (by omega) (by omega)).1]
end ZFP
section ZGA
variable {h g : zx_H} {now : Nat} {ver : Nat → Nat → zT} {tx : List Nat} {pr : Nat × (Nat → Nat) × (Nat → Int32)} {gr : zT × Nat × Nat × (Nat → Int64) × (Nat → Nat → Bool)}
/-- groups made: the table then, the column, how many, keys -/
def zgr (T : zT) (c m : Nat) (G : Nat → Int64) : zT × Nat × Nat × (Nat → Int64) × (Nat → Nat → Bool) := (T, c, m, G, fun a => zMb T c T.nr (G a))
theorem zWd.group (w : zWd h now ver tx pr gr) {t c : Nat} (ht : t < 3) (hc : c < (ver now t).nc) : ∃ g m G, f_ColumnVault_group 1 (nI t) (nI c) h = some (.inl (nI m), g) ∧ zWd g now ver tx pr (zgr (ver now t) c m G) ∧ zGs (ver now t) c (ver now t).nr m G ∧ m ≤ 40 ∧ zU 157 7 h g := by
  have S := w.T ht
  have hb := zq_b (v := now) ht
  obtain ⟨g, m, G, e, hg, hs, U⟩ := zgmake (q := 157) (by decide) S (w.F ht) hc w.grs.A (by omega)
  have X := zG_U U (a := 157) (b := 164) (by omega) (by omega)
  have w' : zWd g now ver tx pr (zgr (ver now t) c m G) := ⟨w.v.G X (by omega), w.hi.G X (by omega), w.txt.G X (by omega), w.tk.G X (by omega), w.prs.G X (by omega), hg, w.ck.G X (by omega)⟩
  refine ⟨g, m, G, ?_, w', hs, hg.2.2.2.2.2, U⟩
  unfold f_ColumnVault_group
  rw [ze_b (zh_A w.v rfl), ze_b w.is, ze_b3 (w.sheetWith ht hc), ze_b (zh_is w.grs.1), ze_b2 e, ze_b (zh_A w'.v rfl), ze_b (zh_I hg.1 rfl)]
theorem zWd.reqGrp (w : zWd h now ver tx pr gr) {a : Nat} (ha : a < gr.2.2.1) : f_ColumnVault_requireGroup 1 (nI a) h = some (.inl (), h) := by
  have := w.grs.2.2.2.2.2
  unfold f_ColumnVault_requireGroup
  rw [if_neg (nI_pos (by omega)), ze_b (zh_A w.v rfl), ze_b (zh_I w.grs.1 rfl), if_pos (nI_lt ha (by omega))]
theorem zWd.reqGrpNo (w : zWd h now ver tx pr gr) {a : Nat} (ha : gr.2.2.1 ≤ a) (h2 : a < 2 ^ 30) (hB : zM h ≤ 7200000) : f_ColumnVault_requireGroup 1 (nI a) h = some (.inr 13, h ++ [.inr (13, [])]) := by
  have := w.grs.2.2.2.2.2
  unfold f_ColumnVault_requireGroup
  rw [if_neg (nI_pos (by omega)), ze_b (zh_A w.v rfl), ze_b (zh_I w.grs.1 rfl), if_neg (nI_nlt ha (by omega)), if_pos (zlim hB)]
theorem zWd.groupAtNo (w : zWd h now ver tx pr gr) {a : Nat} (ha : gr.2.2.1 ≤ a) (h2 : a < 2 ^ 30) (x : Int32) (hB : zM h ≤ 7200000) : f_ColumnVault_groupAt 1 (nI a) x h = some (.inr 13, h ++ [.inr (13, [])]) := by
  unfold f_ColumnVault_groupAt
  rw [ze_b w.is, ze_b3E (w.reqGrpNo ha h2 hB)]
theorem zGrp.rowsIn {q : Nat} {T : zT} {c m : Nat} {G : Nat → Int64} {M : Nat → Nat → Bool} (H : zGrp h q T c m G M) {a : Nat} (ha : a < m) : f_Groups_rowsIn q (nI a) h = some (zB (M a) T.nr, h) := by
  obtain ⟨h1, h2, h3, ⟨f4, h4, h5⟩, ⟨f6, h6, h7⟩, h8⟩ := H
  have l := zh_ldJ h6 (show a < 40 by omega) (by decide)
  rw [h7 a ha] at l
  unfold f_Groups_rowsIn
  rw [if_neg (nI_pos (by omega)), ze_b (zh_I h1 rfl), if_neg (nI_ge ha (by omega)), ze_b (zh_A h1 rfl), ze_b l]
theorem zGrp.keyOf {q : Nat} {T : zT} {c m : Nat} {G : Nat → Int64} {M : Nat → Nat → Bool} (H : zGrp h q T c m G M) {a : Nat} (ha : a < m) : f_Groups_keyOfGroup q (nI a) h = some (G a, h) := by
  obtain ⟨h1, h2, h3, ⟨f4, h4, h5⟩, ⟨f6, h6, h7⟩, h8⟩ := H
  have l := zh_ldJ h4 (show a < 40 by omega) (by decide)
  rw [h5 a ha] at l
  unfold f_Groups_keyOfGroup
  rw [if_neg (nI_pos (by omega)), ze_b (zh_I h1 rfl), if_neg (nI_ge ha (by omega)), ze_b (zh_A h1 rfl), ze_b l]
variable {T : zT} {c m : Nat} {G : Nat → Int64}
theorem zWd.groupAt0 (w : zWd h now ver tx pr (zgr T c m G)) (hc : c < T.nc) (gs : zGs T c T.nr m G) {a : Nat} (ha : a < m) : f_ColumnVault_groupAt 1 (nI a) 0 h = some (.inl (ztd (T.kd c) (G a)), h) := by
  have H : zGrp h 157 T c m G (fun a => zMb T c T.nr (G a)) := w.grs
  have S := H.2.1
  have F := H.2.2.1
  have hok : zokK (T.kd c) (G a) := by
    obtain ⟨r, r1, r2, r3⟩ := gs.2.1 a ha
    rw [← r3]; exact F.k hc r1
  have ev : f_Groups_valueAt 157 (nI a) h = some (ztd (T.kd c) (G a), h) := by
    unfold f_Groups_valueAt
    rw [ze_b (zh_A H.1 rfl), ze_b (zh_I H.1 rfl), ze_b S.ok, ze_b2 (S.kindOf hc), ze_b (zh_is H.1), ze_b2 (H.keyOf ha), ze_b2 (zf_toldOf hok (F.k1 hc) h)]
  unfold f_ColumnVault_groupAt
  rw [ze_b w.is, ze_b3 (w.reqGrp ha), if_pos rfl, ze_b (zh_A w.v rfl), ze_b (zh_is H.1), ze_b2 ev]
theorem zWd.groupAt1 (w : zWd h now ver tx pr (zgr T c m G)) {a : Nat} (ha : a < m) : f_ColumnVault_groupAt 1 (nI a) 1 h = some (.inl (lN (fb_ct (zMb T c T.nr (G a)) T.nr)), h) := by
  have H : zGrp h 157 T c m G (fun a => zMb T c T.nr (G a)) := w.grs
  have S := H.2.1
  have h40 := S.r40
  have hle := fb_ct_le (zMb T c T.nr (G a)) T.nr
  have ec : f_Long_bitCount (zB (zMb T c T.nr (G a)) T.nr) h = some (nI (fb_ct (zMb T c T.nr (G a)) T.nr), h) := zB_cnt (by omega) h
  unfold f_ColumnVault_groupAt
  rw [ze_b w.is, ze_b3 (w.reqGrp ha), if_neg (by decide), if_pos rfl, ze_b (zh_A w.v rfl), ze_b (zh_is H.1), ze_b2 (H.rowsIn ha)]
  show zf_b2 (f_Long_bitCount (zB (zMb T c T.nr (G a)) T.nr) h) _ = _
  rw [ze_b2 ec, nI_l (by omega)]
theorem zWd.groupAt2 (w : zWd h now ver tx pr (zgr T c m G)) {a : Nat} (ha : a < m) : ∃ x, f_ColumnVault_groupAt 1 (nI a) 2 h = some (.inl x.toInt64, h) ∧ zFst (fun i => zMb T c T.nr (G a) (T.od i)) T.nr T.od x := by
  have H : zGrp h 157 T c m G (fun a => zMb T c T.nr (G a)) := w.grs
  have S : TS h 158 T := H.2.1
  have F : zWF T := H.2.2.1
  obtain ⟨x, e, hx⟩ := S.first F (zMb T c T.nr (G a))
  refine ⟨x, ?_, hx⟩
  unfold f_ColumnVault_groupAt
  rw [ze_b w.is, ze_b3 (w.reqGrp ha), if_neg (by decide), if_neg (by decide), if_pos rfl, ze_b (zh_A w.v rfl), ze_b (zh_A H.1 rfl), ze_b (zh_A w.v rfl), ze_b (zh_is H.1), ze_b2 (H.rowsIn ha)]
  show zf_b (zf_is 10 158 h) (fun _ => zf_b2 (f_Sheet_firstOf 158 (zB (zMb T c T.nr (G a)) T.nr) h) _) = _
  rw [ze_b S.ok, ze_b2 e]
theorem zWd.groupAt3 (w : zWd h now ver tx pr (zgr T c m G)) {a : Nat} (ha : a < m) : ∃ x, f_ColumnVault_groupAt 1 (nI a) 3 h = some (.inl x.toInt64, h) ∧ zLst (fun i => zMb T c T.nr (G a) (T.od i)) T.nr T.od x := by
  have H : zGrp h 157 T c m G (fun a => zMb T c T.nr (G a)) := w.grs
  have S : TS h 158 T := H.2.1
  have F : zWF T := H.2.2.1
  obtain ⟨x, e, hx⟩ := S.last F (zMb T c T.nr (G a))
  refine ⟨x, ?_, hx⟩
  unfold f_ColumnVault_groupAt
  rw [ze_b w.is, ze_b3 (w.reqGrp ha), if_neg (by decide), if_neg (by decide), if_neg (by decide), if_pos rfl, ze_b (zh_A w.v rfl), ze_b (zh_A H.1 rfl), ze_b (zh_A w.v rfl), ze_b (zh_is H.1), ze_b2 (H.rowsIn ha)]
  show zf_b (zf_is 10 158 h) (fun _ => zf_b2 (f_Sheet_lastOf 158 (zB (zMb T c T.nr (G a)) T.nr) h) _) = _
  rw [ze_b S.ok, ze_b2 e]
theorem zWd.groupTotalE (w : zWd h now ver tx pr (zgr T c m G)) {a : Nat} (ha : a < m) {c2 : Nat} (hc2 : c2 < T.nc) (x : Int32) {r : Int64 ⊕ Nat} {g : zx_H} (e : f_ColumnVault_totalOf 158 (nI c2) (zB (zMb T c T.nr (G a)) T.nr) x h = some (r, g)) : f_ColumnVault_groupTotal 1 (nI a) (nI c2) x h = some (r, g) := by
  have H : zGrp h 157 T c m G (fun a => zMb T c T.nr (G a)) := w.grs
  have S : TS h 158 T := H.2.1
  unfold f_ColumnVault_groupTotal
  rw [ze_b w.is, ze_b3 (w.reqGrp ha), ze_b (zh_A w.v rfl), ze_b (zh_A H.1 rfl)]
  show zf_b3 (f_ColumnVault_requireColumn 158 (nI c2) h) _ = _
  rw [ze_b3 (S.reqCol hc2), ze_b (zh_A w.v rfl), ze_b (zh_A H.1 rfl), ze_b (zh_A w.v rfl), ze_b (zh_is H.1), ze_b2 (H.rowsIn ha)]
  show zf_b3 (f_ColumnVault_totalOf 158 (nI c2) (zB (zMb T c T.nr (G a)) T.nr) x h) _ = _
  cases r with
  | inl v => rw [ze_b3 e]
  | inr E => rw [ze_b3E e]
end ZGA

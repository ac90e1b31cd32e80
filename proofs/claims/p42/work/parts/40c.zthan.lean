/-! ===== words, and how they compare ===== -/
section ZWO2
variable {h g j : zx_H} {k k' : Nat}
theorem zN_div {a d : Nat} (ha : a < 2 ^ 62) (h0 : 0 < d) (hd : d < 2 ^ 62) : lN a / lN d = lN (a / d) := by
  rw [zl_i, Int64.toInt_div, zN_t (by omega), zN_t (by omega)]
  have h1 : a / d ≤ a := Nat.div_le_self _ _
  rw [zN_t (by omega), Int.tdiv_eq_ediv_of_nonneg (by omega), ← Int.natCast_ediv]
  generalize a / d = q at h1
  exact fb_bmodL (by omega) (by omega)
theorem zN_rem {a : Nat} (ha : a < 2 ^ 62) : lN a - lN a / (256 : Int64) * (256 : Int64) = lN (a % 256) := by
  rw [show (256 : Int64) = lN 256 from rfl, zN_div ha (by decide) (by decide), lN_mul, lN_sub (by omega)]
  congr 1
  omega
theorem zcastw : ∀ c, c < 128 → (((lN c).toInt32).toUInt32 % 65536).toInt32 = nI c := by decide +kernel
/-- a letter put in front -/
theorem zSB_ins {q a m : Nat} {w : List Nat} (s : zSB h q a m w) {c : Nat} (hc : c < 128) (hw : w.length + 1 ≤ m) (hB : zM h ≤ 7000000) : ∃ g, f_StringBuilder_insert q 0 (nI c) h = some (q, g) ∧ zSB g q a m (c :: w) ∧ g.length = h.length ∧ zM g = zM h ∧ ∀ p, p ≠ q → p ≠ a → g[p]? = h[p]? := by
  have s0 := s
  have hl' := zlen (h := h) (by omega)
  obtain ⟨ml, f, e1, e2, h1, h2, h3, h4, h5⟩ := s
  have hne := s0.ne
  have ha := zlt_of e2
  have hnl : a ≠ zx_lim := by show a ≠ 1000000; omega
  -- room there is
  have er : f_AbstractStringBuilder_ensureCapacityInternal q (nI (w.length + 1)) h = some ((), h) := by
    unfold f_AbstractStringBuilder_ensureCapacityInternal
    have hcc : nI (w.length + 1) - nI m ≤ 0 := by
      rw [zi_e, pk_sub_toInt (by omega) (by omega)]
      show ((w.length + 1 : Nat) : Int) - m ≤ 0
      omega
    rw [ze_b (zh_A e1 rfl), ze_b (zh_len hnl e2 rfl), ze_b (zh_I e1 rfl), (zsh0 m (by omega)).1, if_pos hcc]
  have hfb : zx_fb f 0 w.length = true := zfb_mk fun i hi => zfb_all h3 (by omega)
  have n1 := zh_cpyB (sp := 0) (dp := 1) e2 e2 hfb (by omega) (by omega) (by omega) (by omega)
  generalize hg1 : h.set a (.inl (3, m, .inl (va_cpy f f 0 1 w.length))) = g1 at n1
  have c1 : g1[a]? = some (.inl (3, m, .inl (va_cpy f f 0 1 w.length))) := by rw [← hg1]; exact zh_set_s e2
  have c2 : g1[q]? = some (.inr (1, [.ref a, .int 0, .int ml, .int (nI w.length)])) := by rw [← hg1, zh_set_n (Ne.symm hne)]; exact e1
  have n2 := zh_put (k := 3) (v := .int (nI (w.length + 1))) c2 (by show _ < 4; decide)
  generalize hg2 : g1.set q (.inr (1, [.ref a, .int 0, .int ml, .int (nI (w.length + 1))])) = g2
  have n2 : zf_put 1 3 q (.int (nI (w.length + 1))) g1 = some g2 := n2.trans (congrArg some hg2)
  have d1 : g2[a]? = some (.inl (3, m, .inl (va_cpy f f 0 1 w.length))) := by rw [← hg2, zh_set_n hne]; exact c1
  have d2 : g2[q]? = some (.inr (1, [.ref a, .int 0, .int ml, .int (nI (w.length + 1))])) := by rw [← hg2]; exact zh_set_s c2
  have n3 := zh_stB (x := (nI c).toInt8.toInt32) (i := 0) d1 (by omega) (by omega)
  obtain ⟨b1, b2, b3⟩ := zfb_c2 c hc
  rw [b1] at n3
  generalize hg3 : g2.set a (.inl (3, m, .inl (upd (va_cpy f f 0 1 w.length) 0 (nI c)))) = g3 at n3
  have f1 : g3[a]? = some (.inl (3, m, .inl (upd (va_cpy f f 0 1 w.length) 0 (nI c)))) := by rw [← hg3]; exact zh_set_s d1
  have f2 : g3[q]? = some (.inr (1, [.ref a, .int 0, .int ml, .int (nI (w.length + 1))])) := by rw [← hg3, zh_set_n (Ne.symm hne)]; exact d2
  refine ⟨g3, ?_, ⟨ml, _, f2, f1, by show w.length + 1 ≤ m; exact hw, h2, zfb_mk fun i hi => ?_, fun i hi => ?_, fun x hx => ?_⟩, ?_, ?_, fun p p1 p2 => ?_⟩
  · have hz0 : (0 : Int32) <<< ((0 : Int32) &&& 31) = nI 0 := by decide
    have hz1 : ((0 : Int32) + 1) <<< ((0 : Int32) &&& 31) = nI 1 := by decide
    have hz2 : (nI w.length - (0 : Int32)) <<< ((0 : Int32) &&& 31) = nI w.length := by
      rw [show (0 : Int32) = nI 0 from rfl, pk_sub (Nat.zero_le _), Nat.sub_zero, ← show (0 : Int32) = nI 0 from rfl, (zsh0 w.length (by omega)).2]
    have hsh : f_AbstractStringBuilder_shift q 0 1 h = some ((), g1) := by
      unfold f_AbstractStringBuilder_shift
      rw [ze_b (zh_A e1 rfl), ze_b (zh_I e1 rfl), ze_b (zh_A e1 rfl), ze_b (zh_I e1 rfl), ze_b (zh_I e1 rfl), ze_b (zh_I e1 rfl), hz0, hz1, hz2, ze_b n1]
    have hof : f_String_checkOffset 0 (nI w.length) h = some ((), h) := by
      unfold f_String_checkOffset f_Preconditions_checkFromToIndex
      refine ze_b2 (a := 0) (g := h) ?_
      rw [if_neg (by decide), if_neg (show ¬ nI w.length < 0 from nI_pos (by omega)), if_pos (nI_le (Nat.le_refl _) (by omega))]
    have hv0 : fv_0 q g2 = some (1, g2) := by
      unfold fv_0
      rw [zh_kd d2, if_pos rfl]
      unfold f_AbstractStringBuilder_isLatin1
      rw [if_neg (by decide), ze_b (zh_I d2 rfl), if_neg (fun x => x rfl)]
    unfold f_StringBuilder_insert f_AbstractStringBuilder_insert f_StringLatin1_canEncode
    rw [ze_b (zh_is e1)]
    refine ze_b2 (a := q) (g := g3) ?_
    rw [ze_b (zh_I e1 rfl), ze_b2 hof, ze_b (zh_I e1 rfl), ze_b (zh_is e1), nI_1, ze_b2 er, ze_b (zh_is e1), ze_b2 hsh, ze_b (zh_I c2 rfl), nI_1, ze_b n2, ze_b2 hv0, if_neg (by decide), if_neg (show ¬ (255 : Int32) < nI c from nI_nlt (a := 255) (by omega) (by omega)), ze_b2 rfl, if_neg (by decide), ze_b (zh_A d2 rfl)]
    rw [show (0 : Int32) = nI 0 from rfl, ze_b n3]
  · by_cases c0 : i = 0
    · rw [c0, pk_us]; exact zfb_c c hc
    · rw [pk_un c0]
      by_cases c1 : i < 1 + w.length
      · rw [pk_cpy_in (by omega) c1]; exact zfb_all h3 (by omega)
      · rw [pk_cpy_out (by omega)]; exact zfb_all h3 hi
  · have hi : i < w.length + 1 := hi
    cases i with
    | zero => rw [pk_us]; rfl
    | succ i =>
      rw [pk_un (by omega), pk_cpy_in (by omega) (by omega), show 0 + (i + 1 - 1) = i by omega]
      exact h4 i (by omega)
  · rcases List.mem_cons.mp hx with rfl | hx
    · exact hc
    · exact h5 x hx
  · rw [← hg3, List.length_set, ← hg2, List.length_set, ← hg1, List.length_set]
  · have q1 : zx_sz g1 = zx_sz h := by rw [← hg1]; exact zh_set_sz e2 rfl
    have q2 : zx_sz g2 = zx_sz g1 := by rw [← hg2]; exact zh_set_sz c2 rfl
    have q3 : zx_sz g3 = zx_sz g2 := by rw [← hg3]; exact zh_set_sz d1 rfl
    have l3 : g3.length = h.length := by rw [← hg3, List.length_set, ← hg2, List.length_set, ← hg1, List.length_set]
    unfold zM
    rw [q3, q2, q1, l3]
  · rw [← hg3, zh_set_n (Ne.symm p2), ← hg2, zh_set_n (Ne.symm p1), ← hg1, zh_set_n (Ne.symm p2)]
theorem zword10 {q b M v : Nat} (hM : M ≤ 7) (hw : zwd M v) (hq : b ≤ q) : ∀ n i a h, i ≤ M → i < n → b ≤ a → zSB h q a 16 ((zltr M v).drop i) → zM h ≤ 6900000 → b ≤ h.length → ∃ g r, f_ColumnVaultLaw_word_10 n q (lN (v / 256 ^ (M - i))) h = some (r, g) ∧ zStr g r (zltr M v) ∧ h.length ≤ g.length ∧ zM g ≤ zM h + 44 ∧ (∀ p, p < b → g[p]? = h[p]?) ∧ b ≤ r := by
  have h56 := zwd_56 hM hw
  intro n
  induction n with
  | zero => intro i _ _ _ hn; exact absurd hn (Nat.not_lt_zero _)
  | succ n ih =>
    intro i a h hi hn ha s hB hbl
    have his : zf_is 1 q h = some () := by
      obtain ⟨ml, f, e1, _⟩ := s
      exact zh_is e1
    have hd0 : v / 256 ^ (M - i) ≤ v := Nat.div_le_self _ _
    unfold f_ColumnVaultLaw_word_10
    have e0 : ((0 : Int64)).toInt = 0 := by decide
    cases i with
    | zero =>
      rw [Nat.sub_zero, Nat.div_eq_of_lt (zwd_lt hw), if_pos (show lN 0 ≤ (0 : Int64) by decide), ze_b his]
      obtain ⟨g, e, st, G, _⟩ := zSB_toS s (by omega)
      rw [ze_b2 e]
      exact ⟨g, _, rfl, st, G.l, by have := G.m; omega, fun p hp => G.2.2 p (by omega) (Or.inr (Nat.zero_le _)), hbl⟩
    | succ i =>
      obtain ⟨z1, z2⟩ := zwd_sh hw (M - (i + 1))
      obtain ⟨y1, y2⟩ := z1 (by omega)
      have hne : ¬ lN (v / 256 ^ (M - (i + 1))) ≤ (0 : Int64) := by
        rw [zl_e, zN_t (by omega), e0]
        generalize v / 256 ^ (M - (i + 1)) = y at y1
        omega
      have hcc : v / 256 ^ (M - (i + 1)) % 256 = zwc M v i := by unfold zwc; rw [show M - (i + 1) = M - 1 - i by omega]
      rw [if_neg hne, ze_b his, zN_rem (by omega), zcastw _ (by omega)]
      obtain ⟨g1, e1, s1, l1, m1, f1⟩ := zSB_ins s (c := v / 256 ^ (M - (i + 1)) % 256) (by omega) (by rw [List.length_drop, zltr_len]; omega) (by omega)
      have hdr : (v / 256 ^ (M - (i + 1)) % 256) :: (zltr M v).drop (i + 1) = (zltr M v).drop i := by
        have hil : i < (zltr M v).length := by rw [zltr_len]; omega
        rw [List.drop_eq_getElem_cons hil]
        congr 1
        rw [hcc, ← zltr_get (show i < M by omega), List.getD_eq_getElem?_getD, List.getElem?_eq_getElem hil]
        rfl
      rw [hdr] at s1
      obtain ⟨g, r, e2, x1, x2, x3, x4, x5⟩ := ih i a g1 (by omega) (by omega) ha s1 (by omega) (by omega)
      have hdd : lN (v / 256 ^ (M - (i + 1))) / (256 : Int64) = lN (v / 256 ^ (M - i)) := by
        rw [show (256 : Int64) = lN 256 from rfl, zN_div (by omega) (by decide) (by decide), Nat.div_div_eq_div_mul, ← Nat.pow_succ]
        congr 3
        omega
      refine ⟨g, r, ?_, x1, by omega, by omega, fun p hp => by rw [x4 p hp, f1 p (by omega) (by omega)], x5⟩
      rw [ze_b2 e1, hdd]
      exact e2
theorem zword {M v : Nat} (hM : M ≤ 7) (hw : zwd M v) (hB : zM h ≤ 6800000) : ∃ g r, f_ColumnVaultLaw_word (lN v) h = some (r, g) ∧ zStr g r (zltr M v) ∧ zG 100 0 0 h g ∧ h.length ≤ r := by
  obtain ⟨g0, e0, s0, G0, l0⟩ := zSB_new (h := h) (by omega)
  have m0 := G0.m
  have hl := zlim (h := h) (by omega)
  rw [ze_b2 (zh_newO hl)] at e0
  have n2 : f_StringBuilder_init h.length (h ++ [.inr (1, zx_def 1)]) = some ((), g0) := by
    cases hx : f_StringBuilder_init h.length (h ++ [.inr (1, zx_def 1)]) with
    | none => rw [hx] at e0; cases e0
    | some r =>
      obtain ⟨u, g'⟩ := r
      rw [hx] at e0
      have e0 : some (h.length, g') = some (h.length, g0) := e0
      cases e0
      rfl
  have s0 : zSB g0 h.length (h.length + 1) 16 ((zltr M v).drop M) := by
    rw [List.drop_eq_nil_of_le (by rw [zltr_len]; exact Nat.le_refl _)]
    exact s0
  obtain ⟨g, r, e1, x1, x2, x3, x4, x5⟩ := zword10 (b := h.length) hM hw (Nat.le_refl _) zF M (h.length + 1) g0 (Nat.le_refl _) (by unfold zF; omega) (by omega) s0 (by omega) (by omega)
  refine ⟨g, r, ?_, x1, ⟨by omega, by omega, fun p hp _ => by rw [x4 p hp, G0.2.2 p hp (Or.inr (Nat.zero_le _))]⟩, x5⟩
  unfold f_ColumnVaultLaw_word
  rw [ze_b2 (zh_newO hl), ze_b2 n2]
  rw [Nat.sub_self, Nat.pow_zero, Nat.div_one] at e1
  exact e1
def zsig (x : Int32) : Int32 := (x >>> ((31 : Int32) &&& 31)) ||| (((-x)).toUInt32 >>> (((31 : Int32)).toUInt32 &&& Int32.toUInt32 31)).toInt32
theorem zsig_p : ∀ d, d < 128 → zsig (nI d) = if d = 0 then 0 else 1 := by decide +kernel
theorem zsig_n : ∀ d, d < 128 → 0 < d → zsig (-nI d) = -1 := by decide +kernel
theorem zsub_n {a b : Nat} (h : a < b) (hb : b < 2 ^ 30) : nI a - nI b = -nI (b - a) := by
  rw [zi_i, pk_sub_toInt (by omega) (by omega), sb_negT (by omega)]
  omega
theorem zsig_d {a b : Nat} (ha : a < 128) (hb : b < 128) : zsig (nI a - nI b) = if a < b then -1 else if a = b then 0 else 1 := by
  rcases Nat.lt_trichotomy a b with e | e | e
  · rw [if_pos e, zsub_n e (by omega), zsig_n _ (by omega) (by omega)]
  · rw [if_neg (by omega), if_pos e, e, pk_sub (Nat.le_refl _), Nat.sub_self]; decide
  · rw [if_neg (by omega), if_neg (by omega), pk_sub (by omega), zsig_p _ (by omega), if_neg (by omega)]
/-- how keys compare -/
def zcm (k k' : Int64) : Int32 := if k < k' then -1 else if k = k' then 0 else 1
theorem zmism {p p' a a' : Nat} {w w' : List Nat} (t : ∀ i, i < w.length → zf_ldB a (nI i) h = some (nI (w.getD i 0))) (t' : ∀ i, i < w'.length → zf_ldB a' (nI i) h = some (nI (w'.getD i 0))) (hc : ∀ c ∈ w, c < 128) (hc' : ∀ c ∈ w', c < 128) {L : Nat} (hL : L ≤ w.length) (hL' : L ≤ w'.length) (h7 : L ≤ 7) : (∃ i, i < L ∧ w.getD i 0 ≠ w'.getD i 0 ∧ (∀ j, j < i → w.getD j 0 = w'.getD j 0) ∧ f_ArraysSupport_mismatch a a' (nI L) h = some (nI i, h)) ∨ ((∀ j, j < L → w.getD j 0 = w'.getD j 0) ∧ f_ArraysSupport_mismatch a a' (nI L) h = some (-1, h)) := by
  have gm : ∀ {w : List Nat} {i : Nat}, i < w.length → w.getD i 0 ∈ w := fun {w i} hi => by rw [List.getD_eq_getElem?_getD, List.getElem?_eq_getElem hi]; exact List.getElem_mem hi
  have loop : ∀ n i, i ≤ L → L - i < n → (∀ j, j < i → w.getD j 0 = w'.getD j 0) → (∃ x, x < L ∧ w.getD x 0 ≠ w'.getD x 0 ∧ (∀ j, j < x → w.getD j 0 = w'.getD j 0) ∧ f_ArraysSupport_mismatch_49 n a a' (nI L) (nI i) h = some (nI x, h)) ∨ ((∀ j, j < L → w.getD j 0 = w'.getD j 0) ∧ f_ArraysSupport_mismatch_49 n a a' (nI L) (nI i) h = some (-1, h)) := by
    intro n
    induction n with
    | zero => intro i _ hn; exact absurd hn (Nat.not_lt_zero _)
    | succ n ih =>
      intro i hi hn hj
      unfold f_ArraysSupport_mismatch_49
      rcases Nat.lt_or_ge i L with hlt | hge
      · rw [if_neg (nI_ge hlt (by omega)), ze_b (t i (by omega)), ze_b (t' i (by omega))]
        have b1 := hc _ (gm (show i < w.length by omega))
        have b2 := hc' _ (gm (show i < w'.length by omega))
        by_cases e : w.getD i 0 = w'.getD i 0
        · rw [if_pos (by rw [e]), nI_1]
          exact ih (i + 1) hlt (by omega) (lt_s hj e)
        · rw [if_neg (by rw [nI_eq (by omega) (by omega)]; exact e)]
          exact Or.inl ⟨i, hlt, e, hj, rfl⟩
      · have e : i = L := Nat.le_antisymm hi hge
        subst e
        rw [if_pos (nI_le (Nat.le_refl _) (by omega))]
        exact Or.inr ⟨hj, rfl⟩
  unfold f_ArraysSupport_mismatch
  rw [if_pos (show nI L ≤ (7 : Int32) from nI_le (b := 7) h7 (by decide))]
  exact loop zF 0 (Nat.zero_le _) (by unfold zF; omega) (fun j hj => absurd hj (Nat.not_lt_zero _))
theorem zcompare {p p' M v M' v' : Nat} (t : zTx h p (zltr M v)) (t' : zTx h p' (zltr M' v')) (h1 : 1 ≤ M) (h7 : M ≤ 7) (h1' : 1 ≤ M') (h7' : M' ≤ 7) (hw : zwd M v) (hw' : zwd M' v') : ∃ x, f_String_compareTo p p' h = some (x, h) ∧ zsig x = zcm (lN (zwk M v)) (lN (zwk M' v')) := by
  have eb0 : narrow .byte (.int 0) = .int 0 := rfl
  obtain ⟨t1, t2, ta, t3, t4, t5, t6, t7, -⟩ := t
  obtain ⟨u1, u2, ua, u3, u4, u5, u6, u7, -⟩ := t'
  have k56 := zwk_56 h7 hw
  have k56' := zwk_56 h7' hw'
  have a7 : zwk M v < 256 ^ 7 := k56
  have a7' : zwk M' v' < 256 ^ 7 := k56'
  have hlM := zltr_len M v
  have hlM' := zltr_len M' v'
  have hL : ∃ L, (if nI M' < nI M then nI M' else nI M) = nI L ∧ L ≤ M ∧ L ≤ M' ∧ (L = M ∨ L = M') := by
    rcases Nat.lt_or_ge M' M with c | c
    · exact ⟨M', if_pos (nI_lt c (by omega)), by omega, Nat.le_refl _, Or.inr rfl⟩
    · exact ⟨M, if_neg (nI_nlt c (by omega)), Nat.le_refl _, c, Or.inl rfl⟩
  obtain ⟨L, eL, l1, l2, l3⟩ := hL
  have hcod : f_String_coder p h = some (0, h) := by
    unfold f_String_coder
    rw [if_neg (by decide), ze_b t2, if_pos eb0]
  have hcod' : f_String_coder p' h = some (0, h) := by
    unfold f_String_coder
    rw [if_neg (by decide), ze_b u2, if_pos eb0]
  have start : ∀ x, f_StringLatin1_compareToq2 ta ua (nI M) (nI M') h = some (x, h) → f_String_compareTo p p' h = some (x, h) := by
    intro x hx
    unfold f_String_compareTo f_StringLatin1_compareTo
    rw [hlM] at t4
    rw [hlM'] at u4
    rw [ze_b t3, ze_b u3, ze_b t1, ze_b2 hcod, ze_b u1, ze_b2 hcod', if_neg (fun x => x rfl), if_neg (fun x => x rfl)]
    refine ze_b2 (a := x) (g := h) ?_
    rw [ze_b t4, ze_b u4, ze_b2 hx]
  have hdg : ∀ j, j < 7 → zwk M v / 256 ^ (6 - j) % 256 = if j < M then (zltr M v).getD j 0 else 0 := fun j hj => by
    rw [zwk_d h7 hw hj]
    by_cases c : j < M
    · rw [if_pos c, if_pos c, zltr_get c]
    · rw [if_neg c, if_neg c]
  have hdg' : ∀ j, j < 7 → zwk M' v' / 256 ^ (6 - j) % 256 = if j < M' then (zltr M' v').getD j 0 else 0 := fun j hj => by
    rw [zwk_d h7' hw' hj]
    by_cases c : j < M'
    · rw [if_pos c, if_pos c, zltr_get c]
    · rw [if_neg c, if_neg c]
  have gm : ∀ {w : List Nat} {i : Nat}, i < w.length → w.getD i 0 ∈ w := fun {w i} hi => by rw [List.getD_eq_getElem?_getD, List.getElem?_eq_getElem hi]; exact List.getElem_mem hi
  have cmp : ∀ i, i < 7 → (∀ j, j < i → (if j < M then (zltr M v).getD j 0 else 0) = (if j < M' then (zltr M' v').getD j 0 else 0)) → (if i < M then (zltr M v).getD i 0 else 0) < (if i < M' then (zltr M' v').getD i 0 else 0) → zwk M v < zwk M' v' := fun i hi he hlt => zwk_lt hi a7 a7' (fun j hj => by rw [hdg j (by omega), hdg' j (by omega)]; exact he j hj) (by rw [hdg i hi, hdg' i hi]; exact hlt)
  have cmp' : ∀ i, i < 7 → (∀ j, j < i → (if j < M then (zltr M v).getD j 0 else 0) = (if j < M' then (zltr M' v').getD j 0 else 0)) → (if i < M' then (zltr M' v').getD i 0 else 0) < (if i < M then (zltr M v).getD i 0 else 0) → zwk M' v' < zwk M v := fun i hi he hlt => zwk_lt hi a7' a7 (fun j hj => by rw [hdg j (by omega), hdg' j (by omega)]; exact (he j hj).symm) (by rw [hdg i hi, hdg' i hi]; exact hlt)
  have zlt : zwk M v < zwk M' v' → zcm (lN (zwk M v)) (lN (zwk M' v')) = -1 := fun x => if_pos ((zN_l (by omega) (by omega)).mpr x)
  have zgt : zwk M' v' < zwk M v → zcm (lN (zwk M v)) (lN (zwk M' v')) = 1 := fun x => by
    unfold zcm
    rw [if_neg (by rw [zN_l (by omega) (by omega)]; omega), if_neg (by rw [zN_i (by omega) (by omega)]; omega)]
  rcases zmism (p := p) (p' := p') (h := h) t5 u5 t6 u6 (L := L) (by rw [hlM]; exact l1) (by rw [hlM']; exact l2) (by omega) with ⟨i, hi, hd, he, em⟩ | ⟨he, em⟩
  · have b1 := t6 _ (gm (show i < (zltr M v).length by omega))
    have b2 := u6 _ (gm (show i < (zltr M' v').length by omega))
    obtain ⟨c1, c2⟩ := zchr _ b1
    obtain ⟨c3, c4⟩ := zchr _ b2
    refine ⟨_, start (nI ((zltr M v).getD i 0) - nI ((zltr M' v').getD i 0)) ?_, ?_⟩
    · unfold f_StringLatin1_compareToq2 f_StringLatin1_getChar
      rw [eL, ze_b2 em, if_pos (show (0 : Int32) ≤ nI i from nI_pos' (by omega))]
      have r1 : (zf_b (zf_ldB ta (nI i) h) fun v1 => if narrow .char (.int ((((v1 &&& (255 : Int32))).toUInt32 % 65536).toInt32)) = .int ((((v1 &&& (255 : Int32))).toUInt32 % 65536).toInt32) then some ((((v1 &&& (255 : Int32))).toUInt32 % 65536).toInt32, h) else none) = some (nI ((zltr M v).getD i 0), h) := by
        rw [ze_b (t5 i (by omega)), c1, if_pos c2]
      have r2 : (zf_b (zf_ldB ua (nI i) h) fun v1 => if narrow .char (.int ((((v1 &&& (255 : Int32))).toUInt32 % 65536).toInt32)) = .int ((((v1 &&& (255 : Int32))).toUInt32 % 65536).toInt32) then some ((((v1 &&& (255 : Int32))).toUInt32 % 65536).toInt32, h) else none) = some (nI ((zltr M' v').getD i 0), h) := by
        rw [ze_b (u5 i (by omega)), c3, if_pos c4]
      rw [ze_b2 r1, ze_b2 r2]
    · rw [zsig_d b1 b2]
      have hpre : ∀ j, j < i → (if j < M then (zltr M v).getD j 0 else 0) = (if j < M' then (zltr M' v').getD j 0 else 0) := fun j hj => by
        rw [if_pos (by omega), if_pos (by omega)]; exact he j hj
      rcases Nat.lt_trichotomy ((zltr M v).getD i 0) ((zltr M' v').getD i 0) with e | e | e
      · rw [if_pos e, zlt (cmp i (by omega) hpre (by rw [if_pos (by omega), if_pos (by omega)]; exact e))]
      · exact absurd e hd
      · rw [if_neg (by omega), if_neg (by omega), zgt (cmp' i (by omega) hpre (by rw [if_pos (by omega), if_pos (by omega)]; exact e))]
  · refine ⟨_, start (nI M - nI M') ?_, ?_⟩
    · unfold f_StringLatin1_compareToq2
      rw [eL, ze_b2 em, if_neg (by decide)]
    · rw [zsig_d (by omega) (by omega)]
      rcases Nat.lt_trichotomy M M' with e | e | e
      · have hpre : ∀ j, j < M → (if j < M then (zltr M v).getD j 0 else 0) = (if j < M' then (zltr M' v').getD j 0 else 0) := fun j hj => by
          rw [if_pos (by omega), if_pos (by omega)]; exact he j (by omega)
        have hl := (zltr_c hw' _ (gm (show M < (zltr M' v').length by omega))).1
        rw [if_pos e, zlt (cmp M (by omega) hpre (by rw [if_neg (by omega), if_pos (by omega)]; omega))]
      · rw [if_neg (by omega), if_pos e]
        have heq : zwk M v = zwk M' v' := by
          have h0 := zwk_pre (k := 7) (Nat.le_refl _) a7 a7' (fun j hj => by
            rw [hdg j hj, hdg' j hj]
            by_cases c : j < M
            · rw [if_pos c, if_pos (by omega)]; exact he j (by omega)
            · rw [if_neg c, if_neg (by omega)])
          rw [Nat.sub_self, Nat.pow_zero, Nat.div_one, Nat.div_one] at h0
          exact h0
        unfold zcm
        rw [heq, if_neg (by rw [zN_l (by omega) (by omega)]; omega), if_pos rfl]
      · have hpre : ∀ j, j < M' → (if j < M then (zltr M v).getD j 0 else 0) = (if j < M' then (zltr M' v').getD j 0 else 0) := fun j hj => by
          rw [if_pos (by omega), if_pos (by omega)]; exact he j (by omega)
        have hl := (zltr_c hw _ (gm (show M' < (zltr M v).length by omega))).1
        rw [if_neg (by omega), if_neg (by omega), zgt (cmp' M' (by omega) hpre (by rw [if_neg (by omega), if_pos (by omega)]; omega))]
/-- two values, told of two keys -/
theorem zthan {kd : Nat} {k k' : Int64} (hk : zokK kd k) (hk' : zokK kd k') (hn : k ≠ -9000000000) (hn' : k' ≠ -9000000000) (hB : zM h ≤ 6700000) : ∃ g, f_ColumnVaultLaw_than (nI kd) (ztd kd k) (ztd kd k') h = some (zcm k k', g) ∧ zG 200 0 0 h g := by
  unfold f_ColumnVaultLaw_than
  rcases hk with hk | ⟨rfl, _, _⟩ | ⟨rfl, M, v, h1, h7, hw, rfl⟩
  · exact absurd hk hn
  · rw [ztd_0, ztd_0, if_pos (by decide)]
    refine ⟨h, ?_, zG.refl.w (Nat.zero_le _) (Nat.le_refl _) (Nat.le_refl _)⟩
    refine ze_b2 (a := zcm k k') (g := h) ?_
    unfold f_Long_compare zcm
    by_cases c : k' ≤ k
    · rw [if_pos c, if_neg (show ¬ k < k' by rw [zl_e] at c; rw [zl_t]; omega)]
      by_cases e : k = k'
      · rw [if_neg (fun x => x e), if_pos e]
      · rw [if_pos e, if_neg e]
    · rw [if_neg c, if_pos (by rw [zl_e] at c; rw [zl_t]; omega)]
  · rcases hk' with hk' | ⟨hx, _, _⟩ | ⟨_, M', v', h1', h7', hw', rfl⟩
    · exact absurd hk' hn'
    · exact absurd hx (by decide)
    · rw [ztd_w h1 h7 hw, ztd_w h1' h7' hw', if_neg (by decide)]
      obtain ⟨g1, r1, e1, st1, G1, l1⟩ := zword (h := h) h7 hw (by omega)
      have m1 := G1.m
      obtain ⟨g2, r2, e2, st2, G2, l2⟩ := zword (h := g1) h7' hw' (by omega)
      have m2 := G2.m
      have st1' : zStr g2 r1 (zltr M v) := by
        obtain ⟨a, x, y, f, x1, x2, hr⟩ := st1
        exact ⟨a, x, y, f, G2.gt x1 (Or.inr (Nat.zero_le _)), G2.gt x2 (Or.inr (Nat.zero_le _)), hr⟩
      have hl2 := zlen (h := g2) (by omega)
      obtain ⟨x, ex, hx⟩ := zcompare (st1'.tx hl2) (st2.tx hl2) h1 h7 h1' h7' hw hw'
      refine ⟨g2, ?_, (G1.t G2).w (by omega) (Nat.le_refl _) (Nat.le_refl _)⟩
      rw [ze_b2 e1, ze_b2 e2, ze_b (st1'.tx hl2).1, ze_b2 ex]
      unfold f_Integer_signum
      rw [ze_b2 rfl]
      show some (zsig x, g2) = _
      rw [hx]
end ZWO2

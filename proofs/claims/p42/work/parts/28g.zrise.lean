/-! ===== the rows of a set by rising value ===== -/
section ZRI
/-- o tells, one by one, the y below n with P y -/
def zEn (o : Nat → Nat) (m : Nat) (P : Nat → Bool) (n : Nat) : Prop := (∀ i j, i < j → j < m → o i ≠ o j) ∧ ∀ y, (∃ a, a < m ∧ o a = y) ↔ y < n ∧ P y = true
theorem zEn_p {o : Nat → Nat} {m n : Nat} {P : Nat → Bool} (h : zEn o m P n) : ((List.range m).map o).Perm ((List.range n).filter P) := by
  refine (List.perm_ext_iff_of_nodup ?_ (List.nodup_range.filter _)).mpr fun a => ?_
  · show List.Pairwise _ _
    rw [List.pairwise_map]
    refine List.Pairwise.imp_of_mem ?_ List.pairwise_lt_range
    intro a b ha hb hab
    exact h.1 a b hab (List.mem_range.mp hb)
  · rw [List.mem_map, List.mem_filter, List.mem_range, ← h.2 a]
    constructor
    · rintro ⟨i, hi, e⟩
      exact ⟨i, List.mem_range.mp hi, e⟩
    · rintro ⟨i, hi, e⟩
      exact ⟨i, List.mem_range.mpr hi, e⟩
theorem zEn_ct {o : Nat → Nat} {m n : Nat} {P : Nat → Bool} (h : zEn o m P n) (g : Nat → Bool) : fb_ct (fun i => g (o i)) m = fb_ct (fun r => P r && g r) n := by
  have e1 : fb_ct (fun i => g (o i)) m = ((List.range m).map o).countP g := by rw [zct_l, List.countP_map]; rfl
  rw [e1, (zEn_p h).countP_eq g, zct_l, List.countP_filter]
  exact List.countP_congr fun x _ => by simp [and_comm]
theorem zEn_m {o : Nat → Nat} {m n : Nat} {P : Nat → Bool} (h : zEn o m P n) : m = fb_ct P n := by
  have h1 := zEn_ct h (fun _ => true)
  rw [fb_ct_all.mpr (fun _ _ => rfl)] at h1
  rw [h1]
  exact fb_ct_cong fun k _ => by rw [Bool.and_true]
theorem zsl_filter (f : Nat → Int64) (P : Nat → Bool) : ∀ l : List Nat, zsl f (l.filter P) = zsl (fun r => if P r = true then f r else 0) l
  | [] => rfl
  | a :: l => by
    by_cases e : P a = true
    · rw [List.filter_cons_of_pos e]
      show f a + zsl f (l.filter P) = (if P a = true then f a else 0) + _
      rw [if_pos e, zsl_filter f P l]
    · rw [List.filter_cons_of_neg e, zsl_filter f P l]
      show _ = (if P a = true then f a else 0) + _
      rw [if_neg e, Int64.zero_add]
theorem zEn_s {o : Nat → Nat} {m n : Nat} {P : Nat → Bool} (h : zEn o m P n) (f : Nat → Int64) : zs (fun i => f (o i)) m = zs (fun r => if P r = true then f r else 0) n := by
  rw [zs_l, zs_l, ← zsl_map, zsl_perm (zEn_p h), zsl_filter]
variable {h : zx_H} {q : Nat} {T : zT}
def zLe (T : zT) (c a b : Nat) : Prop := (T.ky c a).toInt < (T.ky c b).toInt ∨ ((T.ky c a).toInt = (T.ky c b).toInt ∧ a < b)
def zKn (T : zT) (c : Nat) (p : Nat → Bool) : Nat → Bool := fun r => p r && decide (T.ky c r ≠ -9000000000)
/-- o tells the rows of p with a value, the least one first -/
def zRis (T : zT) (c : Nat) (p : Nat → Bool) (o : Nat → Nat) (m : Nat) : Prop := (∀ a b, a < b → b < m → zLe T c (o a) (o b)) ∧ ∀ y, (∃ a, a < m ∧ o a = y) ↔ y < T.nr ∧ zKn T c p y = true
theorem zRis.en {c : Nat} {p : Nat → Bool} {o : Nat → Nat} {m : Nat} (r : zRis T c p o m) : zEn o m (zKn T c p) T.nr := ⟨fun i j hij hj e => by
  have := r.1 i j hij hj
  unfold zLe at this
  rw [e] at this
  omega, r.2⟩
theorem zRis.lt {c : Nat} {p : Nat → Bool} {o : Nat → Nat} {m i : Nat} (r : zRis T c p o m) (hi : i < m) : o i < T.nr ∧ p (o i) = true ∧ T.ky c (o i) ≠ -9000000000 := by
  obtain ⟨a, b⟩ := (r.2 (o i)).mp ⟨i, hi, rfl⟩
  unfold zKn at b
  rw [Bool.and_eq_true, decide_eq_true_eq] at b
  exact ⟨a, b.1, b.2⟩
theorem zrise64 {c : Nat} (hc : c < T.nc) (k : Nat → Int32 → Int64 → Nat → Int32 → Int32 → zx_H → Option (Nat × zx_H)) (st : Int64) (a : Nat) (o : Nat → Nat) {m fi i : Nat} (hm : m ≤ 40) (hfi : fi < m) (hi : i < T.nr) (ho : ∀ p, p < fi → o p < T.nr) (hq : q + 4 ≤ a) (ha : a ≤ 600000) : ∀ n g h0 f, g ≤ fi → g < n → TS h0 q T → h0[a]? = some (.inl (1, m, .inl f)) → (∀ p, p < g → f p = nI (o p)) → (∀ p, g < p → p ≤ fi → f p = nI (o (p - 1))) → (∀ p, g ≤ p → p < fi → T.ky c i < T.ky c (o p)) → ∃ g1 f' s, f_Sheet_risingRows_64 k n q (nI c) st a (nI fi) (nI i) (T.ky c i) (nI g) h0 = k q (nI c) st a (nI (fi + 1)) (nI (i + 1)) g1 ∧ g1[a]? = some (.inl (1, m, .inl f')) ∧ (∀ p, p ≤ fi → f' p = nI (zins o s fi i p)) ∧ s ≤ fi ∧ (0 < s → T.ky c (o (s - 1)) ≤ T.ky c i) ∧ (∀ p, s ≤ p → p < fi → T.ky c i < T.ky c (o p)) ∧ zU a 1 h0 g1 := by
  intro n
  induction n with
  | zero => intro g _ _ _ hn; exact absurd hn (Nat.not_lt_zero _)
  | succ n ih =>
    intro g h0 f hg hn S ea hf1 hf2 hgt
    have hne : a ≠ zx_lim := by show a ≠ 1000000; omega
    have hput : ∀ x, zf_stI a (nI g) x h0 = some (h0.set a (.inl (1, m, .inl (upd f g x)))) := fun x => zh_stI ea (by omega) (by omega)
    have hs1 : ∀ x, (h0.set a (.inl (1, m, .inl (upd f g x))))[a]? = some (.inl (1, m, .inl (upd f g x))) := fun x => zh_set_s ea
    have hU : ∀ x, zU a 1 h0 (h0.set a (.inl (1, m, .inl (upd f g x)))) := fun x => zU_s ea rfl (by omega)
    have hend : (0 < g → T.ky c (o (g - 1)) ≤ T.ky c i) → ∃ g1 f' s, (zf_b (zf_stI a (nI g) (nI i) h0) fun h1 => k q (nI c) st a (nI fi + (1 : Int32)) (nI i + (1 : Int32)) h1) = k q (nI c) st a (nI (fi + 1)) (nI (i + 1)) g1 ∧ g1[a]? = some (.inl (1, m, .inl f')) ∧ (∀ p, p ≤ fi → f' p = nI (zins o s fi i p)) ∧ s ≤ fi ∧ (0 < s → T.ky c (o (s - 1)) ≤ T.ky c i) ∧ (∀ p, s ≤ p → p < fi → T.ky c i < T.ky c (o p)) ∧ zU a 1 h0 g1 := by
      intro hz
      refine ⟨_, _, g, by rw [ze_b (hput _), nI_1, nI_1], hs1 (nI i), fun p hp => ?_, hg, hz, hgt, hU _⟩
      rcases Nat.lt_trichotomy p g with e | e | e
      · rw [pk_un (by omega), zins_lt e]; exact hf1 p e
      · rw [e, pk_us, zins_s]
      · rw [pk_un (by omega), zins_gt e hp]; exact hf2 p e hp
    unfold f_Sheet_risingRows_64
    cases g with
    | zero =>
      rw [if_pos (show nI 0 ≤ (0 : Int32) by decide)]
      exact hend (fun x => absurd x (Nat.not_lt_zero _))
    | succ g =>
      have e1 : zf_ldI a (nI g) h0 = some (nI (o g)) := by
        rw [zh_ldI hne ea (by omega) (by omega), hf1 g (by omega)]
      have e2 := S.keyAt hc (ho g (by omega))
      rw [if_neg (nI_nle (by omega) (by omega)), nI_pred, ze_b e1, ze_b S.ok, ze_b2 e2]
      by_cases hb : T.ky c (o g) ≤ T.ky c i
      · rw [if_pos hb]
        exact hend (fun _ => by rw [Nat.add_sub_cancel]; exact hb)
      · rw [if_neg hb, ze_b e1, ze_b (hput _), pk_m1]
        obtain ⟨g1, f', s, e3, b0, b1, b2, b3, b4, U2⟩ := ih g _ _ (by omega) (by omega) (S.U (hU (nI (o g))) (by omega)) (hs1 (nI (o g))) (fun p hp => by
          rw [pk_un (by omega)]; exact hf1 p (by omega)) (fun p hp hp2 => by
          rcases Nat.lt_or_ge (g + 1) p with h1 | h1
          · rw [pk_un (by omega)]; exact hf2 p h1 hp2
          · have : p = g + 1 := by omega
            rw [this, pk_us, Nat.add_sub_cancel]) (fun p hp hp2 => by
          rcases Nat.lt_or_ge g p with h1 | h1
          · exact hgt p h1 hp2
          · have : p = g := by omega
            rw [this]
            rw [zl_t]
            rw [zl_e] at hb
            omega)
        exact ⟨g1, f', s, e3, b0, b1, b2, b3, b4, zU_t (hU _) U2⟩
theorem fb_ct_rest {P : Nat → Bool} {i n : Nat} (h : fb_ct P n ≤ fb_ct P i) (hin : i ≤ n) : ∀ y, i ≤ y → y < n → P y = false := by
  intro y hy hn
  apply ts_nt
  intro e
  have h1 : fb_ct P (y + 1) = fb_ct P y + 1 := by rw [fb_ct_succ, if_pos e]
  have h2 := fb_ct_mono P (m := i) (n := y) hy
  have h3 := fb_ct_mono P (m := y + 1) (n := n) hn
  omega
theorem TS.rising (S : TS h q T) (w : zWF T) {c : Nat} (hc : c < T.nc) (p : Nat → Bool) (hB : zM h ≤ 7100000) : ∃ g o m f, f_Sheet_risingRows q (nI c) (zB p T.nr) h = some (h.length, g) ∧ zG 52 0 0 h g ∧ g[h.length]? = some (.inl (1, m, .inl f)) ∧ (∀ i, i < m → f i = nI (o i)) ∧ zRis T c p o m ∧ m ≤ 40 := by
  have h40 := S.r40
  have hl := zlen (h := h) (by omega)
  have hqa : q + 4 ≤ h.length := by
    obtain ⟨⟨K, X, O, H, _⟩, _⟩ := S
    have := zlt_of H.o
    omega
  have hP : (fun i => p i && decide (T.ky c i ≠ -9000000000)) = zKn T c p := rfl
  have hm40 : fb_ct (zKn T c p) T.nr ≤ 40 := Nat.le_trans (fb_ct_le _ _) h40
  generalize hm : fb_ct (zKn T c p) T.nr = m at hm40
  have key : ∀ (n i : Nat) (o : Nat → Nat) (f : Nat → Int32) (h0 : zx_H), i ≤ T.nr → T.nr - i < n → TS h0 q T → h0[h.length]? = some (.inl (1, m, .inl f)) → (∀ j, j < fb_ct (zKn T c p) i → f j = nI (o j)) → (∀ a b, a < b → b < fb_ct (zKn T c p) i → zLe T c (o a) (o b)) → (∀ y, (∃ a, a < fb_ct (zKn T c p) i ∧ o a = y) ↔ y < i ∧ zKn T c p y = true) → ∃ g o' f', f_Sheet_risingRows_24 n q (nI c) (zB (zKn T c p) T.nr) h.length (nI (fb_ct (zKn T c p) i)) (nI i) h0 = some (h.length, g) ∧ g[h.length]? = some (.inl (1, m, .inl f')) ∧ (∀ j, j < m → f' j = nI (o' j)) ∧ zRis T c p o' m ∧ zU h.length 1 h0 g := by
    intro n
    induction n with
    | zero => intro i _ _ _ _ hn; exact absurd hn (Nat.not_lt_zero _)
    | succ n ih =>
      intro i o f h0 hi hn SZ ea hz1 hz2 hz3
      have hmono := fb_ct_mono (zKn T c p) hi
      have hne : h.length ≠ zx_lim := by show h.length ≠ 1000000; omega
      unfold f_Sheet_risingRows_24
      rw [ze_b SZ.I4]
      have hfin : m ≤ fb_ct (zKn T c p) i → zRis T c p o m := by
        intro hle
        have e1 : fb_ct (zKn T c p) i = m := by omega
        have hr := fb_ct_rest (P := zKn T c p) (by omega) hi
        refine ⟨fun a b hab hb => hz2 a b hab (by omega), fun y => ?_⟩
        rw [← e1, hz3 y]
        constructor
        · exact fun x => ⟨by omega, x.2⟩
        · rintro ⟨x1, x2⟩
          refine ⟨?_, x2⟩
          rcases Nat.lt_or_ge y i with h1 | h1
          · exact h1
          · rw [hr y h1 x1] at x2; exact absurd x2 (by decide)
      rcases Nat.lt_or_ge i T.nr with hlt | hge
      · rw [if_neg (nI_ge hlt (by omega)), ze_b (zh_len hne ea rfl)]
        rcases Nat.lt_or_ge (fb_ct (zKn T c p) i) m with hfl | hfl
        · rw [if_neg (nI_ge hfl (by omega)), ze_b2 (SZ.holds hlt)]
          by_cases e : zKn T c p i = true
          · have ec : fb_ct (zKn T c p) (i + 1) = fb_ct (zKn T c p) i + 1 := by rw [fb_ct_succ, if_pos e]
            have hos : ∀ j, j < fb_ct (zKn T c p) i → o j < T.nr := by
              intro j hj
              have := ((hz3 (o j)).mp ⟨j, hj, rfl⟩).1
              omega
            rw [e, if_neg (by decide), ze_b SZ.ok, ze_b2 (SZ.keyAt hc hlt)]
            obtain ⟨g1, f', s, e3, b0, b1, b2, b3, b4, U2⟩ := zrise64 hc (f_Sheet_risingRows_24 n) (zB (zKn T c p) T.nr) h.length o hm40 hfl hlt hos hqa hl zF _ h0 f (Nat.le_refl _) (by have := fb_ct_le (zKn T c p) i; unfold zF; omega) SZ ea hz1 (fun p' a b => absurd b (by omega)) (fun p' a b => absurd b (by omega))
            obtain ⟨g, o', f'', e4, c1, c2, c3, U3⟩ := ih (i + 1) _ _ g1 hlt (by omega) (SZ.U U2 (by omega)) b0 (fun j hj => b1 j (by omega)) (by
              rw [ec]
              refine zins_sorted (R := zLe T c) b2 hz2 (fun j hj => ?_) (fun j hj hj2 => ?_)
              · have d1 := b3 (by omega)
                have d2 : (T.ky c (o j)).toInt ≤ (T.ky c (o (s - 1))).toInt := by
                  rcases Nat.lt_or_ge j (s - 1) with d3 | d3
                  · rcases hz2 j (s - 1) d3 (by omega) with d4 | d4 <;> omega
                  · have : j = s - 1 := by omega
                    rw [this]; omega
                have d5 := ((hz3 (o j)).mp ⟨j, by omega, rfl⟩).1
                rw [zl_e] at d1
                unfold zLe
                omega
              · have := b4 j hj hj2
                rw [zl_t] at this
                exact Or.inl this) (fun y => by
              rw [ec, zins_mem b2, hz3 y]
              constructor
              · rintro (x | x)
                · rw [x]; exact ⟨by omega, e⟩
                · exact ⟨by omega, x.2⟩
              · rintro ⟨x1, x2⟩
                rcases Nat.lt_or_ge y i with h1 | h1
                · exact Or.inr ⟨h1, x2⟩
                · exact Or.inl (by omega))
            rw [ec] at e4
            exact ⟨g, o', f'', e3.trans e4, c1, c2, c3, zU_t U2 U3⟩
          · have e := ts_nt e
            have ec : fb_ct (zKn T c p) (i + 1) = fb_ct (zKn T c p) i := by rw [fb_ct_succ, e]; rfl
            rw [e, if_pos (by decide), nI_1]
            have h1 := ih (i + 1) o f h0 hlt (by omega) SZ ea (by rw [ec]; exact hz1) (by rw [ec]; exact hz2) (fun y => by
              rw [ec, hz3 y]
              constructor
              · exact fun x => ⟨by omega, x.2⟩
              · rintro ⟨x1, x2⟩
                refine ⟨?_, x2⟩
                rcases Nat.lt_or_ge y i with h1 | h1
                · exact h1
                · have : y = i := by omega
                  rw [this, e] at x2; exact absurd x2 (by decide))
            rw [ec] at h1
            exact h1
        · rw [if_pos (nI_le hfl (by omega))]
          exact ⟨h0, o, f, rfl, ea, fun j hj => hz1 j (by omega), hfin hfl, zU_r⟩
      · have e : i = T.nr := Nat.le_antisymm hi hge
        have e1 : fb_ct (zKn T c p) i = m := by rw [e]; exact hm
        rw [e, if_pos (nI_le (Nat.le_refl _) (by omega))]
        exact ⟨h0, o, f, rfl, ea, fun j hj => hz1 j (by omega), hfin (by omega), zU_r⟩
  have hn : zf_newa .int 1 (nI m) h = some (h.length, h ++ [.inl (1, m, .inl fun _ => 0)]) := by
    have := zh_newI (g := h) (r := []) (n := m) (by show h.length + 0 < 600000; have := zM_l (h := h); omega) (by omega)
    rw [List.append_nil] at this
    exact this
  have hg0 : zG (12 + m) 0 0 h (h ++ [.inl (1, m, .inl fun _ => 0)]) := zG_app (c := .inl (1, m, .inl fun _ => 0))
  obtain ⟨g, o, f, e, c1, c2, c3, U⟩ := key zF 0 (fun i => i) (fun _ => 0) _ (Nat.zero_le _) (by unfold zF; omega) (S.G hg0 (Or.inr (Nat.zero_le _))) zG_end (fun j hj => absurd hj (Nat.not_lt_zero _)) (fun a b _ hb => absurd hb (Nat.not_lt_zero _)) (fun y => ⟨fun ⟨a, ha, _⟩ => absurd ha (Nat.not_lt_zero _), fun ⟨a, _⟩ => absurd a (Nat.not_lt_zero _)⟩)
  refine ⟨g, o, m, f, ?_, ?_, c1, c2, c3, hm40⟩
  · unfold f_Sheet_risingRows
    rw [ze_b S.ok, ze_b2 (S.known w hc), zB_and (by omega), ze_b2 (zB_cnt (by omega) h), hP, hm, ze_b2 hn]
    exact e
  · refine ⟨by rw [U.1, List.length_append]; omega, ?_, fun j hj _ => ?_⟩
    · have h1 := hg0.m
      have h2 : zM g = zM (h ++ [.inl (1, m, .inl fun _ => 0)]) := by unfold zM; rw [U.1, U.2.1]
      omega
    · rw [U.2.2 j (Or.inl hj)]
      exact List.getElem?_append_left hj
theorem TS.diffKeys (S : TS h q T) {c : Nat} (hc : c < T.nc) {a m : Nat} {f : Nat → Int32} {o : Nat → Nat} (ha : h[a]? = some (.inl (1, m, .inl f))) (ha2 : a ≤ 600000) (hf : ∀ i, i < m → f i = nI (o i)) (ho : ∀ i, i < m → o i < T.nr) (hm : m ≤ 40) : f_Sheet_differentKeys q (nI c) a h = some (nI (fb_ct (fun i => decide (i = 0 ∨ T.ky c (o i) ≠ T.ky c (o (i - 1)))) m), h) := by
  have hne : a ≠ zx_lim := by show a ≠ 1000000; omega
  have key : ∀ n i, i ≤ m → m - i < n → f_Sheet_differentKeys_5 n q (nI c) a (nI (fb_ct (fun i => decide (i = 0 ∨ T.ky c (o i) ≠ T.ky c (o (i - 1)))) i)) (nI i) h = some (nI (fb_ct (fun i => decide (i = 0 ∨ T.ky c (o i) ≠ T.ky c (o (i - 1)))) m), h) := by
    intro n
    induction n with
    | zero => intro i _ hn; exact absurd hn (Nat.not_lt_zero _)
    | succ n ih =>
      intro i hi hn
      unfold f_Sheet_differentKeys_5
      rw [ze_b (zh_len hne ha rfl)]
      rcases Nat.lt_or_ge i m with hlt | hge
      · have h1 := ih (i + 1) hlt (by omega)
        rw [fb_ct_succ] at h1
        rw [if_neg (nI_ge hlt (by omega))]
        cases i with
        | zero =>
          rw [if_pos nI_0, nI_1, nI_1]
          rw [decide_eq_true (Or.inl rfl), if_pos rfl] at h1
          exact h1
        | succ j =>
          have l1 := zh_ldI hne ha hlt (by omega)
          have l2 := zh_ldI hne ha (show j < m by omega) (by omega)
          rw [hf _ hlt] at l1
          rw [hf j (by omega)] at l2
          rw [if_neg (nI_ne0 (by omega) (by omega)), ze_b l1, ze_b S.ok, ze_b2 (S.keyAt hc (ho _ hlt)), nI_pred, ze_b l2, ze_b S.ok, ze_b2 (S.keyAt hc (ho j (by omega))), nI_1, nI_1]
          by_cases e : T.ky c (o (j + 1)) = T.ky c (o j)
          · rw [if_pos e]
            rw [decide_eq_false (fun x => x.elim (by omega) (fun y => y e)), if_neg (by decide)] at h1
            exact h1
          · rw [if_neg e]
            rw [decide_eq_true (show j + 1 = 0 ∨ T.ky c (o (j + 1)) ≠ T.ky c (o (j + 1 - 1)) from Or.inr e), if_pos rfl] at h1
            exact h1
      · have e : i = m := Nat.le_antisymm hi hge
        rw [e, if_pos (nI_le (Nat.le_refl _) (by omega))]
  exact key zF 0 (Nat.zero_le _) (by unfold zF; omega)
end ZRI

/-! ===== a row taken away ===== -/
section ZDR
variable {h : zx_H} {q : Nat} {T : zT}
def zKO (T : zT) (Z : Nat → Nat → Int64) (o : Nat → Nat) : zT := zMk T.nc T.nr T.kd Z o T.ch
theorem TS.setO (S : TS h q T) {p : Nat} (hp : p < T.nr) (x : Nat) : ∃ g, zf_stI (q + 3) (nI p) (nI x) h = some g ∧ TS g q (zKO T T.ky (fun j => if j = p then x else T.od j)) ∧ zU q 4 h g := by
  have h40 := S.r40
  obtain ⟨⟨K, X, O, H, hK, hX, hO⟩, hq⟩ := S
  have r1 := zh_stI (x := nI x) H.o (show p < 40 by omega) (by decide)
  refine ⟨_, r1, ⟨⟨K, X, _, ⟨?_, ?_, ?_, zh_set_s H.o, H.nc4, H.nr40⟩, hK, hX, fun i hi => ?_⟩, hq⟩, zU_s H.o rfl (by omega)⟩
  · rw [zh_set_n (by omega)]; exact H.c
  · rw [zh_set_n (by omega)]; exact H.k
  · rw [zh_set_n (by omega)]; exact H.x
  · have hi : i < T.nr := hi
    show _ = nI (if i = p then x else T.od i)
    by_cases e : i = p
    · rw [if_pos e, e, pk_us]
    · rw [if_neg e, pk_un e]; exact hO i hi
theorem TS.same {T' : zT} (S : TS h q T) (e1 : T'.nc = T.nc) (e2 : T'.nr = T.nr) (e3 : ∀ c, c < T.nc → T'.kd c = T.kd c) (e4 : ∀ c r, c < T.nc → r < T.nr → T'.ky c r = T.ky c r) (e5 : ∀ p, p < T.nr → T'.od p = T.od p) (e6 : ∀ r, r < T.nr → T'.ch r = T.ch r) : TS h q T' := by
  obtain ⟨⟨K, X, O, H, hK, hX, hO⟩, hq⟩ := S
  refine ⟨⟨K, X, O, ?_, fun c hc => ?_, fun c r hc hr => ?_, fun p hp => ?_⟩, hq⟩
  · rw [e1, e2, zB_c e6]; exact H
  · rw [e1] at hc; rw [e3 c hc]; exact hK c hc
  · rw [e1] at hc; rw [e2] at hr; rw [e4 c r hc hr]; exact hX c r hc hr
  · rw [e2] at hp; rw [e5 p hp]; exact hO p hp
theorem zdrop23 (S : TS h q T) {r c : Nat} (hr : r < T.nr) (hc : c < T.nc) (k : Nat → Int32 → Int32 → zx_H → Option (Unit × zx_H)) (Z0 : Nat → Nat → Int64) (o : Nat → Nat) : ∀ n i Z g0, r + 1 ≤ i → i ≤ T.nr → T.nr - i < n → TS g0 q (zKO T Z o) → (∀ r', r' < T.nr → Z c r' = if r ≤ r' ∧ r' + 1 < i then Z0 c (r' + 1) else Z0 c r') → (∀ c' r', c' ≠ c → Z c' r' = Z0 c' r') → ∃ g Z', f_Sheet_dropRow_23 k n q (nI r) (nI c) (nI i) g0 = k q (nI r) (nI (c + 1)) g ∧ TS g q (zKO T Z' o) ∧ (∀ r', r' < T.nr - 1 → Z' c r' = if r' < r then Z0 c r' else Z0 c (r' + 1)) ∧ (∀ c' r', c' ≠ c → Z' c' r' = Z0 c' r') ∧ zU q 4 g0 g := by
  have h40 := S.r40
  intro n
  induction n with
  | zero => intro i _ _ _ _ hn; exact absurd hn (Nat.not_lt_zero _)
  | succ n ih =>
    intro i Z g0 hi1 hi hn SZ hz1 hz2
    unfold f_Sheet_dropRow_23
    have e0 : zf_I 10 4 q g0 = some (nI T.nr) := SZ.I4
    rw [ze_b e0]
    rcases Nat.lt_or_ge i T.nr with hlt | hge
    · obtain ⟨j, rfl⟩ : ∃ j, i = j + 1 := ⟨i - 1, by omega⟩
      obtain ⟨g1, e1, S1, U1⟩ := SZ.putKey (c := c) (r := j) hc (show j < T.nr by omega) (Z c (j + 1))
      have e2 : f_Sheet_keyAt q (nI c) (nI (j + 1)) g0 = some (Z c (j + 1), g0) := SZ.keyAt (T := zKO T Z o) hc hlt
      rw [if_neg (nI_ge hlt (by omega)), ze_b SZ.ok, ze_b2 e2, ze_b SZ.ok, nI_pred, ze_b2 e1, nI_1]
      obtain ⟨g, Z', e3, S3, w1, w2, U3⟩ := ih (j + 1 + 1) _ g1 (by omega) hlt (by omega) S1 (fun r' hr' => by
        show (if c = c ∧ r' = j then Z c (j + 1) else Z c r') = _
        by_cases e : r' = j
        · rw [if_pos ⟨rfl, e⟩, if_pos (by omega), e, hz1 (j + 1) hlt, if_neg (by omega)]
        · rw [if_neg (fun x => e x.2), hz1 r' hr']
          by_cases e9 : r ≤ r' ∧ r' + 1 < j + 1
          · rw [if_pos e9, if_pos (by omega)]
          · rw [if_neg e9, if_neg (by omega)]) (fun c' r' hc' => by
        show (if c' = c ∧ r' = j then Z c (j + 1) else Z c' r') = _
        rw [if_neg (fun x => hc' x.1)]; exact hz2 c' r' hc')
      exact ⟨g, Z', e3, S3, w1, w2, zU_t U1 U3⟩
    · have e : i = T.nr := Nat.le_antisymm hi hge
      subst e
      rw [if_pos (nI_le (Nat.le_refl _) (by omega)), nI_1]
      refine ⟨g0, Z, rfl, SZ, fun r' hr' => ?_, hz2, zU_r⟩
      rw [hz1 r' (by omega)]
      by_cases e9 : r' < r
      · rw [if_pos e9, if_neg (by omega)]
      · rw [if_neg e9, if_pos (by omega)]
/-- the order without row r, that stood at place l -/
def zDO (o : Nat → Nat) (r l : Nat) : Nat → Nat := fun p => if r < o (if p < l then p else p + 1) then o (if p < l then p else p + 1) - 1 else o (if p < l then p else p + 1)
theorem zdropO (S : TS h q T) (w : zWF T) {r : Nat} (hr : r < T.nr) (Z : Nat → Nat → Int64) : ∀ n i g0, i ≤ T.nr → T.nr - i < n → TS g0 q (zKO T Z (fun p => if p < (if i ≤ zpl T.od r T.nr then i else i - 1) then zDO T.od r (zpl T.od r T.nr) p else T.od p)) → ∃ g, f_Sheet_dropFromOrder_4 n q (nI r) (nI (if i ≤ zpl T.od r T.nr then i else i - 1)) (nI i) g0 = some ((), g) ∧ TS g q (zKO T Z (fun p => if p < T.nr - 1 then zDO T.od r (zpl T.od r T.nr) p else T.od p)) ∧ zU q 4 g0 g := by
  have h40 := S.r40
  obtain ⟨l1, l2⟩ := zpl_r w.p hr
  generalize hl : zpl T.od r T.nr = l at *
  intro n
  induction n with
  | zero => intro i _ _ hn; exact absurd hn (Nat.not_lt_zero _)
  | succ n ih =>
    intro i g0 hi hn SZ
    unfold f_Sheet_dropFromOrder_4
    have e0 : zf_I 10 4 q g0 = some (nI T.nr) := SZ.I4
    rw [ze_b e0]
    rcases Nat.lt_or_ge i T.nr with hlt | hge
    · have e1 : zf_ldI (q + 3) (nI i) g0 = some (nI (T.od i)) := by
        have := SZ.o (p := i) hlt
        rw [this]
        show some (nI (if i < (if i ≤ l then i else i - 1) then zDO T.od r l i else T.od i)) = _
        rw [if_neg]
        by_cases e : i ≤ l
        · rw [if_pos e]; omega
        · rw [if_neg e]; omega
      have ho := w.o hlt
      rw [if_neg (nI_ge hlt (by omega)), ze_b SZ.A2, ze_b e1, nI_1]
      by_cases e : T.od i = r
      · have e5 : i = l := zPerm_inj w.p hlt l1 (e.trans l2.symm)
        rw [if_pos (by rw [e])]
        have h1 := ih (i + 1) g0 hlt (by omega)
        have e6 : (if i + 1 ≤ l then i + 1 else i + 1 - 1) = (if i ≤ l then i else i - 1) := by
          rw [if_neg (by omega), if_pos (by omega)]; omega
        rw [e6] at h1
        exact h1 SZ
      · have hne : i ≠ l := fun x => e (by rw [x]; exact l2)
        rw [if_neg (by rw [nI_eq (by omega) (by omega)]; exact e), ze_b SZ.A2]
        have hk : (if i ≤ l then i else i - 1) < T.nr := by
          by_cases e9 : i ≤ l
          · rw [if_pos e9]; exact hlt
          · rw [if_neg e9]; omega
        have hd : zDO T.od r l (if i ≤ l then i else i - 1) = if r < T.od i then T.od i - 1 else T.od i := by
          unfold zDO
          by_cases e9 : i ≤ l
          · rw [if_pos e9, if_pos (show i < l by omega)]
          · rw [if_neg e9, if_neg (show ¬ i - 1 < l by omega), show i - 1 + 1 = i by omega]
        have e6 : (if i + 1 ≤ l then i + 1 else i + 1 - 1) = (if i ≤ l then i else i - 1) + 1 := by
          by_cases e9 : i ≤ l
          · rw [if_pos e9, if_pos (by omega)]
          · rw [if_neg e9, if_neg (by omega)]; omega
        obtain ⟨g1, r1, S1, U1⟩ := SZ.setO (p := if i ≤ l then i else i - 1) hk (zDO T.od r l (if i ≤ l then i else i - 1))
        have S1' : TS g1 q (zKO T Z (fun p => if p < (if i + 1 ≤ l then i + 1 else i + 1 - 1) then zDO T.od r l p else T.od p)) := by
          refine S1.same rfl rfl (fun _ _ => rfl) (fun _ _ _ _ => rfl) (fun p hp => ?_) (fun _ _ => rfl)
          show (if p < (if i + 1 ≤ l then i + 1 else i + 1 - 1) then zDO T.od r l p else T.od p) = (if p = (if i ≤ l then i else i - 1) then zDO T.od r l (if i ≤ l then i else i - 1) else (if p < (if i ≤ l then i else i - 1) then zDO T.od r l p else T.od p))
          rw [e6]
          generalize (if i ≤ l then i else i - 1) = kp
          by_cases e8 : p = kp
          · rw [if_pos e8, if_pos (by omega), e8]
          · rw [if_neg e8]
            by_cases e9 : p < kp
            · rw [if_pos e9, if_pos (by omega)]
            · rw [if_neg e9, if_neg (by omega)]
        obtain ⟨g, e3, S3, U3⟩ := ih (i + 1) g1 hlt (by omega) S1'
        rw [e6] at e3
        refine ⟨g, ?_, S3, zU_t U1 U3⟩
        rw [hd] at r1
        by_cases e7 : T.od i ≤ r
        · rw [if_neg (show ¬ r < T.od i by omega)] at r1
          rw [if_pos (nI_le e7 (by omega)), ze_b r1, nI_1]
          exact e3
        · rw [if_pos (show r < T.od i by omega)] at r1
          have e10 : nI (T.od i) - 1 = nI (T.od i - 1) := by
            obtain ⟨j, hj⟩ : ∃ j, T.od i = j + 1 := ⟨T.od i - 1, by omega⟩
            rw [hj, nI_pred, Nat.add_sub_cancel]
          rw [if_neg (nI_ge (by omega) (by omega)), e10, ze_b r1, nI_1]
          exact e3
    · have e : i = T.nr := Nat.le_antisymm hi hge
      subst e
      rw [if_pos (nI_le (Nat.le_refl _) (by omega))]
      refine ⟨g0, rfl, ?_, zU_r⟩
      have e6 : (if T.nr ≤ l then T.nr else T.nr - 1) = T.nr - 1 := if_neg (by omega)
      rw [e6] at SZ
      exact SZ
def zDrop (T : zT) (r : Nat) : zT := zMk T.nc (T.nr - 1) T.kd (fun c r' => if r' < r then T.ky c r' else T.ky c (r' + 1)) (zDO T.od r (zpl T.od r T.nr)) (fun r' => if r' < r then T.ch r' else T.ch (r' + 1))
theorem TS.drop (S : TS h q T) (w : zWF T) {r : Nat} (hr : r < T.nr) : ∃ g, f_Sheet_dropRow q (nI r) h = some ((), g) ∧ TS g q (zDrop T r) ∧ zU q 4 h g := by
  have h40 := S.r40
  have h4 := S.c4
  have key : ∀ n i Z g0, i ≤ T.nc → T.nc - i < n → TS g0 q (zKO T Z T.od) → (∀ c r', c < i → r' < T.nr - 1 → Z c r' = if r' < r then T.ky c r' else T.ky c (r' + 1)) → (∀ c r', i ≤ c → Z c r' = T.ky c r') → ∃ g, f_Sheet_dropRow_11 n q (nI r) (nI i) g0 = some ((), g) ∧ TS g q (zDrop T r) ∧ zU q 4 g0 g := by
    intro n
    induction n with
    | zero => intro i _ _ _ hn; exact absurd hn (Nat.not_lt_zero _)
    | succ n ih =>
      intro i Z g0 hi hn SZ hz1 hz2
      unfold f_Sheet_dropRow_11
      have e0 : zf_I 10 3 q g0 = some (nI T.nc) := SZ.I3
      rw [ze_b e0]
      rcases Nat.lt_or_ge i T.nc with hlt | hge
      · rw [if_neg (nI_ge hlt (by omega)), nI_1]
        obtain ⟨g1, Z', e1, S1, a1, a2, U1⟩ := zdrop23 S hr hlt (f_Sheet_dropRow_11 n) Z T.od zF (r + 1) Z g0 (Nat.le_refl _) hr (by unfold zF; omega) SZ (fun r' hr' => (if_neg (by omega)).symm) (fun _ _ _ => rfl)
        obtain ⟨g, e2, S2, U2⟩ := ih (i + 1) Z' g1 hlt (by omega) S1 (fun c r' hc hr' => by
          rcases Nat.lt_or_ge c i with h1 | h1
          · rw [a2 c r' (by omega)]; exact hz1 c r' h1 hr'
          · have : c = i := by omega
            subst this
            rw [a1 r' hr', hz2 c r' (Nat.le_refl _), hz2 c (r' + 1) (Nat.le_refl _)]) (fun c r' hc => by
          rw [a2 c r' (by omega)]; exact hz2 c r' (by omega))
        exact ⟨g, e1.trans e2, S2, zU_t U1 U2⟩
      · have e : i = T.nc := Nat.le_antisymm hi hge
        subst e
        rw [if_pos (nI_le (Nat.le_refl _) (by omega)), ze_b SZ.ok]
        obtain ⟨g1, e1, S1, U1⟩ := zdropO S w hr Z zF 0 g0 (Nat.zero_le _) (by unfold zF; omega) (by
          refine SZ.same rfl rfl (fun _ _ => rfl) (fun _ _ _ _ => rfl) (fun p hp => ?_) (fun _ _ => rfl)
          show (if p < (if 0 ≤ zpl T.od r T.nr then 0 else 0 - 1) then zDO T.od r (zpl T.od r T.nr) p else T.od p) = T.od p
          rw [if_pos (Nat.zero_le _), if_neg (Nat.not_lt_zero _)])
        rw [if_pos (Nat.zero_le _)] at e1
        have e1' : f_Sheet_dropFromOrder q (nI r) g0 = some ((), g1) := e1
        have e3 : zf_J 10 5 q g1 = some (zB T.ch T.nr) := S1.J5
        have e4 : (zB T.ch T.nr &&& (((1 : Int64) <<< ((nI r).toInt64 &&& 63)) - (1 : Int64))) ||| (((zB T.ch T.nr).toUInt64 >>> (((1 : Int32)).toInt64.toUInt64 &&& Int64.toUInt64 63)).toInt64 &&& ((((1 : Int64) <<< ((nI r).toInt64 &&& 63)) - (1 : Int64)) ^^^ (-1 : Int64))) = zB (fun r' => if r' < r then T.ch r' else T.ch (r' + 1)) (T.nr - 1) := by
          rw [zB_all r (by omega)]
          refine zB_of (by omega) fun i hi => ?_
          rw [zbt_or, zbt_and, zbt_and, zbt_xor, zbt_shr1, zbt_m1 i hi, zbt_zB _ (by omega), zbt_zB _ (by omega), zbt_zB _ (by omega)]
          by_cases h1 : i < r
          · have h2 : i < T.nr := by omega
            have h3 : i < T.nr - 1 := by omega
            simp [h1, h2, h3]
          · by_cases h2 : i + 1 < T.nr
            · have h3 : i < T.nr - 1 := by omega
              simp [h1, h2, h3]
            · have h3 : ¬ i < T.nr - 1 := by omega
              simp [h1, h2, h3]
        -- the choice, then the number of rows
        obtain ⟨⟨K, X, O, H, hK, hX, hO⟩, hq⟩ := S1
        have r2 := zh_put (k := 5) (v := .long (zB (fun r' => if r' < r then T.ch r' else T.ch (r' + 1)) (T.nr - 1))) H.c (by show _ < 6; decide)
        generalize hh2 : g1.set q (.inr (10, [.ref (q + 1), .ref (q + 2), .ref (q + 3), .int (nI T.nc), .int (nI T.nr), .long (zB (fun r' => if r' < r then T.ch r' else T.ch (r' + 1)) (T.nr - 1))])) = g2
        have r2 : zf_put 10 5 q (.long (zB (fun r' => if r' < r then T.ch r' else T.ch (r' + 1)) (T.nr - 1))) g1 = some g2 := r2.trans (congrArg some hh2)
        have f2 : ∀ j, j ≠ q → g2[j]? = g1[j]? := fun j hj => by rw [← hh2]; exact zh_set_n (Ne.symm hj)
        have s2 := zh_set_r H.c hh2
        have u2 : zU q 4 g1 g2 := by rw [← hh2]; exact zU_s H.c rfl (by omega)
        have r3 := zh_put (k := 4) (v := .int (nI (T.nr - 1))) s2 (by show _ < 6; decide)
        generalize hh3 : g2.set q (.inr (10, [.ref (q + 1), .ref (q + 2), .ref (q + 3), .int (nI T.nc), .int (nI (T.nr - 1)), .long (zB (fun r' => if r' < r then T.ch r' else T.ch (r' + 1)) (T.nr - 1))])) = g3
        have r3 : zf_put 10 4 q (.int (nI (T.nr - 1))) g2 = some g3 := r3.trans (congrArg some hh3)
        have f3 : ∀ j, j ≠ q → g3[j]? = g2[j]? := fun j hj => by rw [← hh3]; exact zh_set_n (Ne.symm hj)
        have s3 := zh_set_r s2 hh3
        have u3 : zU q 4 g2 g3 := by rw [← hh3]; exact zU_s s2 rfl (by omega)
        have e10 : nI T.nr - 1 = nI (T.nr - 1) := by
          obtain ⟨j, hj⟩ : ∃ j, T.nr = j + 1 := ⟨T.nr - 1, by omega⟩
          rw [hj, nI_pred, Nat.add_sub_cancel]
        refine ⟨g3, ?_, ?_, zU_t U1 (zU_t u2 u3)⟩
        · rw [ze_b2 e1', ze_b e3, ze_b e3, e4, ze_b r2, ze_b (zh_I s2 rfl), e10, ze_b r3]
        · refine ⟨⟨K, X, O, ⟨s3, ?_, ?_, ?_, h4, by show T.nr - 1 ≤ 40; omega⟩, hK, fun c r' hc hr' => ?_, fun p hp => ?_⟩, hq⟩
          · rw [f3 _ (by omega), f2 _ (by omega)]; exact H.k
          · rw [f3 _ (by omega), f2 _ (by omega)]; exact H.x
          · rw [f3 _ (by omega), f2 _ (by omega)]; exact H.o
          · have hc : c < T.nc := hc
            have hr' : r' < T.nr - 1 := hr'
            rw [hX c r' hc (show r' < T.nr by omega)]
            exact hz1 c r' hc hr'
          · have hp : p < T.nr - 1 := hp
            rw [hO p (show p < T.nr by omega)]
            show nI (if p < T.nr - 1 then _ else _) = _
            rw [if_pos hp]; rfl
  obtain ⟨g, e, S9, U9⟩ := key zF 0 T.ky h (Nat.zero_le _) (by unfold zF; omega) (S.same rfl rfl (fun _ _ => rfl) (fun _ _ _ _ => rfl) (fun _ _ => rfl) (fun _ _ => rfl)) (fun c r' hc => absurd hc (Nat.not_lt_zero _)) (fun _ _ _ => rfl)
  refine ⟨g, ?_, S9, U9⟩
  unfold f_Sheet_dropRow
  rw [ze_b S.ok, ze_b2 (S.hasRow1 hr), if_pos (by decide)]
  exact e
theorem zPerm_drop {o : Nat → Nat} {n r l : Nat} (w : zPerm o n) (hl : l < n) (e : o l = r) : zPerm (zDO o r l) (n - 1) := by
  have hne : ∀ p, p < n → p ≠ l → o p ≠ r := fun p hp hx hy => hx (zPerm_inj w hp hl (hy.trans e.symm))
  have hv : ∀ p, p < n - 1 → (if p < l then p else p + 1) < n ∧ (if p < l then p else p + 1) ≠ l := by
    intro p hp
    by_cases h1 : p < l
    · rw [if_pos h1]; omega
    · rw [if_neg h1]; omega
  have hr : r < n := by rw [← e]; exact w.1 l hl
  refine ⟨fun p hp => ?_, fun i j hij hj => ?_⟩
  · obtain ⟨a, b⟩ := hv p hp
    have h1 := w.1 _ a
    have h2 := hne _ a b
    unfold zDO
    by_cases h3 : r < o (if p < l then p else p + 1)
    · rw [if_pos h3]; omega
    · rw [if_neg h3]; omega
  · obtain ⟨a, b⟩ := hv i (by omega)
    obtain ⟨a', b'⟩ := hv j hj
    have h2 := hne _ a b
    have h2' := hne _ a' b'
    have h3 : (if i < l then i else i + 1) < (if j < l then j else j + 1) := by
      by_cases h1 : i < l
      · rw [if_pos h1]
        by_cases h4 : j < l
        · rw [if_pos h4]; exact hij
        · rw [if_neg h4]; omega
      · rw [if_neg h1, if_neg (by omega)]; omega
    have h4 := w.2 _ _ h3 a'
    unfold zDO
    generalize o (if i < l then i else i + 1) = x at *
    generalize o (if j < l then j else j + 1) = y at *
    by_cases h5 : r < x
    · rw [if_pos h5]
      by_cases h6 : r < y
      · rw [if_pos h6]; omega
      · rw [if_neg h6]; omega
    · rw [if_neg h5]
      by_cases h6 : r < y
      · rw [if_pos h6]; omega
      · rw [if_neg h6]; exact h4
theorem zWF.drop {T : zT} (w : zWF T) {r : Nat} (hr : r < T.nr) : zWF (zDrop T r) := by
  obtain ⟨l1, l2⟩ := zpl_r w.p hr
  refine ⟨w.c4, by have := w.r40; show T.nr - 1 ≤ 40; omega, fun c' hc' => w.k1 hc', fun c' r' hc' hr' => ?_, zPerm_drop w.p l1 l2⟩
  have hr' : r' < T.nr - 1 := hr'
  show zokK (T.kd c') (if r' < r then T.ky c' r' else T.ky c' (r' + 1))
  by_cases e : r' < r
  · rw [if_pos e]; exact w.k hc' (by omega)
  · rw [if_neg e]; exact w.k hc' (by omega)
end ZDR

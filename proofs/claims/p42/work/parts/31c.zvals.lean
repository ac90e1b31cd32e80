/-! ===== the values of a test ===== -/
section ZVA
variable {h g : zx_H} {L : List (Nat × Nat × Int64)} {T : zT} {q qs p : Nat} {ks : List Int64} {fk fp : Int32}
theorem zkeyOf (kd : Nat) (hk : kd ≤ 1) (v : Int64) (h : zx_H) : f_ColumnVault_keyOf (nI kd) v h = some (zkv kd v, h) := by
  unfold f_ColumnVault_keyOf zkv
  rcases Nat.le_one_iff_eq_zero_or_eq_one.mp hk with rfl | rfl
  · rw [if_neg (show ¬ (0 : Nat) = 1 by decide)]
    first
      | rw [if_pos (by decide)]
      | rw [if_neg (by decide)]
  · rw [if_pos rfl]
    by_cases e : v = -9000000000
    · rw [if_pos e]
      first
        | rw [if_neg (by decide), if_pos e]
        | rw [if_pos (by decide), if_pos e]
        | rw [if_neg (by decide), if_neg (fun x => x e)]
        | rw [if_pos (by decide), if_neg (fun x => x e)]
    · rw [if_neg e]
      have key : ∀ m n k, m ≤ 6 → m < n → f_ColumnVault_keyOf_20 n k (nI (7 - m)) h = some (zkf m k, h) := by
        intro m
        induction m with
        | zero =>
          intro n k _ hn
          obtain ⟨n, rfl⟩ : ∃ j, n = j + 1 := ⟨n - 1, by omega⟩
          unfold f_ColumnVault_keyOf_20 zkf
          rw [if_pos (show (7 : Int32) ≤ nI (7 - 0) by decide)]
        | succ m ih =>
          intro n k hm hn
          obtain ⟨n, rfl⟩ : ∃ j, n = j + 1 := ⟨n - 1, by omega⟩
          unfold f_ColumnVault_keyOf_20 zkf
          rw [if_neg (show ¬ (7 : Int32) ≤ nI (7 - (m + 1)) from nI_ge (b := 7) (by omega) (by decide))]
          by_cases e2 : (k.toUInt64 >>> (((48 : Int32)).toInt64.toUInt64 &&& Int64.toUInt64 63)).toInt64 = (0 : Int64)
          · rw [if_pos e2]
            first
              | rw [if_pos e2, nI_1, show 7 - (m + 1) + 1 = 7 - m by omega]
              | rw [if_neg (fun x => x e2), nI_1, show 7 - (m + 1) + 1 = 7 - m by omega]
            exact ih n _ (by omega) (by omega)
          · rw [if_neg e2]
            first
              | rw [if_neg e2]
              | rw [if_pos e2]
      first
        | rw [if_neg (by decide), if_neg e]
        | rw [if_pos (by decide), if_neg e]
        | rw [if_neg (by decide), if_pos e]
        | rw [if_pos (by decide), if_pos e]
      exact key 6 zF v (by decide) (by decide)
theorem zRd.push (R : zRd h q qs T L p ks fk fp) (hk : ks.length < 6) (hp : p + 1 < 2 ^ 20) (x : Int64) : ∃ g1 g2 g3, zf_stJ (q + 1) (nI ks.length) x h = some g1 ∧ zf_put 3 3 q (.int (nI (ks.length + 1))) g1 = some g2 ∧ zf_put 3 4 q (.int (nI (p + 1))) g2 = some g3 ∧ g1[q]? = h[q]? ∧ g2[q]? = some (.inr (3, [.ref 150, .ref qs, .ref (q + 1), .int (nI (ks.length + 1)), .int (nI p), .int fk, .int fp])) ∧ zRd g3 q qs T L (p + 1) (ks ++ [x]) fk fp ∧ zU q 2 h g3 := by
  obtain ⟨f, k1, k2⟩ := R.2.1
  have r1 := zh_stJ (x := x) k1 hk (by decide)
  generalize hh1 : h.set (q + 1) (.inl (2, 6, .inr (.inl (vp_updL f ks.length x)))) = h1 at r1
  have u1 : zU q 2 h h1 := by rw [← hh1]; exact zU_s k1 rfl (by omega)
  have c1 := zh_set_k hh1 (by omega) R.c
  have a1 := zh_set_r k1 hh1
  have r2 := zh_put (k := 3) (v := .int (nI (ks.length + 1))) c1 (by show _ < 7; decide)
  generalize hh2 : h1.set q (.inr (3, [.ref 150, .ref qs, .ref (q + 1), .int (nI (ks.length + 1)), .int (nI p), .int fk, .int fp])) = h2
  have r2 : zf_put 3 3 q (.int (nI (ks.length + 1))) h1 = some h2 := r2.trans (congrArg some hh2)
  have u2 : zU q 2 h1 h2 := by rw [← hh2]; exact zU_s c1 rfl (by omega)
  have c2 := zh_set_r c1 hh2
  have a2 := zh_set_k hh2 (by omega) a1
  have r3 := zh_put (k := 4) (v := .int (nI (p + 1))) c2 (by show _ < 7; decide)
  generalize hh3 : h2.set q (.inr (3, [.ref 150, .ref qs, .ref (q + 1), .int (nI (ks.length + 1)), .int (nI (p + 1)), .int fk, .int fp])) = h3
  have r3 : zf_put 3 4 q (.int (nI (p + 1))) h2 = some h3 := r3.trans (congrArg some hh3)
  have u3 : zU q 2 h2 h3 := by rw [← hh3]; exact zU_s c2 rfl (by omega)
  have hlen : (ks ++ [x]).length = ks.length + 1 := List.length_append
  refine ⟨h1, h2, h3, r1, r2, r3, c1.trans R.c.symm, c2, R.U2 (zU_t u1 (zU_t u2 u3)) (by rw [hlen]; exact zh_set_r c2 hh3) ⟨_, zh_set_k hh3 (by omega) a2, fun i hi => ?_⟩ hp (by rw [hlen]; exact hk), zU_t u1 (zU_t u2 u3)⟩
  rw [hlen] at hi
  by_cases e : i = ks.length
  · rw [e, pk_uLs, zgdN]
  · rw [pk_uLn e, k2 i (by omega), zgdM ks x i (by omega)]
/-- one value read -/
def zV1 (h : zx_H) (q qs : Nat) (T : zT) (L : List (Nat × Nat × Int64)) (p : Nat) (ks : List Int64) (fk fp : Int32) (x : Option (Int32 × zx_H)) : List Int64 ⊕ (Nat × Int32) → Prop
  | .inl ks' => ∃ g, x = some (1, g) ∧ zRd g q qs T L (p + 1) ks' fk fp ∧ zU q 2 h g ∧ ks'.length = ks.length + 1
  | .inr e => ∃ g, x = some (0, g) ∧ zRd g q qs T L p ks (nI e.1) e.2 ∧ zU q 2 h g
theorem zRd.val (R : zRd h q qs T L p ks fk fp) {kd : Nat} (hkd : kd ≤ 1) : zV1 h q qs T L p ks fk fp (f_FilterReader_readValue q (nI kd) h) (zpv1 L kd ks p) := by
  have hp := R.p20
  have hb := (R.Lb p).1
  have hk6 := R.2.2.2.2.2.2.2.2.2
  have start : ∀ x, (nI (zfo L p) = (97 : Int32) ∨ nI (zfo L p) = (48 : Int32)) → f_FilterReader_readValue_58 q (nI kd) (nI (zfo L p)) (zpc L p) (zvu L p) h = x → f_FilterReader_readValue q (nI kd) h = x := by
    intro x hc hx
    unfold f_FilterReader_readValue
    rw [ze_b (zh_A R.c rfl), ze_b (zh_I R.c rfl), ze_b R.K.is, ze_b2 (R.K.form (by omega)), ze_b (zh_A R.c rfl), ze_b (zh_I R.c rfl), ze_b R.K.is, ze_b2 (R.K.place (by omega)), ze_b (zh_A R.c rfl), ze_b (zh_I R.c rfl), ze_b R.K.is, ze_b2 (R.K.value (by omega))]
    by_cases h1 : nI (zfo L p) = (97 : Int32)
    · rw [if_pos h1]; exact hx
    · rw [if_neg h1, if_pos (hc.resolve_left h1)]; exact hx
  unfold zpv1
  by_cases h1 : zfo L p ≠ 97 ∧ zfo L p ≠ 48
  · rw [if_pos h1]
    obtain ⟨g, r, R2, U⟩ := R.fail 1 (zpc L p)
    refine ⟨g, ?_, R2, U⟩
    unfold f_FilterReader_readValue
    rw [ze_b (zh_A R.c rfl), ze_b (zh_I R.c rfl), ze_b R.K.is, ze_b2 (R.K.form (by omega)), ze_b (zh_A R.c rfl), ze_b (zh_I R.c rfl), ze_b R.K.is, ze_b2 (R.K.place (by omega)), ze_b (zh_A R.c rfl), ze_b (zh_I R.c rfl), ze_b R.K.is, ze_b2 (R.K.value (by omega)), if_neg (show ¬ nI (zfo L p) = (97 : Int32) from fun x => h1.1 ((nI_eq (b := 97) (by omega) (by decide)).mp x)), if_neg (show ¬ nI (zfo L p) = (48 : Int32) from fun x => h1.2 ((nI_eq (b := 48) (by omega) (by decide)).mp x)), ze_b R.is, ze_b2 r]
  · rw [if_neg h1]
    have hc : nI (zfo L p) = (97 : Int32) ∨ nI (zfo L p) = (48 : Int32) := by
      by_cases e : zfo L p = 97
      · exact Or.inl (by rw [e]; rfl)
      · by_cases e2 : zfo L p = 48
        · exact Or.inr (by rw [e2]; rfl)
        · exact absurd ⟨e, e2⟩ h1
    by_cases h2 : zvu L p = -9000000000 ∨ 6 ≤ ks.length
    · rw [if_pos h2]
      obtain ⟨g, r, R2, U⟩ := R.fail 2 (zpc L p)
      refine ⟨g, start _ hc ?_, R2, U⟩
      unfold f_FilterReader_readValue_58
      by_cases h3 : zvu L p = -9000000000
      · rw [if_pos h3, ze_b R.is, ze_b2 r]
      · rw [if_neg h3, ze_b (zh_I R.c rfl), if_neg (show ¬ nI ks.length < (6 : Int32) from nI_nlt (b := 6) (h2.resolve_left h3) (by omega)), ze_b R.is, ze_b2 r]
    · rw [if_neg h2]
      have h3 : zvu L p ≠ -9000000000 := fun x => h2 (Or.inl x)
      have h6 : ks.length < 6 := Nat.lt_of_not_le fun x => h2 (Or.inr x)
      have hpl : p + 1 < 2 ^ 20 := by
        have h5 := R.K.2.2.2.2
        rcases Nat.lt_or_ge p L.length with h7 | h7
        · omega
        · exfalso
          have : zfo L p = 0 := by unfold zfo; rw [zgdT L p h7]; rfl
          rw [this] at hc
          exact absurd hc (by decide)
      have good : ∀ x : Int32, ∃ g, f_FilterReader_readValue_106 q (nI kd) (zpc L p) (zvu L p) x x h = some (1, g) ∧ zRd g q qs T L (p + 1) (ks ++ [zkv kd (zvu L p)]) fk fp ∧ zU q 2 h g := by
        intro x
        obtain ⟨g1, g2, g3, r1, r2, r3, e1, e2, R3, U⟩ := R.push h6 hpl (zkv kd (zvu L p))
        refine ⟨g3, ?_, R3, U⟩
        have c1 := e1.trans R.c
        unfold f_FilterReader_readValue_106
        rw [if_pos rfl, ze_b (zh_A R.c rfl), ze_b (zh_I R.c rfl), ze_b2 (zkeyOf kd hkd _ h), ze_b r1, ze_b (zh_I c1 rfl), nI_1, ze_b r2, ze_b (zh_I e2 rfl), nI_1, ze_b r3]
      have bad : ∀ x y : Int32, x ≠ y → ∃ g, f_FilterReader_readValue_106 q (nI kd) (zpc L p) (zvu L p) x y h = some (0, g) ∧ zRd g q qs T L p ks (nI 3) (zpc L p) ∧ zU q 2 h g := by
        intro x y hxy
        obtain ⟨g, r, R2, U⟩ := R.fail 3 (zpc L p)
        refine ⟨g, ?_, R2, U⟩
        unfold f_FilterReader_readValue_106
        rw [if_neg hxy, ze_b R.is, ze_b2 r]
      have hlen : (ks ++ [zkv kd (zvu L p)]).length = ks.length + 1 := List.length_append
      have s58 : f_FilterReader_readValue_58 q (nI kd) (nI (zfo L p)) (zpc L p) (zvu L p) h = f_FilterReader_readValue_106 q (nI kd) (zpc L p) (zvu L p) (if zfo L p = 97 then 1 else 0) (if kd = 1 then 1 else 0) h := by
        unfold f_FilterReader_readValue_58
        rw [if_neg h3, ze_b (zh_I R.c rfl), if_pos (show nI ks.length < (6 : Int32) from nI_lt (b := 6) h6 (by decide))]
        have hkc : kd = 1 ∨ kd = 0 := by omega
        by_cases e : zfo L p = 97
        · rw [if_neg (show ¬ ¬ nI (zfo L p) = (97 : Int32) from fun x => x (by rw [e]; rfl)), if_pos e]
          rcases hkc with rfl | rfl
          · rw [if_neg (by decide), if_pos rfl]
          · rw [if_pos (by decide), if_neg (by decide)]
        · rw [if_pos (show ¬ nI (zfo L p) = (97 : Int32) from fun x => e ((nI_eq (b := 97) (by omega) (by decide)).mp x)), if_neg e]
          rcases hkc with rfl | rfl
          · rw [if_neg (by decide), if_pos rfl]
          · rw [if_pos (by decide), if_neg (by decide)]
      by_cases h4 : (zfo L p = 97 ∧ kd ≠ 1) ∨ (zfo L p ≠ 97 ∧ kd = 1)
      · rw [if_pos h4]
        obtain ⟨g, r, R2, U⟩ := bad (if zfo L p = 97 then 1 else 0) (if kd = 1 then 1 else 0) (by
          rcases h4 with ⟨a, b⟩ | ⟨a, b⟩
          · rw [if_pos a, if_neg b]; decide
          · rw [if_neg a, if_pos b]; decide)
        exact ⟨g, start _ hc (s58.trans r), R2, U⟩
      · rw [if_neg h4]
        obtain ⟨g, r, R2, U⟩ := good (if zfo L p = 97 then 1 else 0)
        refine ⟨g, start _ hc (s58.trans ?_), R2, U, hlen⟩
        have e : (if kd = 1 then (1 : Int32) else 0) = (if zfo L p = 97 then 1 else 0) := by
          by_cases a : zfo L p = 97
          · have b : kd = 1 := Classical.byContradiction fun x => h4 (Or.inl ⟨a, x⟩)
            rw [if_pos a, if_pos b]
          · have b : ¬ kd = 1 := fun x => h4 (Or.inr ⟨a, x⟩)
            rw [if_neg a, if_neg b]
        rw [e]
        exact r
/-- what reading the values comes to -/
def zVo (h : zx_H) (q qs : Nat) (T : zT) (L : List (Nat × Nat × Int64)) (fk fp : Int32) (x : Option (Int32 × zx_H)) : (List Int64 × Nat) ⊕ (Nat × Int32) → Prop
  | .inl r => ∃ g, x = some (1, g) ∧ zRd g q qs T L r.2 r.1 fk fp ∧ zU q 2 h g
  | .inr e => ∃ g p' ks', x = some (0, g) ∧ zRd g q qs T L p' ks' (nI e.1) e.2 ∧ zU q 2 h g
theorem zVo_U {h g : zx_H} {x y : Option (Int32 × zx_H)} (U : zU q 2 h g) (e : y = x) : ∀ {z : (List Int64 × Nat) ⊕ (Nat × Int32)}, zVo g q qs T L fk fp x z → zVo h q qs T L fk fp y z
  | .inl _, ⟨g', r, R, U2⟩ => ⟨g', e.trans r, R, zU_t U U2⟩
  | .inr _, ⟨g', p', ks', r, R, U2⟩ => ⟨g', p', ks', e.trans r, R, zU_t U U2⟩
theorem zRd.vals {a kd need : Nat} (ha : a ≤ 255) (hkd : kd ≤ 1) (hneed : need ≤ 2) : ∀ n m {h : zx_H} {p : Nat} {ks : List Int64}, zRd h q qs T L p ks fk fp → m + ks.length = 7 → m < n → zVo h q qs T L fk fp (f_FilterReader_readValues_33 n q (nI a) (nI kd) (nI need) 1 (nI ks.length) h) (zpvs L a kd need m ks p) := by
  intro n
  induction n with
  | zero => intro m h p ks _ _ hn; exact absurd hn (Nat.not_lt_zero _)
  | succ n ih =>
    intro m h p ks R hm hn
    have hk6 := R.2.2.2.2.2.2.2.2.2
    have hp := R.p20
    have hb := (R.Lb p).1
    obtain ⟨m, rfl⟩ : ∃ j, m = j + 1 := ⟨m - 1, by omega⟩
    have hstop : narrow .boolean (.int (1 : Int32)) = .int 1 := rfl
    have h6 : ¬ (6 : Int32) < nI ks.length := nI_nlt (a := 6) hk6 (by decide)
    -- one more value, then the others
    have more : zVo h q qs T L fk fp (zf_b2 (f_FilterReader_readValue q (nI kd) h) fun v1 h2 => (f_FilterReader_readValues_33 n) q (nI a) (nI kd) (nI need) v1 (nI ks.length + (1 : Int32)) h2) (zsb (zpv1 L kd ks p) (fun ks' => zpvs L a kd need m ks' (p + 1))) := by
      have hv := R.val hkd
      cases hz : zpv1 L kd ks p with
      | inl ks' =>
        rw [hz] at hv
        obtain ⟨g1, r1, R1, U1, hl⟩ := hv
        have hi := ih m R1 (by omega) (by omega)
        show zVo h q qs T L fk fp _ (zpvs L a kd need m ks' (p + 1))
        refine zVo_U U1 ?_ hi
        rw [ze_b2 r1, nI_1, ← hl]
      | inr e =>
        rw [hz] at hv
        obtain ⟨g1, r1, R1, U1⟩ := hv
        refine ⟨g1, p, ks, ?_, R1, U1⟩
        rw [ze_b2 r1, nI_1]
        obtain ⟨n, rfl⟩ : ∃ j, n = j + 1 := ⟨n - 1, by omega⟩
        unfold f_FilterReader_readValues_33
        by_cases e6 : (6 : Int32) < nI (ks.length + 1)
        · rw [if_pos e6, if_pos (show narrow .boolean (.int 0) = .int 0 from rfl)]
        · rw [if_neg e6, if_pos rfl, if_pos (show narrow .boolean (.int 0) = .int 0 from rfl)]
    unfold f_FilterReader_readValues_33 zpvs
    rw [if_neg h6, if_neg (show ¬ (1 : Int32) = 0 by decide)]
    by_cases h1 : ks.length < need
    · rw [if_pos (Or.inl h1), if_pos (nI_lt h1 (by omega)), ze_b R.is]
      exact more
    · rw [if_neg (nI_nlt (Nat.le_of_not_lt h1) (by omega))]
      by_cases h2 : a = 105
      · rw [if_neg (show ¬ ¬ nI a = (105 : Int32) from fun x => x (by rw [h2]; rfl)), ze_b R.is]
        have hn : f_FilterReader_isValueNext q h = some (zb (decide (zfo L p = 48 ∨ zfo L p = 97)), h) := by
          unfold f_FilterReader_isValueNext
          rw [ze_b (zh_A R.c rfl), ze_b (zh_I R.c rfl), ze_b R.K.is, ze_b2 (R.K.form (by omega))]
          by_cases e1 : zfo L p = 48
          · rw [if_pos (by rw [e1]; rfl), decide_eq_true (Or.inl e1)]; rfl
          · rw [if_neg (show ¬ nI (zfo L p) = (48 : Int32) from fun x => e1 ((nI_eq (b := 48) (by omega) (by decide)).mp x))]
            by_cases e2 : zfo L p = 97
            · rw [if_neg (show ¬ ¬ nI (zfo L p) = (97 : Int32) from fun x => x (by rw [e2]; rfl)), decide_eq_true (Or.inr e2)]; rfl
            · rw [if_pos (show ¬ nI (zfo L p) = (97 : Int32) from fun x => e2 ((nI_eq (b := 97) (by omega) (by decide)).mp x)), decide_eq_false (fun x => x.elim e1 e2)]; rfl
        rw [ze_b2 hn]
        by_cases h3 : zfo L p = 48 ∨ zfo L p = 97
        · rw [if_pos (Or.inr ⟨h2, h3⟩), decide_eq_true h3, if_neg (show ¬ zb true = 0 by decide), ze_b R.is]
          exact more
        · rw [decide_eq_false h3, if_pos (show zb false = 0 from rfl), if_pos hstop, if_neg (show ¬ (ks.length < need ∨ (a = 105 ∧ (zfo L p = 48 ∨ zfo L p = 97))) from fun x => x.elim h1 (fun y => h3 y.2))]
          exact ⟨h, rfl, R, zU_r⟩
      · rw [if_pos (show ¬ nI a = (105 : Int32) from fun x => h2 ((nI_eq (b := 105) (by omega) (by decide)).mp x)), if_pos hstop, if_neg (show ¬ (ks.length < need ∨ (a = 105 ∧ (zfo L p = 48 ∨ zfo L p = 97))) from fun x => x.elim h1 (fun y => h2 y.1))]
        exact ⟨h, rfl, R, zU_r⟩
end ZVA

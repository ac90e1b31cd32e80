/-! ===== a table ===== -/
section ZTT
/-- columns, rows, kinds, keys by column and row, row by place, choice -/
def zT : Type := Nat × Nat × (Nat → Nat) × (Nat → Nat → Int64) × (Nat → Nat) × (Nat → Bool)
def zMk (nc nr : Nat) (kd : Nat → Nat) (ky : Nat → Nat → Int64) (od : Nat → Nat) (ch : Nat → Bool) : zT := (nc, nr, kd, ky, od, ch)
def zT.nc (T : zT) : Nat := T.1
def zT.nr (T : zT) : Nat := T.2.1
def zT.kd (T : zT) : Nat → Nat := T.2.2.1
def zT.ky (T : zT) : Nat → Nat → Int64 := T.2.2.2.1
def zT.od (T : zT) : Nat → Nat := T.2.2.2.2.1
def zT.ch (T : zT) : Nat → Bool := T.2.2.2.2.2
/-- a table as it must be -/
def zWF (T : zT) : Prop := T.nc ≤ 4 ∧ T.nr ≤ 40 ∧ (∀ c, c < T.nc → T.kd c ≤ 1) ∧ (∀ c r, c < T.nc → r < T.nr → zokK (T.kd c) (T.ky c r)) ∧ zPerm T.od T.nr
theorem zWF.c4 {T : zT} (w : zWF T) : T.nc ≤ 4 := w.1
theorem zWF.r40 {T : zT} (w : zWF T) : T.nr ≤ 40 := w.2.1
theorem zWF.k1 {T : zT} (w : zWF T) {c : Nat} (h : c < T.nc) : T.kd c ≤ 1 := w.2.2.1 c h
theorem zWF.k {T : zT} (w : zWF T) {c r : Nat} (h : c < T.nc) (hr : r < T.nr) : zokK (T.kd c) (T.ky c r) := w.2.2.2.1 c r h hr
theorem zWF.p {T : zT} (w : zWF T) : zPerm T.od T.nr := w.2.2.2.2
theorem zWF.o {T : zT} (w : zWF T) {p : Nat} (h : p < T.nr) : T.od p < T.nr := w.p.1 p h
/-- at place q stands the table T -/
def TS (h : zx_H) (q : Nat) (T : zT) : Prop := (∃ K X O, SH h q K X O T.nc T.nr (zB T.ch T.nr) ∧ (∀ c, c < T.nc → K c = nI (T.kd c)) ∧ (∀ c r, c < T.nc → r < T.nr → X (c * 40 + r) = T.ky c r) ∧ ∀ p, p < T.nr → O p = nI (T.od p)) ∧ q + 4 ≤ 600
variable {h : zx_H} {q : Nat} {T : zT}
theorem TS.qb (S : TS h q T) : q + 4 ≤ 600 := S.2
theorem TS.c4 (S : TS h q T) : T.nc ≤ 4 := by obtain ⟨⟨K, X, O, H, _⟩, _⟩ := S; exact H.nc4
theorem TS.r40 (S : TS h q T) : T.nr ≤ 40 := by obtain ⟨⟨K, X, O, H, _⟩, _⟩ := S; exact H.nr40
theorem TS.I3 (S : TS h q T) : zf_I 10 3 q h = some (nI T.nc) := by obtain ⟨⟨K, X, O, H, _⟩, _⟩ := S; exact zh_I H.c rfl
theorem TS.I4 (S : TS h q T) : zf_I 10 4 q h = some (nI T.nr) := by obtain ⟨⟨K, X, O, H, _⟩, _⟩ := S; exact zh_I H.c rfl
theorem TS.J5 (S : TS h q T) : zf_J 10 5 q h = some (zB T.ch T.nr) := by obtain ⟨⟨K, X, O, H, _⟩, _⟩ := S; exact zh_J H.c rfl
theorem TS.A2 (S : TS h q T) : zf_A 10 2 q h = some (q + 3) := by obtain ⟨⟨K, X, O, H, _⟩, _⟩ := S; exact zh_A H.c rfl
theorem TS.ok (S : TS h q T) : zf_is 10 q h = some () := by obtain ⟨⟨K, X, O, H, _⟩, _⟩ := S; exact zh_is H.c
theorem zq_ne {q : Nat} (h : q ≤ 700) : q ≠ zx_lim := by show q ≠ 1000000; omega
theorem TS.o (S : TS h q T) {p : Nat} (hp : p < T.nr) : zf_ldI (q + 3) (nI p) h = some (nI (T.od p)) := by
  have := S.qb
  have := S.r40
  obtain ⟨⟨K, X, O, H, _, _, hO⟩, _⟩ := S
  rw [zh_ldI (zq_ne (by omega)) H.o (by omega) (by decide), hO p hp]
theorem TS.keyAt (S : TS h q T) {c r : Nat} (hc : c < T.nc) (hr : r < T.nr) : f_Sheet_keyAt q (nI c) (nI r) h = some (T.ky c r, h) := by
  obtain ⟨⟨K, X, O, H, _, hX, _⟩, _⟩ := S
  rw [zS_keyAt' H hc hr, hX c r hc hr]
theorem TS.kindOf (S : TS h q T) {c : Nat} (hc : c < T.nc) : f_Sheet_kindOf q (nI c) h = some (nI (T.kd c), h) := by
  have h4 := S.c4
  have hq := S.qb
  have hi := S.ok
  have h3 := S.I3
  obtain ⟨⟨K, X, O, H, hK, _, _⟩, _⟩ := S
  unfold f_Sheet_kindOf f_Sheet_hasColumn
  rw [ze_b hi, if_neg (nI_pos (by omega)), h3, ze_b rfl, if_neg (nI_ge hc (by omega)), ze_b2 rfl, if_neg (by decide), ze_b (zh_A H.c rfl), ze_b (zh_ldI (zq_ne (by omega)) H.k (by omega) (by decide)), hK c hc]
theorem TS.hasColumn (S : TS h q T) (c : Int32) : f_Sheet_hasColumn q c h = some (if c < 0 ∨ nI T.nc ≤ c then 0 else 1, h) := by
  obtain ⟨⟨K, X, O, H, _⟩, _⟩ := S
  exact zS_hasColumn H c
theorem TS.hasRow (S : TS h q T) (c : Int32) : f_Sheet_hasRow q c h = some (if c < 0 ∨ nI T.nr ≤ c then 0 else 1, h) := by
  obtain ⟨⟨K, X, O, H, _⟩, _⟩ := S
  exact zS_hasRow H c
theorem TS.hasColumn1 (S : TS h q T) {c : Nat} (hc : c < T.nc) : f_Sheet_hasColumn q (nI c) h = some (1, h) := by
  have := S.c4
  rw [S.hasColumn, if_neg]
  rintro (x | x)
  · exact nI_pos (by omega) x
  · exact nI_ge hc (by omega) x
theorem TS.hasRow1 (S : TS h q T) {c : Nat} (hc : c < T.nr) : f_Sheet_hasRow q (nI c) h = some (1, h) := by
  have := S.r40
  rw [S.hasRow, if_neg]
  rintro (x | x)
  · exact nI_pos (by omega) x
  · exact nI_ge hc (by omega) x
theorem TS.rowInOrder (S : TS h q T) {p : Nat} (hp : p < T.nr) : f_Sheet_rowInOrder q (nI p) h = some (nI (T.od p), h) := by
  unfold f_Sheet_rowInOrder
  rw [ze_b S.ok, ze_b2 (S.hasRow1 hp), if_neg (by decide), ze_b S.A2, ze_b (S.o hp)]
theorem TS.rft (S : TS h q T) {c : Nat} (hc : c < T.nc) (lo hi : Int64) : f_Sheet_rowsFromTo q (nI c) lo hi h = some (zB (fun r => decide (lo ≤ T.ky c r ∧ T.ky c r ≤ hi)) T.nr, h) := by
  have h4 := S.c4
  have h40 := S.r40
  obtain ⟨⟨K, X, O, H, _, hX, _⟩, _⟩ := S
  rw [zS_rowsFromTo H]
  congr 2
  refine zB_c fun j hj => ?_
  have e : zS_key X T.nc T.nr (nI c) (nI j) = T.ky c j := by
    unfold zS_key
    rw [if_neg, nI_clamp (by omega), nI_clamp (by omega), hX c j hc hj]
    rintro (x | x | x | x)
    · exact nI_pos (by omega) x
    · exact nI_ge hc (by omega) x
    · exact nI_pos (by omega) x
    · exact nI_ge hj (by omega) x
  unfold zS_in
  rw [e]
  refine decide_eq_decide.mpr ?_
  rw [zl_t, zl_t, zl_e, zl_e]
  omega
theorem TS.rwi (S : TS h q T) {c : Nat} (hc : c < T.nc) (v : Int64) : f_Sheet_rowsWith q (nI c) v h = some (zB (fun r => decide (T.ky c r = v)) T.nr, h) := by
  unfold f_Sheet_rowsWith
  rw [ze_b S.ok, ze_b2 (S.rft hc v v)]
  congr 2
  refine zB_c fun j hj => decide_eq_decide.mpr ?_
  rw [zl_e, zl_e, zl_i]
  omega
theorem TS.known (S : TS h q T) (w : zWF T) {c : Nat} (hc : c < T.nc) : f_Sheet_knownRows q (nI c) h = some (zB (fun r => decide (T.ky c r ≠ -9000000000)) T.nr, h) := by
  unfold f_Sheet_knownRows
  rw [ze_b S.ok, ze_b2 (S.rft hc _ _)]
  congr 2
  refine zB_c fun j hj => decide_eq_decide.mpr ?_
  have hk := w.k hc hj
  have e1 : ((-8999999999 : Int64)).toInt = -8999999999 := by decide +kernel
  have e2 : ((9223372036854775807 : Int64)).toInt = 9223372036854775807 := by decide +kernel
  rw [zl_e, zl_e, e1, e2]
  constructor
  · rintro ⟨a, _⟩ e
    rw [e, zl_m] at a
    omega
  · intro hn
    have := zokK_ge hk hn
    omega
theorem TS.allRows (S : TS h q T) : f_Sheet_allRows q h = some (zB (fun _ => true) T.nr, h) := by
  unfold f_Sheet_allRows
  rw [ze_b S.I4, zB_all T.nr S.r40]
theorem TS.holds (S : TS h q T) {p : Nat → Bool} {r : Nat} (hr : r < T.nr) : f_ColumnVault_holdsRow (zB p T.nr) (nI r) h = some (zb (p r), h) := by
  have := S.r40
  rw [zB_holds this (by omega), decide_eq_true hr, Bool.true_and]
theorem TS.sumOf6 (S : TS h q T) {c : Nat} (hc : c < T.nc) (p : Nat → Bool) : ∀ n i, i ≤ T.nr → T.nr - i < n → f_Sheet_sumOf_6 n q (nI c) (zB p T.nr) (zs (fun r => if T.ky c r ≠ -9000000000 ∧ p r = true then T.ky c r else 0) i) (nI i) h = some (zs (fun r => if T.ky c r ≠ -9000000000 ∧ p r = true then T.ky c r else 0) T.nr, h) := by
  have h40 := S.r40
  intro n
  induction n with
  | zero => intro i _ hn; exact absurd hn (Nat.not_lt_zero _)
  | succ n ih =>
    intro i hi hn
    unfold f_Sheet_sumOf_6
    rw [ze_b S.I4]
    rcases Nat.lt_or_ge i T.nr with hlt | hge
    · have h1 := ih (i + 1) hlt (by omega)
      rw [if_neg (nI_ge hlt (by omega)), ze_b S.ok, ze_b2 (S.keyAt hc hlt), nI_1]
      have e : zs (fun r => if T.ky c r ≠ -9000000000 ∧ p r = true then T.ky c r else 0) (i + 1) = zs (fun r => if T.ky c r ≠ -9000000000 ∧ p r = true then T.ky c r else 0) i + (if T.ky c i ≠ -9000000000 ∧ p i = true then T.ky c i else 0) := rfl
      rw [e] at h1
      by_cases hk : T.ky c i = -9000000000
      · rw [if_pos hk]
        rw [if_neg (fun x => x.1 hk), Int64.add_zero] at h1
        exact h1
      · rw [if_neg hk, ze_b2 (S.holds hlt)]
        by_cases hp : p i = true
        · rw [if_neg (by rw [hp]; decide)]
          rw [if_pos ⟨hk, hp⟩] at h1
          exact h1
        · rw [if_pos (by rw [ts_nt hp]; decide)]
          rw [if_neg (fun x => hp x.2), Int64.add_zero] at h1
          exact h1
    · have e : i = T.nr := Nat.le_antisymm hi hge
      subst e
      rw [if_pos (nI_le (Nat.le_refl _) (by omega))]
theorem TS.sumOf (S : TS h q T) {c : Nat} (hc : c < T.nc) (p : Nat → Bool) : f_Sheet_sumOf q (nI c) (zB p T.nr) h = some (zs (fun r => if T.ky c r ≠ -9000000000 ∧ p r = true then T.ky c r else 0) T.nr, h) := S.sumOf6 hc p zF 0 (Nat.zero_le _) (by have := S.r40; unfold zF; omega)
theorem TS.placeIn2 (S : TS h q T) (w : zWF T) {r : Nat} (hr : r < T.nr) : ∀ n i, i ≤ T.nr → T.nr - i < n → (∀ j, j < i → T.od j ≠ r) → f_Sheet_placeInOrder_2 n q (nI r) (nI i) h = some (nI (zpl T.od r T.nr), h) := by
  have h40 := S.r40
  intro n
  induction n with
  | zero => intro i _ hn; exact absurd hn (Nat.not_lt_zero _)
  | succ n ih =>
    intro i hi hn hj
    unfold f_Sheet_placeInOrder_2
    obtain ⟨z1, z2⟩ := zpl_r w.p hr
    have hlt : i < T.nr := by
      rcases Nat.lt_or_ge (zpl T.od r T.nr) i with h1 | h1
      · exact absurd z2 (hj _ h1)
      · omega
    rw [ze_b S.I4, if_neg (nI_ge hlt (by omega)), ze_b S.A2, ze_b (S.o hlt), nI_1]
    by_cases e : T.od i = r
    · rw [e, if_neg (fun x => x rfl), ← e, zpl_p w.p hlt]
    · have := w.o hlt
      rw [if_pos (by rw [nI_eq (by omega) (by omega)]; exact e)]
      exact ih (i + 1) hlt (by omega) (lt_s hj e)
theorem TS.placeIn (S : TS h q T) (w : zWF T) {r : Nat} (hr : r < T.nr) : f_Sheet_placeInOrder q (nI r) h = some (nI (zpl T.od r T.nr), h) := S.placeIn2 w hr zF 0 (Nat.zero_le _) (by have := S.r40; unfold zF; omega) (fun j hj => absurd hj (Nat.not_lt_zero _))
/-- the rows at the places up to n -/
theorem TS.upTo5 (S : TS h q T) (w : zWF T) {m : Nat} (hm : m ≤ T.nr) : ∀ n i, i ≤ m → m - i < n → f_Sheet_rowsUpTo_5 n q (nI m - 1) (zB (fun r => decide (zpl T.od r T.nr < i)) T.nr) (nI i) h = some (zB (fun r => decide (zpl T.od r T.nr < m)) T.nr, h) := by
  have h40 := S.r40
  intro n
  induction n with
  | zero => intro i _ hn; exact absurd hn (Nat.not_lt_zero _)
  | succ n ih =>
    intro i hi hn
    unfold f_Sheet_rowsUpTo_5
    have e0 : nI m - 1 < nI i ↔ ¬ i < m := by
      rw [zi_t, show nI m - 1 = nI m - nI 1 from rfl, pk_sub_toInt (by omega) (by omega), nI_toInt (by omega)]
      omega
    rcases Nat.lt_or_ge i m with hlt | hge
    · have hlt2 : i < T.nr := by omega
      rw [if_neg (fun x => (e0.mp x) hlt), ze_b S.I4, if_neg (nI_ge hlt2 (by omega)), ze_b S.A2, ze_b (S.o hlt2), nI_1, zB_put (by omega) (w.o hlt2)]
      have h1 := ih (i + 1) hlt (by omega)
      have e : zB (fun r => decide (zpl T.od r T.nr < i) || decide (r = T.od i)) T.nr = zB (fun r => decide (zpl T.od r T.nr < i + 1)) T.nr := by
        refine zB_c fun j hj => ?_
        obtain ⟨z1, z2⟩ := zpl_r w.p hj
        rw [← Bool.decide_or]
        refine decide_eq_decide.mpr ⟨?_, ?_⟩
        · rintro (x | rfl)
          · omega
          · rw [zpl_p w.p hlt2]; omega
        · intro x
          rcases Nat.lt_or_ge (zpl T.od j T.nr) i with h2 | h2
          · exact Or.inl h2
          · have : zpl T.od j T.nr = i := by omega
            right
            rw [← z2, this]
      rw [e]
      exact h1
    · have e : i = m := Nat.le_antisymm hi hge
      subst e
      rw [if_pos (e0.mpr (Nat.lt_irrefl _))]
theorem TS.upTo (S : TS h q T) (w : zWF T) {m : Nat} (hm : m ≤ T.nr) : f_Sheet_rowsUpTo q (nI m - 1) h = some (zB (fun r => decide (zpl T.od r T.nr < m)) T.nr, h) := by
  have h1 := S.upTo5 w hm zF 0 (Nat.zero_le _) (by have := S.r40; unfold zF; omega)
  have e : zB (fun r => decide (zpl T.od r T.nr < 0)) T.nr = 0 := (zB_zero (by have := S.r40; omega)).mpr fun i _ => decide_eq_false (Nat.not_lt_zero _)
  rw [e] at h1
  exact h1
end ZTT

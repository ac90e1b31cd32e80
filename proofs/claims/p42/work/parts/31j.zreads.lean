/-! ===== how much is read ===== -/
section ZRS
variable {h : zx_H}
theorem zct_sub {p q : Nat → Bool} : ∀ {n : Nat}, (∀ i, i < n → p i = true → q i = true) → fb_ct p n ≤ fb_ct q n
  | 0, _ => Nat.le_refl _
  | n + 1, hpq => by
    have h1 := zct_sub (n := n) fun i hi => hpq i (by omega)
    rw [fb_ct_succ, fb_ct_succ]
    by_cases e : p n = true
    · rw [if_pos e, if_pos (hpq n (by omega) e)]; omega
    · rw [if_neg e]; omega
def zcn (x : Int64) : Nat := fb_ct (zbt x) 64
theorem zcn_and (x y : Int64) : zcn (x &&& y) ≤ zcn x := zct_sub fun i _ e => by
  rw [zbt_and] at e
  exact (Bool.and_eq_true _ _ ▸ e).1
theorem zreads {b : Int32} : ∀ n d p3, 16 ≤ n + p3 → p3 ≤ 15 → ∀ q e k, zNo d h q e k → ∀ x, ∃ r, f_ColumnVault_readsOf n q x b (nI p3) h = some (nI r, h) ∧ zcn x ≤ r ∧ r ≤ k * zcn x := by
  intro n
  induction n with
  | zero => intro d p3 h1 h2; omega
  | succ n ih =>
    intro d p3 h1 h2 q e k N x
    have hk := zNo_k N
    have base : ∃ r, f_Long_bitCount x h = some (nI r, h) ∧ zcn x ≤ r ∧ r ≤ k * zcn x := ⟨zcn x, zk_cnt x h, Nat.le_refl _, Nat.le_mul_of_pos_left _ hk⟩
    obtain ⟨r0, b1, b2, b3⟩ := base
    show ∃ r, f_ColumnVault_readsOfb (f_ColumnVault_readsOf n) q x b (nI p3) h = some (nI r, h) ∧ zcn x ≤ r ∧ r ≤ k * zcn x
    unfold f_ColumnVault_readsOfb
    cases d with
    | zero => exact N.elim
    | succ d =>
      rcases N.2 with ⟨n0, n1⟩ | ⟨f, l, l', a, c, K, E, x0, x1, x2, x3, x4, x5, x6, x7, x8, x9, x10, x11, x12, x13⟩
      · rw [ze_b n0, if_pos rfl, ze_b2 b1]
        exact ⟨r0, rfl, b2, b3⟩
      · have hf0 : ¬ f = 0 := by rcases x1 with rfl | rfl <;> decide
        rw [ze_b x0, if_neg hf0]
        rcases Nat.lt_or_ge 14 p3 with h15 | h15
        · rw [if_neg (show ¬ nI p3 ≤ (14 : Int32) from nI_ge (a := 14) h15 (by omega)), ze_b2 b1]
          exact ⟨r0, rfl, b2, b3⟩
        · rw [if_pos (show nI p3 ≤ (14 : Int32) from nI_le (b := 14) h15 (by decide))]
          have loop : ∀ (o : Nat), (o = if b = 0 then 4 else 6) → ∀ m (s : List Nat) (y : Option Nat) (acc : Nat) (left : Int64), s.length < m → zCh o h s y → (∀ u ∈ s, u ∈ l) → ∃ r, f_ColumnVault_readsOf_42 (f_ColumnVault_readsOf n) m q b (nI p3) (nI acc) left y h = some (nI (acc + r), h) ∧ (s ≠ [] → zcn left ≤ r) ∧ r ≤ zSm K s * zcn left := by
            intro o ho m
            induction m with
            | zero => intro s y acc left hm; exact absurd hm (Nat.not_lt_zero _)
            | succ m ihm =>
              intro s y acc left hm hch hin
              unfold f_ColumnVault_readsOf_42
              cases s with
              | nil =>
                have hch : y = none := hch
                subst hch
                exact ⟨0, rfl, fun z => absurd rfl z, Nat.zero_le _⟩
              | cons u s =>
                obtain ⟨ey, y2, e1, e2⟩ := hch
                subst ey
                have hu := x13 u (hin u (List.mem_cons_self ..))
                obtain ⟨ru, r1, r2, r3⟩ := ih d (p3 + 1) (by omega) (by omega) u (E u) (K u) hu.2.2.1 left
                obtain ⟨yu, hy⟩ := hu.2.2.2
                have hm : s.length < m := Nat.lt_of_succ_lt_succ hm
                have next : ∀ z : Int64, ∃ r, f_ColumnVault_readsOf_91 (f_ColumnVault_readsOf n) (f_ColumnVault_readsOf_42 (f_ColumnVault_readsOf n) m) q b (nI p3) (nI acc + nI ru) u left z h = some (nI (acc + r), h) ∧ (u :: s ≠ [] → zcn left ≤ r) ∧ r ≤ zSm K (u :: s) * zcn left := by
                  intro z
                  obtain ⟨r, q1, q2, q3⟩ := ihm s y2 (acc + ru) (left &&& z) hm e2 (fun v hv => hin v (List.mem_cons_of_mem _ hv))
                  have hz := zcn_and left z
                  refine ⟨ru + r, ?_, fun _ => by omega, ?_⟩
                  · unfold f_ColumnVault_readsOf_91
                    rw [nI_add, ← Nat.add_assoc]
                    by_cases hb : b = 0
                    · rw [if_pos hb]
                      rw [if_pos hb] at ho
                      subst ho
                      rw [ze_b e1]
                      exact q1
                    · rw [if_neg hb]
                      rw [if_neg hb] at ho
                      subst ho
                      rw [ze_b e1]
                      exact q1
                  · show ru + r ≤ (K u + zSm K s) * zcn left
                    rw [Nat.add_mul]
                    have := Nat.mul_le_mul_left (zSm K s) hz
                    omega
                rw [show ∀ (A : Option (Int32 × zx_H)) (F : Nat → Option (Int32 × zx_H)), zf_on (some u) A F = F u from fun _ _ => rfl]
                rw [nI_1, ze_b2 r1, ze_b x0]
                by_cases h1 : f = 1
                · rw [if_neg (fun z => z h1), ze_b hy]
                  exact next yu
                · rw [if_pos h1, ze_b hy]
                  exact next _
          by_cases hb : b = 0
          · rw [if_pos hb, ze_b x2]
            obtain ⟨r, q1, q2, q3⟩ := loop 4 (if_pos hb).symm zF l a 0 x (by unfold zF; omega) x4 (fun u hu => hu)
            rw [Nat.zero_add] at q1
            exact ⟨r, q1, q2 x6, by rw [← x8]; exact q3⟩
          · rw [if_neg hb, ze_b x3]
            obtain ⟨r, q1, q2, q3⟩ := loop 6 (if_neg hb).symm zF l' c 0 x (by unfold zF; omega) x5 x12
            rw [Nat.zero_add] at q1
            exact ⟨r, q1, q2 x7, by rw [← x9]; exact q3⟩
theorem zcn_zB {p : Nat → Bool} {n : Nat} (hn : n ≤ 64) : zcn (zB p n) = fb_ct p n := by
  unfold zcn
  exact zB_ct hn
end ZRS

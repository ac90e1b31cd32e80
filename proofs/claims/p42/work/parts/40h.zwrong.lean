/-! ===== wrong texts, read ===== -/
section ZWT
def zchk : Nat × ((Nat × Nat) ⊕ (Nat × Int32)) → Nat → Int32 → Bool
  | (w, .inr (k, p)), k', p' => k == k' && (p == p' && Nat.ble w 40)
  | (_, .inl _), _, _ => false
theorem zchk_e {k : Nat} {p : Int32} : ∀ {x : Nat × ((Nat × Nat) ⊕ (Nat × Int32))}, zchk x k p = true → ∃ w, x = (w, .inr (k, p)) ∧ w ≤ 40
  | (w, .inr (k', p')), e => by
    have e : (k' == k && (p' == p && Nat.ble w 40)) = true := e
    rw [Bool.and_eq_true, Bool.and_eq_true] at e
    have e1 : k' = k := eq_of_beq e.1
    have e2 : p' = p := eq_of_beq e.2.1
    exact ⟨w, by rw [e1, e2], Nat.le_of_ble_eq_true e.2.2⟩
  | (_, .inl _), e => by
    have e : false = true := e
    cases e
/-- the text has fault (k, p) for every table whose first column holds numbers -/
theorem zfaultC {L : List (Nat × Nat × Int64)} {T : zT} {k : Nat} {p : Int32} (w : zWF T) (h1 : 1 ≤ T.nc) (h0 : T.kd 0 = 0) (hz : ∀ n, n < 5 → ∀ a, a < 2 → ∀ b, b < 2 → ∀ c, c < 2 → 1 ≤ n → n = T.nc → (1 < n → a = T.kd 1) → zchk (zsh (zpW L (zT0 n a b c))) k p = true) : ∃ m, zpW L T = (m, .inr (k, p)) ∧ m ≤ 40 := by
  have h4 := w.c4
  have hb : ∀ c, ∃ x, x < 2 ∧ (c < T.nc → T.kd c = x) := fun c => by
    rcases Nat.lt_or_ge c T.nc with hc | hc
    · have := w.k1 hc
      exact ⟨T.kd c, by omega, fun _ => rfl⟩
    · exact ⟨0, by decide, fun x => by omega⟩
  obtain ⟨a, ha, ea⟩ := hb 1
  obtain ⟨b, hb', eb⟩ := hb 2
  obtain ⟨c, hc, ec⟩ := hb 3
  obtain ⟨m, em, hm⟩ := zchk_e (hz T.nc (by omega) a ha b hb' c hc h1 rfl (fun x => (ea x).symm))
  exact ⟨m, zfault rfl h0 ea eb ec h4 em, hm⟩
theorem zw_0 : ∀ n, n < 5 → ∀ a, a < 2 → ∀ b, b < 2 → ∀ c, c < 2 → 1 ≤ n → zchk (zsh (zpW (ztk []) (zT0 n a b c))) 1 0 = true := by decide +kernel
theorem zw_2 : ∀ n, n < 5 → ∀ a, a < 2 → ∀ b, b < 2 → ∀ c, c < 2 → 1 ≤ n → zchk (zsh (zpW (ztk [35, 48, 32, 61, 32, 53, 32, 53]) (zT0 n a b c))) 1 7 = true := by decide +kernel
theorem zw_3 : ∀ n, n < 5 → ∀ a, a < 2 → ∀ b, b < 2 → ∀ c, c < 2 → 1 ≤ n → zchk (zsh (zpW (ztk [35, 48, 32, 109, 105, 115, 115, 105, 110]) (zT0 n a b c))) 1 3 = true := by decide +kernel
theorem zw_4 : ∀ n, n < 5 → ∀ a, a < 2 → ∀ b, b < 2 → ∀ c, c < 2 → 1 ≤ n → zchk (zsh (zpW (ztk [35, 120]) (zT0 n a b c))) 1 1 = true := by decide +kernel
theorem zw_5 : ∀ n, n < 5 → ∀ a, a < 2 → ∀ b, b < 2 → ∀ c, c < 2 → 1 ≤ n → zchk (zsh (zpW (ztk [35, 48, 32, 116, 111, 32, 49, 32]) (zT0 n a b c))) 1 8 = true := by decide +kernel
theorem zw_6 : ∀ n, n < 5 → ∀ a, a < 2 → ∀ b, b < 2 → ∀ c, c < 2 → 1 ≤ n → zchk (zsh (zpW (ztk [35, 48, 32, 105, 110, 32, 49, 32, 50, 32, 51, 32, 52, 32, 53, 32, 54, 32, 55]) (zT0 n a b c))) 2 18 = true := by decide +kernel
theorem zw_7 : ∀ n, n < 5 → ∀ a, a < 2 → ∀ b, b < 2 → ∀ c, c < 2 → 1 ≤ n → zchk (zsh (zpW (ztk [33, 33, 33, 33, 35, 48, 61, 49]) (zT0 n a b c))) 2 3 = true := by decide +kernel
theorem zw_8 : ∀ n, n < 5 → ∀ a, a < 2 → ∀ b, b < 2 → ∀ c, c < 2 → 1 ≤ n → zchk (zsh (zpW (ztk [40, 40, 40, 40, 40, 40, 40, 35, 48, 61, 49]) (zT0 n a b c))) 2 6 = true := by decide +kernel
theorem zw_9 : ∀ n, n < 5 → ∀ a, a < 2 → ∀ b, b < 2 → ∀ c, c < 2 → 1 ≤ n → zchk (zsh (zpW (ztk [35, 48, 32, 61, 32, 97, 98, 99, 100, 101, 102, 103, 104]) (zT0 n a b c))) 2 5 = true := by decide +kernel
theorem zw_10 : ∀ n, n < 5 → ∀ a, a < 2 → ∀ b, b < 2 → ∀ c, c < 2 → 1 ≤ n → zchk (zsh (zpW (ztk [35, 48, 32, 60, 32, 53, 32, 38, 32, 124]) (zT0 n a b c))) 1 9 = true := by decide +kernel
theorem zw_11 : ∀ n, n < 5 → ∀ a, a < 2 → ∀ b, b < 2 → ∀ c, c < 2 → 1 ≤ n → zchk (zsh (zpW (ztk [40, 35, 48, 32, 109, 105, 115, 115, 105, 110, 103]) (zT0 n a b c))) 1 11 = true := by decide +kernel
theorem zw_12 : ∀ n, n < 5 → ∀ a, a < 2 → ∀ b, b < 2 → ∀ c, c < 2 → 1 ≤ n → zchk (zsh (zpW (ztk [35, 48, 32, 62, 32, 45, 53, 45]) (zT0 n a b c))) 1 7 = true := by decide +kernel
theorem zw_13 : ∀ n, n < 5 → ∀ a, a < 2 → ∀ b, b < 2 → ∀ c, c < 2 → 1 ≤ n → zchk (zsh (zpW (ztk [35, 48, 32, 109, 105, 115, 115, 105, 110, 103, 32, 41]) (zT0 n a b c))) 1 11 = true := by decide +kernel
theorem zw_14 : ∀ n, n < 5 → ∀ a, a < 2 → ∀ b, b < 2 → ∀ c, c < 2 → 1 ≤ n → zchk (zsh (zpW (ztk ([35, 48, 32, 61, 32, 53, 32, 124, 32, 35] ++ [48 + n] ++ [61, 49])) (zT0 n a b c))) 2 9 = true := by decide +kernel
theorem zw_15 : ∀ n, n < 5 → ∀ b, b < 2 → ∀ c, c < 2 → 1 < n → zchk (zsh (zpW (ztk [35, 49, 32, 61, 32, 53]) (zT0 n 1 b c))) 3 5 = true := by decide +kernel
theorem zw_16 : ∀ n, n < 5 → ∀ a, a < 2 → ∀ b, b < 2 → ∀ c, c < 2 → 1 ≤ n → zchk (zsh (zpW (ztk [35, 48, 32, 61, 32, 102, 105, 118, 101]) (zT0 n a b c))) 3 5 = true := by decide +kernel
end ZWT

/-! ===== numbers printed ===== -/
section ZNU
variable {h g : zx_H}
theorem zh_set_same {q : Nat} {c : zx_E} (e : h[q]? = some c) : h.set q c = h := by
  apply List.ext_getElem?
  intro i
  by_cases hi : q = i
  · subst hi
    rw [zh_set_s e, e]
  · rw [zh_set_n hi]
theorem zx_x_800 : zx_x (zx_lim + 1 + 800) = some (.byte, .inl (0, 100, .inl (fun i => Int32.ofNat (48 + i % 10)))) := by
  unfold zx_x
  rw [if_pos (by omega), show zx_lim + 1 + 800 - zx_lim - 1 = 800 by omega]
  unfold zt_ext
  rw [if_neg (by decide), if_neg (by decide), if_pos rfl]
theorem zx_x_801 : zx_x (zx_lim + 1 + 801) = some (.byte, .inl (0, 100, .inl (fun i => Int32.ofNat (48 + i / 10)))) := by
  unfold zx_x
  rw [if_pos (by omega), show zx_lim + 1 + 801 - zx_lim - 1 = 801 by omega]
  unfold zt_ext
  rw [if_neg (by decide), if_neg (by decide), if_neg (by decide), if_pos rfl]
theorem zD1 {k : Nat} (hk : k < 100) (hl : h.length ≤ 600000) : zf_ldB (zx_lim + 1 + 800) (nI k) h = some (nI (48 + k % 10)) := by
  have o : h[zx_lim + 1 + 800]? = none := zh_out hl (by show 600000 ≤ 1000000 + 1 + 800; decide)
  have hin : zx_in (nI k) 100 := vp_in_nI hk (by decide)
  unfold zf_ldB
  rw [o, zx_x_800]
  show (if zx_in (nI k) 100 then some (Int32.ofNat (48 + (nI k).toNatClampNeg % 10)) else none) = _
  rw [if_pos hin, nI_clamp (by omega)]
  rfl
theorem zD2 {k : Nat} (hk : k < 100) (hl : h.length ≤ 600000) : zf_ldB (zx_lim + 1 + 801) (nI k) h = some (nI (48 + k / 10)) := by
  have o : h[zx_lim + 1 + 801]? = none := zh_out hl (by show 600000 ≤ 1000000 + 1 + 801; decide)
  have hin : zx_in (nI k) 100 := vp_in_nI hk (by decide)
  unfold zf_ldB
  rw [o, zx_x_801]
  show (if zx_in (nI k) 100 then some (Int32.ofNat (48 + (nI k).toNatClampNeg / 10)) else none) = _
  rw [if_pos hin, nI_clamp (by omega)]
  rfl
theorem zng_t {n : Nat} (hn : n < 2 ^ 30) : (-nI n).toInt = -(n : Int) := by
  rw [← Int32.zero_sub, show (0 : Int32) = nI 0 from rfl, pk_sub_toInt (by decide) hn]
  omega
theorem zng_div {n : Nat} (hn : n < 2 ^ 30) : -nI n / (100 : Int32) = -nI (n / 100) := by
  apply Int32.toInt_inj.mp
  rw [Int32.toInt_div_of_ne_right _ _ (by decide), zng_t hn, zng_t (by omega), show ((100 : Int32)).toInt = ((100 : Nat) : Int) by decide, Int.neg_tdiv, ← Int.ofNat_tdiv]
theorem zng_mod {n : Nat} (hn : n < 2 ^ 30) : (-nI n / (100 : Int32)) * (100 : Int32) - -nI n = nI (n % 100) := by
  have e1 : ((100 : Int32)).toInt = 100 := by decide
  apply Int32.toInt_inj.mp
  rw [zng_div hn]
  have e2 : (-nI (n / 100) * (100 : Int32)).toInt = -((n / 100 : Nat) : Int) * 100 := by
    rw [fb_mulI (by rw [zng_t (by omega), e1]; omega) (by rw [zng_t (by omega), e1]; omega), zng_t (by omega), e1]
  rw [fb_subI (by rw [e2, zng_t hn]; omega) (by rw [e2, zng_t hn]; omega), e2, zng_t hn, nI_toInt (by omega)]
  omega
/-- the value of digits -/
def zvf : List Nat → Nat → Nat
  | [], v => v
  | c :: s, v => zvf s (v * 10 + (c - 48))
theorem zvf_app : ∀ (s : List Nat) (a v : Nat), zvf (s ++ [a]) v = zvf s v * 10 + (a - 48)
  | [], _, _ => rfl
  | c :: s, a, v => zvf_app s a (v * 10 + (c - 48))
theorem zvf_ge : ∀ (s : List Nat) (v : Nat), v ≤ zvf s v
  | [], _ => Nat.le_refl _
  | c :: s, v => by
    have := zvf_ge s (v * 10 + (c - 48))
    show v ≤ zvf s (v * 10 + (c - 48))
    omega
theorem zvf_mono : ∀ (s : List Nat) {v v' : Nat}, v ≤ v' → zvf s v ≤ zvf s v'
  | [], _, _, h => h
  | c :: s, v, v', h => zvf_mono s (show v * 10 + (c - 48) ≤ v' * 10 + (c - 48) by omega)
theorem zdn_min : ∀ (s : List Nat) (v : Nat), v ≤ 1000001 → zdn s v = min (zvf s v) 1000001
  | [], v, h => (Nat.min_eq_left h).symm
  | c :: s, v, h => by
    show zdn s (min (v * 10 + (c - 48)) 1000001) = min (zvf s (v * 10 + (c - 48))) 1000001
    rw [zdn_min s _ (Nat.min_le_right _ _)]
    by_cases e : v * 10 + (c - 48) ≤ 1000001
    · rw [Nat.min_eq_left e]
    · rw [Nat.min_eq_right (show 1000001 ≤ v * 10 + (c - 48) by omega)]
      have h1 := zvf_ge s 1000001
      have h2 := zvf_mono s (show 1000001 ≤ v * 10 + (c - 48) by omega)
      rw [Nat.min_eq_right h1, Nat.min_eq_right (by omega)]
def zbn1 (b : Bool) : Nat := if b = true then 1 else 0
/-- one letter written before place i + 1 -/
theorem zwr {a m i : Nat} {f : Nat → Int32} {c : Nat} (e : h[a]? = some (.inl (3, m, .inl f))) (hi : i < m) (hm : m < 2 ^ 31) (hc : c < 128) : zf_stB a (nI (i + 1) + (-1 : Int32)) (nI c) h = some (h.set a (.inl (3, m, .inl (upd f i (nI c))))) := by
  rw [pk_m1, zh_stB e hi hm, (zfb_c2 c hc).2.2]
theorem zgetC {a m : Nat} (ha : a ≤ 600000) (hm : m ≤ 20000) (neg : Bool) : ∀ fuel s n i (h : zx_H) (f : Nat → Int32), h[a]? = some (.inl (3, m, .inl f)) → h.length ≤ 600000 → n < 10 ^ s → n < 2 ^ 30 → 1 ≤ s → s < 2 * fuel → s + zbn1 neg ≤ i → i ≤ m → ∃ ds f', f_Integer_getChars_22 fuel (-nI n) a (nI i) (zb neg) h = some (nI (i - ds.length - zbn1 neg), h.set a (.inl (3, m, .inl f'))) ∧ (∀ c ∈ ds, 48 ≤ c ∧ c ≤ 57) ∧ zvf ds 0 = n ∧ 1 ≤ ds.length ∧ ds.length ≤ s ∧ n < 10 ^ ds.length ∧ (ds.length = 1 ∨ 10 ^ (ds.length - 1) ≤ n) ∧ (∀ j, j < ds.length → f' (i - ds.length + j) = nI (ds.getD j 0)) ∧ (neg = true → f' (i - ds.length - 1) = nI 45) ∧ ∀ j, (j < i - ds.length - zbn1 neg ∨ i ≤ j) → f' j = f j := by
  -- the sign
  have sign : ∀ i (h : zx_H) (f : Nat → Int32), h[a]? = some (.inl (3, m, .inl f)) → zbn1 neg ≤ i → i ≤ m → ∃ f', f_Integer_getChars_104 a (nI i) (zb neg) h = some (nI (i - zbn1 neg), h.set a (.inl (3, m, .inl f'))) ∧ (neg = true → f' (i - 1) = nI 45) ∧ ∀ j, (j < i - zbn1 neg ∨ i ≤ j) → f' j = f j := by
    intro i h f e hi hm2
    unfold f_Integer_getChars_104
    cases neg with
    | false =>
      refine ⟨f, ?_, fun x => absurd x (by decide), fun _ _ => rfl⟩
      rw [if_pos (show zb false = 0 from rfl)]
      show some (nI i, h) = some (nI (i - 0), _)
      rw [Nat.sub_zero, zh_set_same e]
    | true =>
      have hi : 1 ≤ i := hi
      obtain ⟨i, rfl⟩ : ∃ k, i = k + 1 := ⟨i - 1, by omega⟩
      refine ⟨upd f i (nI 45), ?_, fun _ => by rw [Nat.add_sub_cancel, pk_us], fun j hj => pk_un (by have hj : j < i + 1 - 1 ∨ i + 1 ≤ j := hj; omega)⟩
      have w1 := zwr (c := 45) e (show i < m by omega) (by omega) (by decide)
      have w1 : zf_stB a (nI (i + 1) + (-1 : Int32)) (45 : Int32) h = _ := w1
      rw [if_neg (by decide), ze_b w1, pk_m1]
      rfl
  intro fuel
  induction fuel with
  | zero => intro s n i h f _ _ _ _ h1 h2; omega
  | succ fuel ih =>
    intro s n i h f e hl hs hn h1 hsf hi him
    have hlt : ∀ (d : Nat), d < 2 ^ 20 → ((-100 : Int32) < -nI d ↔ d < 100) := fun d hd => by
      rw [zi_t, zng_t (by omega), show ((-100 : Int32)).toInt = -100 by decide]
      omega
    have hlt' : (-100 : Int32) < -nI n ↔ n < 100 := by
      rw [zi_t, zng_t hn, show ((-100 : Int32)).toInt = -100 by decide]
      omega
    unfold f_Integer_getChars_22
    obtain ⟨i, rfl⟩ : ∃ k, i = k + 1 := ⟨i - 1, by omega⟩
    by_cases c1 : n < 100
    · have w1 := zwr (c := 48 + n % 10) e (show i < m by omega) (by omega) (by omega)
      have e1 := zh_set_s (c' := .inl (3, m, .inl (upd f i (nI (48 + n % 10))))) e
      have l1 : (h.set a (.inl (3, m, .inl (upd f i (nI (48 + n % 10)))))).length = h.length := List.length_set
      rw [if_pos (hlt'.mpr c1), Int32.neg_neg, ze_b (zD1 c1 hl), ze_b w1]
      by_cases c2 : n ≤ 9
      · have h9 : (-9 : Int32) ≤ -nI n := by
          rw [zi_e, zng_t hn, show ((-9 : Int32)).toInt = -9 by decide]
          omega
        obtain ⟨f', r1, r2, r3⟩ := sign i _ _ e1 (by omega) (by omega)
        refine ⟨[48 + n], f', ?_, fun c hc => ?_, ?_, Nat.le_refl _, h1, by show n < 10; omega, Or.inl rfl, fun j hj => ?_, fun x => ?_, fun j hj => ?_⟩
        · rw [if_pos h9, pk_m1, r1, List.set_set]
          show some (nI (i - zbn1 neg), _) = some (nI (i + 1 - 1 - zbn1 neg), _)
          rw [Nat.add_sub_cancel]
        · rw [List.mem_singleton.mp hc]; omega
        · show 0 * 10 + (48 + n - 48) = n
          omega
        · have hj : j < 1 := hj
          have : j = 0 := by omega
          subst this
          show f' (i + 1 - 1 + 0) = nI (48 + n)
          rw [Nat.add_zero, Nat.add_sub_cancel, r3 i (Or.inr (Nat.le_refl _)), pk_us, show n % 10 = n by omega]
        · show f' (i + 1 - 1 - 1) = nI 45
          rw [Nat.add_sub_cancel]
          exact r2 x
        · have hj : j < i + 1 - 1 - zbn1 neg ∨ i + 1 ≤ j := hj
          rw [r3 j (by omega), pk_un (by omega)]
      · have h9 : ¬ (-9 : Int32) ≤ -nI n := by
          rw [zi_e, zng_t hn, show ((-9 : Int32)).toInt = -9 by decide]
          omega
        have hs2 : 2 ≤ s := by
          rcases Nat.lt_or_ge s 2 with c3 | c3
          · have : s = 1 := by omega
            subst this
            omega
          · exact c3
        obtain ⟨i, rfl⟩ : ∃ k, i = k + 1 := ⟨i - 1, by omega⟩
        have w2 := zwr (c := 48 + n / 10) e1 (show i < m by omega) (by omega) (by omega)
        have e2 := zh_set_s (c' := .inl (3, m, .inl (upd (upd f (i + 1) (nI (48 + n % 10))) i (nI (48 + n / 10))))) e1
        obtain ⟨f', r1, r2, r3⟩ := sign i _ _ e2 (by omega) (by omega)
        refine ⟨[48 + n / 10, 48 + n % 10], f', ?_, fun c hc => ?_, ?_, by show 1 ≤ 2; decide, hs2, by show n < 100; exact c1, Or.inr (by show 10 ≤ n; omega), fun j hj => ?_, fun x => ?_, fun j hj => ?_⟩
        · rw [if_neg h9, ze_b (zD2 c1 (by rw [l1]; exact hl)), pk_m1, ze_b w2, pk_m1, r1, List.set_set, List.set_set]
          show some (nI (i - zbn1 neg), _) = some (nI (i + 1 + 1 - 2 - zbn1 neg), _)
          rw [show i + 1 + 1 - 2 = i by omega]
        · rcases List.mem_cons.mp hc with rfl | hc
          · omega
          · rw [List.mem_singleton.mp hc]; omega
        · show (0 * 10 + (48 + n / 10 - 48)) * 10 + (48 + n % 10 - 48) = n
          omega
        · have hj : j < 2 := hj
          have : j = 0 ∨ j = 1 := by omega
          rcases this with rfl | rfl
          · show f' (i + 1 + 1 - 2 + 0) = nI (48 + n / 10)
            rw [show i + 1 + 1 - 2 + 0 = i by omega, r3 i (Or.inr (Nat.le_refl _)), pk_us]
          · show f' (i + 1 + 1 - 2 + 1) = nI (48 + n % 10)
            rw [show i + 1 + 1 - 2 + 1 = i + 1 by omega, r3 (i + 1) (Or.inr (by omega)), pk_un (by omega), pk_us]
        · show f' (i + 1 + 1 - 2 - 1) = nI 45
          rw [show i + 1 + 1 - 2 - 1 = i - 1 by omega]
          exact r2 x
        · have hj : j < i + 1 + 1 - 2 - zbn1 neg ∨ i + 1 + 1 ≤ j := hj
          rw [r3 j (by omega), pk_un (by omega), pk_un (by omega)]
    · -- two digits more
      have hs3 : 3 ≤ s := by
        rcases Nat.lt_or_ge s 3 with c3 | c3
        · have : s = 1 ∨ s = 2 := by omega
          rcases this with rfl | rfl
          · have hs : n < 10 := hs
            omega
          · have hs : n < 100 := hs
            omega
        · exact c3
      obtain ⟨i, rfl⟩ : ∃ k, i = k + 1 := ⟨i - 1, by omega⟩
      have w1 := zwr (c := 48 + n % 100 % 10) e (show i + 1 < m by omega) (by omega) (by omega)
      have e1 := zh_set_s (c' := .inl (3, m, .inl (upd f (i + 1) (nI (48 + n % 100 % 10))))) e
      have l1 : (h.set a (.inl (3, m, .inl (upd f (i + 1) (nI (48 + n % 100 % 10)))))).length = h.length := List.length_set
      have w2 := zwr (c := 48 + n % 100 / 10) e1 (show i < m by omega) (by omega) (by omega)
      have e2 := zh_set_s (c' := .inl (3, m, .inl (upd (upd f (i + 1) (nI (48 + n % 100 % 10))) i (nI (48 + n % 100 / 10))))) e1
      obtain ⟨t, rfl⟩ : ∃ t, s = t + 2 := ⟨s - 2, by omega⟩
      have hs100 : n / 100 < 10 ^ t := by
        rw [Nat.pow_succ, Nat.pow_succ] at hs
        omega
      obtain ⟨ds, f', r1, r2, r3, r4, r5, r6, r7, r8, r9, r10⟩ := ih t (n / 100) i _ _ e2 (by rw [List.length_set, l1]; exact hl) hs100 (by omega) (by omega) (by omega) (by omega) (by omega)
      have hlen : (ds ++ [48 + n % 100 / 10, 48 + n % 100 % 10]).length = ds.length + 2 := List.length_append
      refine ⟨ds ++ [48 + n % 100 / 10, 48 + n % 100 % 10], f', ?_, fun c hc => ?_, ?_, by rw [hlen]; omega, by rw [hlen]; omega, ?_, ?_, fun j hj => ?_, fun x => ?_, fun j hj => ?_⟩
      · rw [if_neg (fun x => c1 (hlt'.mp x)), zng_mod hn, ze_b (zD1 (Nat.mod_lt _ (by decide)) hl), ze_b w1, ze_b (zD2 (Nat.mod_lt _ (by decide)) (by rw [l1]; exact hl)), pk_m1, ze_b w2, pk_m1, zng_div hn, r1, List.set_set, List.set_set, hlen, show i + 1 + 1 - (ds.length + 2) = i - ds.length by omega]
      · rcases List.mem_append.mp hc with hc | hc
        · exact r2 c hc
        · rcases List.mem_cons.mp hc with rfl | hc
          · omega
          · rw [List.mem_singleton.mp hc]; omega
      · have e9 : ds ++ [48 + n % 100 / 10, 48 + n % 100 % 10] = (ds ++ [48 + n % 100 / 10]) ++ [48 + n % 100 % 10] := by rw [List.append_assoc]; rfl
        rw [e9, zvf_app, zvf_app, r3]
        omega
      · rw [hlen, Nat.pow_succ, Nat.pow_succ]
        omega
      · right
        rw [hlen, show ds.length + 2 - 1 = (ds.length - 1) + 2 by omega, Nat.pow_succ, Nat.pow_succ]
        rcases r7 with r7 | r7
        · rw [r7, Nat.sub_self, Nat.pow_zero]
          omega
        · omega
      · rw [hlen] at hj ⊢
        rcases Nat.lt_or_ge j ds.length with c3 | c3
        · rw [zgdA1 ds _ j c3, show i + 1 + 1 - (ds.length + 2) + j = i - ds.length + j by omega]
          exact r8 j c3
        · have hds : ds.length ≤ i := by omega
          have : j = ds.length + 0 ∨ j = ds.length + 1 := by omega
          rcases this with rfl | rfl
          · rw [zgdA2 ds, show i + 1 + 1 - (ds.length + 2) + (ds.length + 0) = i by omega, r10 i (Or.inr (Nat.le_refl _)), pk_us]
            rfl
          · rw [zgdA2 ds, show i + 1 + 1 - (ds.length + 2) + (ds.length + 1) = i + 1 by omega, r10 (i + 1) (Or.inr (by omega)), pk_un (by omega), pk_us]
            rfl
      · rw [hlen, show i + 1 + 1 - (ds.length + 2) - 1 = i - ds.length - 1 by omega]
        exact r9 x
      · rw [hlen] at hj
        rw [r10 j (by omega), pk_un (by omega), pk_un (by omega)]
end ZNU

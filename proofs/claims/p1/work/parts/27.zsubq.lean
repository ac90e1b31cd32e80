section ZYSQ
variable {len : Nat} {s : Nat → Int32}
theorem zs_dc {bx : zy_B} (hB : zs_B len s bx) {k : Nat} (hk : k < 64) {cd : ClassFile.Cond} {b : Bool} {y u : Int} (h : zy_dc bx k cd b y = some u) :
    ((cd = .eq ∨ cd = .ne) → ((zy_d len s k).toInt = y ↔ u = y)) ∧ (((b = true ∧ (cd = .lt ∨ cd = .ge)) ∨ (b = false ∧ (cd = .gt ∨ cd = .le))) → ((zy_d len s k).toInt < y ↔ u < y)) ∧
    (((b = false ∧ (cd = .lt ∨ cd = .ge)) ∨ (b = true ∧ (cd = .gt ∨ cd = .le))) → (y < (zy_d len s k).toInt ↔ y < u)) := by
  have h1 := zs_iv hB hk
  have h2 : zy_ne k y bx = true → (zy_d len s k).toInt ≠ y := zs_ne hB
  generalize (zy_d len s k).toInt = D at h1 h2 ⊢
  unfold zy_dc at h
  generalize zy_iv k bx = q at h h1
  have heq : ∀ {o : Option Int}, (if q.2 < y ∨ y < q.1 then some q.1 else if zy_ne k y bx = true then some (if y < 1000000000 then y + 1 else y - 1) else none) = some u → (D = y ↔ u = y) := by
    intro _ h
    split at h
    · cases h; omega
    · split at h
      · next hn =>
        have h9 := h2 hn
        cases h
        split <;> omega
      · cases h
  have hlt : ∀ m : Int, (if q.2 ≤ m ∨ m < q.1 then some q.1 else none) = some u → (D ≤ m ↔ u ≤ m) := by
    intro m h
    split at h
    · cases h; omega
    · cases h
  cases cd <;> cases b <;> (try dsimp only at h) <;> (try simp only [if_true, if_false, Bool.false_eq_true] at h) <;> refine ⟨fun h9 => ?_, fun h9 => ?_, fun h9 => ?_⟩ <;>
    first
    | exact heq (o := none) h
    | (have h8 := hlt _ h; omega)
    | (exfalso; simp at h9; done)
theorem zs_oi {u : Int} (h1 : -2147483648 ≤ u) (h2 : u ≤ 2147483647) : (Int32.ofInt u).toInt = u := Int32.toInt_ofInt_of_le (by omega) (by omega)
theorem zs_d0 {P Q : Prop} [Decidable P] [Decidable Q] (h : P ↔ Q) : decide P = decide Q := by
  by_cases hP : P
  · rw [decide_eq_true hP, decide_eq_true (h.mp hP)]
  · rw [decide_eq_false hP, decide_eq_false (fun hQ => hP (h.mpr hQ))]
theorem zs_eqI (x y : Int32) : (x = y) ↔ (x.toInt = y.toInt) := Int32.toInt_inj.symm
theorem zs_ltI (x y : Int32) : (x < y) ↔ (x.toInt < y.toInt) := Int32.lt_iff_toInt_lt
theorem zs_leI (x y : Int32) : (x ≤ y) ↔ (x.toInt ≤ y.toInt) := Int32.le_iff_toInt_le
set_option maxHeartbeats 2000000 in
theorem zs_cp {bx : zy_B} (hB : zs_B len s bx) {nL pc n : Nat} {lv : List (Nat × Value)} {st st' : List Value} {ins : Instr} {f : zx_F} (h : ((zy_cp ins).bind fun g => g bx st) = some st') (hp : zx_p nL pc lv (zs_st len s st') ins n = some f) : zx_p nL pc lv (zs_st len s st) ins n = some f := by
  unfold zy_cp at h
  split at h
  · -- ifCond
    next cd off =>
    simp only [Option.bind_some] at h
    split at h
    · next x r =>
      split at h
      · next k hk =>
        split at h
        · next u hu =>
          split at h
          · next hc =>
            cases h
            have h9 := zs_dc hB (zs_c_lt hk) hu
            have h8 := zs_oi hc.2.1 hc.2.2
            have h0 : (0 : Int32).toInt = 0 := rfl
            rcases n with _ | _ | _ | _ | n
            · cases hp
            · cases hp
            · cases hp
            · simp only [zx_p, zs_st, List.map_cons, zs_vi, zs_vl, zs_vr, zs_vn, zs_vd, zs_i_n hc.1, zs_i_c hk] at hp ⊢
              rw [← hp]
              cases cd <;> dsimp only <;> congr 1 <;> apply zs_d0 <;> simp only [zs_eqI, zs_ltI, zs_leI, h8, h0] <;>
                first
                | exact h9.1 (Or.inl rfl)
                | exact not_congr (h9.1 (Or.inr rfl))
                | (have h7 := h9.2.1 (Or.inl ⟨rfl, Or.inl rfl⟩); omega)
                | (have h7 := h9.2.1 (Or.inl ⟨rfl, Or.inr rfl⟩); omega)
                | (have h7 := h9.2.2 (Or.inr ⟨rfl, Or.inl rfl⟩); omega)
                | (have h7 := h9.2.2 (Or.inr ⟨rfl, Or.inr rfl⟩); omega)
            · cases hp
          · cases h
        · cases h
      · cases h
    · cases h
  · -- if_icmp
    next cd off =>
    simp only [Option.bind_some] at h
    split at h
    · next y x r =>
      split at h
      · next k hk hy =>
        split at h
        · next u hu =>
          split at h
          · next hc =>
            cases h
            have h9 := zs_dc hB (zs_c_lt hk) hu
            have h8 := zs_oi hc.2.1 hc.2.2
            rcases n with _ | _ | _ | _ | n
            · cases hp
            · cases hp
            · cases hp
            · simp only [zx_p, zs_st, List.map_cons, zs_vi, zs_vl, zs_vr, zs_vn, zs_vd, zs_i_n hc.1, zs_i_n hy, zs_i_c hk] at hp ⊢
              rw [← hp]
              cases cd <;> dsimp only <;> congr 1 <;> apply zs_d0 <;> simp only [zs_eqI, zs_ltI, zs_leI, h8] <;>
                first
                | exact h9.1 (Or.inl rfl)
                | exact not_congr (h9.1 (Or.inr rfl))
                | (have h7 := h9.2.1 (Or.inl ⟨rfl, Or.inl rfl⟩); omega)
                | (have h7 := h9.2.1 (Or.inl ⟨rfl, Or.inr rfl⟩); omega)
                | (have h7 := h9.2.2 (Or.inr ⟨rfl, Or.inl rfl⟩); omega)
                | (have h7 := h9.2.2 (Or.inr ⟨rfl, Or.inr rfl⟩); omega)
            · cases hp
          · cases h
        · cases h
      · next k hx hk =>
        split at h
        · next u hu =>
          split at h
          · next hc =>
            cases h
            have h9 := zs_dc hB (zs_c_lt hk) hu
            have h8 := zs_oi hc.2.1 hc.2.2
            rcases n with _ | _ | _ | _ | n
            · cases hp
            · cases hp
            · cases hp
            · simp only [zx_p, zs_st, List.map_cons, zs_vi, zs_vl, zs_vr, zs_vn, zs_vd, zs_i_n hc.1, zs_i_n hx, zs_i_c hk] at hp ⊢
              rw [← hp]
              cases cd <;> dsimp only <;> congr 1 <;> apply zs_d0 <;> simp only [zs_eqI, zs_ltI, zs_leI, h8] <;>
                first
                | (have h7 := h9.1 (Or.inl rfl); omega)
                | (have h7 := h9.1 (Or.inr rfl); omega)
                | (have h7 := h9.2.2 (Or.inl ⟨rfl, Or.inl rfl⟩); omega)
                | (have h7 := h9.2.2 (Or.inl ⟨rfl, Or.inr rfl⟩); omega)
                | (have h7 := h9.2.1 (Or.inr ⟨rfl, Or.inl rfl⟩); omega)
                | (have h7 := h9.2.1 (Or.inr ⟨rfl, Or.inr rfl⟩); omega)
            · cases hp
          · cases h
        · cases h
      · cases h
    · cases h
  · -- tableswitch
    next dflt lo hi offs =>
    simp only [Option.bind_some] at h
    split at h
    · next x r =>
      split at h
      · next k hk =>
        try dsimp only at h
        split at h
        · next hc =>
          cases h
          have h1 := zs_iv hB (zs_c_lt hk)
          have h8 := zs_oi hc.2.2.1 hc.2.2.2
          simp only [zx_p, zs_st, List.map_cons, zs_vi, zs_vl, zs_vr, zs_vn, zs_vd, zs_i_n hc.2.1, zs_i_c hk, h8] at hp ⊢
          rw [if_pos (by omega)] at hp
          rw [if_pos (by omega)]
          exact hp
        · cases h
      · cases h
    · cases h
  · -- lcmp
    simp only [Option.bind_some] at h
    have hlg : ∀ (X Y X' Y' : Int64), (Y.toInt < X.toInt ↔ Y'.toInt < X'.toInt) → (X.toInt = Y.toInt ↔ X'.toInt = Y'.toInt) → lg_cmp X Y = lg_cmp X' Y' := by
      intro X Y X' Y' h1 h2
      unfold lg_cmp
      have e1 : (X > Y) ↔ (X' > Y') := by
        show (Y < X) ↔ (Y' < X')
        rw [Int64.lt_iff_toInt_lt, Int64.lt_iff_toInt_lt]; exact h1
      have e2 : (X = Y) ↔ (X' = Y') := by rw [← Int64.toInt_inj, ← Int64.toInt_inj]; exact h2
      by_cases g1 : X > Y
      · rw [if_pos g1, if_pos (e1.mp g1)]
      · rw [if_neg g1, if_neg (fun z => g1 (e1.mpr z))]
        by_cases g2 : X = Y
        · rw [if_pos g2, if_pos (e2.mp g2)]
        · rw [if_neg g2, if_neg (fun z => g2 (e2.mpr z))]
    split at h
    · next y x r =>
      split at h
      · next k hk hy =>
        try dsimp only at h
        split at h
        · next hc =>
          cases h
          have h1 := zs_iv hB hc.1
          have h2 : (Int64.ofInt (zy_iv k bx).1).toInt = (zy_iv k bx).1 := Int64.toInt_ofInt_of_le (by omega) (by omega)
          have h3 : (zy_dL len s k).toInt = (zy_d len s k).toInt := by
            unfold zy_dL
            rw [if_pos hc.1, Int32.toInt_toInt64]
          rcases n with _ | _ | n
          · cases hp
          · simp only [zx_p, zs_st, List.map_cons, zs_vi, zs_vl, zs_vr, zs_vn, zs_vd, zs_l_n hc.2.2.2.2, zs_l_n hy, zs_l_c hk] at hp ⊢
            rw [← hp, hlg (zy_dL len s k) y (Int64.ofInt (zy_iv k bx).1) y (by omega) (by omega)]
          · cases hp
        · cases h
      · next k hx hk =>
        try dsimp only at h
        split at h
        · next hc =>
          cases h
          have h1 := zs_iv hB hc.1
          have h2 : (Int64.ofInt (zy_iv k bx).1).toInt = (zy_iv k bx).1 := Int64.toInt_ofInt_of_le (by omega) (by omega)
          have h3 : (zy_dL len s k).toInt = (zy_d len s k).toInt := by
            unfold zy_dL
            rw [if_pos hc.1, Int32.toInt_toInt64]
          rcases n with _ | _ | n
          · cases hp
          · simp only [zx_p, zs_st, List.map_cons, zs_vi, zs_vl, zs_vr, zs_vn, zs_vd, zs_l_n hc.2.2.2.2, zs_l_n hx, zs_l_c hk] at hp ⊢
            rw [← hp, hlg x (zy_dL len s k) x (Int64.ofInt (zy_iv k bx).1) (by omega) (by omega)]
          · cases hp
        · cases h
      · cases h
    · cases h
  · cases h
end ZYSQ

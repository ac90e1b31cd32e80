/-! ===== the tables are right: each entry's word stands among the claim's words (written by wip/zx/gen_tables.py) ===== -/
def zt_good : List Cond := lw_tbl.filter goodWord
theorem zt_in {j k : Nat} {w : Cond} (h : (zt_ch j)[k]? = some w) (hg : goodWord w = true) : w ∈ zt_good := List.mem_filter.mpr ⟨zt_ch_in (List.mem_of_getElem? h), hg⟩
/-- words that a warm machine keeps, though they are no good words -/
def zx_nwk : Cond → Bool
  | .fieldLinkNest .. | .methodLinkNest .. | .declares _ | .castable .. | .privateMethod _ => true
  | _ => false
def zt_nw : List Cond := lw_tbl.filter zx_nwk
theorem zt_inN {j k : Nat} {w : Cond} (h : (zt_ch j)[k]? = some w) (hg : zx_nwk w = true) : w ∈ zt_nw := List.mem_filter.mpr ⟨zt_ch_in (List.mem_of_getElem? h), hg⟩
/-- a class: its fields' words, types and names; that it can be made -/
def zt_cOK (ci : Nat) (r : vw_C) : Prop := (∀ k, k < r.2.2 → u_lay r.1 r.2.1 k ∈ zt_good) ∧ (∀ k, k < r.2.2 → parseFieldDescriptor (r.2.1 k).2.2.1 = some (((zt_fty.getD ci []).getD k .int))) ∧
  (∀ a, a < r.2.2 → ∀ b, b < r.2.2 → a ≠ b → (r.2.1 a).2.1 ≠ (r.2.1 b).2.1) ∧ (ci < zt_x0 → Cond.instantiable r.1 r.2.2 ∈ zt_good) ∧ Cond.initialized r.1 ∈ zt_good ∧ (∀ k, k < r.2.2 → (zt_own.getD ci []).getD k false = true → (r.2.1 k).1 = r.1)
set_option maxRecDepth 100000 in
theorem zt_c0 : zt_cOK 0 ("java/lang/String", zt_T_TJ0, 4) := ⟨fun k hk => match k, hk with
    | 0, _ => (zt_in (j := 5) (k := 234) rfl rfl)
    | 1, _ => (zt_in (j := 5) (k := 236) rfl rfl)
    | 2, _ => (zt_in (j := 5) (k := 238) rfl rfl)
    | 3, _ => (zt_in (j := 6) (k := 0) rfl rfl)
    | k + 4, hk => absurd hk (Nat.not_lt.mpr (Nat.le_add_left 4 k)),
  fun k hk => match k, hk with
    | 0, _ => by decide +kernel
    | 1, _ => by decide +kernel
    | 2, _ => by decide +kernel
    | 3, _ => by decide +kernel
    | k + 4, hk => absurd hk (Nat.not_lt.mpr (Nat.le_add_left 4 k)),
  by decide +kernel,
  fun _ => (zt_in (j := 5) (k := 108) rfl rfl), (zt_in (j := 1) (k := 24) rfl rfl),
  fun k hk => match k, hk with
    | 0, _ => fun _ => rfl
    | 1, _ => fun _ => rfl
    | 2, _ => fun _ => rfl
    | 3, _ => fun _ => rfl
    | k + 4, hk => absurd hk (Nat.not_lt.mpr (Nat.le_add_left 4 k))⟩
set_option maxRecDepth 100000 in
theorem zt_c1 : zt_cOK 1 ("java/lang/StringBuilder", zt_T_TJ4, 4) := ⟨fun k hk => match k, hk with
    | 0, _ => (zt_in (j := 5) (k := 3) rfl rfl)
    | 1, _ => (zt_in (j := 5) (k := 5) rfl rfl)
    | 2, _ => (zt_in (j := 5) (k := 7) rfl rfl)
    | 3, _ => (zt_in (j := 5) (k := 9) rfl rfl)
    | k + 4, hk => absurd hk (Nat.not_lt.mpr (Nat.le_add_left 4 k)),
  fun k hk => match k, hk with
    | 0, _ => by decide +kernel
    | 1, _ => by decide +kernel
    | 2, _ => by decide +kernel
    | 3, _ => by decide +kernel
    | k + 4, hk => absurd hk (Nat.not_lt.mpr (Nat.le_add_left 4 k)),
  by decide +kernel,
  fun _ => (zt_in (j := 4) (k := 222) rfl rfl), (zt_in (j := 1) (k := 23) rfl rfl),
  fun k hk => match k, hk with
    | 0, _ => fun h => absurd h (by decide)
    | 1, _ => fun h => absurd h (by decide)
    | 2, _ => fun h => absurd h (by decide)
    | 3, _ => fun h => absurd h (by decide)
    | k + 4, hk => absurd hk (Nat.not_lt.mpr (Nat.le_add_left 4 k))⟩
set_option maxRecDepth 100000 in
theorem zt_c2 : zt_cOK 2 ("ColumnVault$Checks", zt_T_TX0, 3) := ⟨fun k hk => match k, hk with
    | 0, _ => (zt_in (j := 1) (k := 188) rfl rfl)
    | 1, _ => (zt_in (j := 1) (k := 190) rfl rfl)
    | 2, _ => (zt_in (j := 1) (k := 192) rfl rfl)
    | k + 3, hk => absurd hk (Nat.not_lt.mpr (Nat.le_add_left 3 k)),
  fun k hk => match k, hk with
    | 0, _ => by decide +kernel
    | 1, _ => by decide +kernel
    | 2, _ => by decide +kernel
    | k + 3, hk => absurd hk (Nat.not_lt.mpr (Nat.le_add_left 3 k)),
  by decide +kernel,
  fun _ => (zt_in (j := 1) (k := 176) rfl rfl), (zt_in (j := 1) (k := 8) rfl rfl),
  fun k hk => match k, hk with
    | 0, _ => fun _ => rfl
    | 1, _ => fun _ => rfl
    | 2, _ => fun _ => rfl
    | k + 3, hk => absurd hk (Nat.not_lt.mpr (Nat.le_add_left 3 k))⟩
set_option maxRecDepth 100000 in
theorem zt_c3 : zt_cOK 3 ("ColumnVault$FilterReader", zt_T_TX1, 7) := ⟨fun k hk => match k, hk with
    | 0, _ => (zt_in (j := 3) (k := 52) rfl rfl)
    | 1, _ => (zt_in (j := 3) (k := 54) rfl rfl)
    | 2, _ => (zt_in (j := 3) (k := 56) rfl rfl)
    | 3, _ => (zt_in (j := 3) (k := 58) rfl rfl)
    | 4, _ => (zt_in (j := 3) (k := 60) rfl rfl)
    | 5, _ => (zt_in (j := 3) (k := 62) rfl rfl)
    | 6, _ => (zt_in (j := 3) (k := 64) rfl rfl)
    | k + 7, hk => absurd hk (Nat.not_lt.mpr (Nat.le_add_left 7 k)),
  fun k hk => match k, hk with
    | 0, _ => by decide +kernel
    | 1, _ => by decide +kernel
    | 2, _ => by decide +kernel
    | 3, _ => by decide +kernel
    | 4, _ => by decide +kernel
    | 5, _ => by decide +kernel
    | 6, _ => by decide +kernel
    | k + 7, hk => absurd hk (Nat.not_lt.mpr (Nat.le_add_left 7 k)),
  by decide +kernel,
  fun _ => (zt_in (j := 3) (k := 38) rfl rfl), (zt_in (j := 1) (k := 16) rfl rfl),
  fun k hk => match k, hk with
    | 0, _ => fun _ => rfl
    | 1, _ => fun _ => rfl
    | 2, _ => fun _ => rfl
    | 3, _ => fun _ => rfl
    | 4, _ => fun _ => rfl
    | 5, _ => fun _ => rfl
    | 6, _ => fun _ => rfl
    | k + 7, hk => absurd hk (Nat.not_lt.mpr (Nat.le_add_left 7 k))⟩
set_option maxRecDepth 100000 in
theorem zt_c4 : zt_cOK 4 ("ColumnVault$FilterText", zt_T_TX2, 2) := ⟨fun k hk => match k, hk with
    | 0, _ => (zt_in (j := 1) (k := 106) rfl rfl)
    | 1, _ => (zt_in (j := 1) (k := 108) rfl rfl)
    | k + 2, hk => absurd hk (Nat.not_lt.mpr (Nat.le_add_left 2 k)),
  fun k hk => match k, hk with
    | 0, _ => by decide +kernel
    | 1, _ => by decide +kernel
    | k + 2, hk => absurd hk (Nat.not_lt.mpr (Nat.le_add_left 2 k)),
  by decide +kernel,
  fun _ => (zt_in (j := 1) (k := 97) rfl rfl), (zt_in (j := 1) (k := 4) rfl rfl),
  fun k hk => match k, hk with
    | 0, _ => fun _ => rfl
    | 1, _ => fun _ => rfl
    | k + 2, hk => absurd hk (Nat.not_lt.mpr (Nat.le_add_left 2 k))⟩
set_option maxRecDepth 100000 in
theorem zt_c5 : zt_cOK 5 ("ColumnVault$Groups", zt_T_TX3, 5) := ⟨fun k hk => match k, hk with
    | 0, _ => (zt_in (j := 1) (k := 164) rfl rfl)
    | 1, _ => (zt_in (j := 1) (k := 166) rfl rfl)
    | 2, _ => (zt_in (j := 1) (k := 168) rfl rfl)
    | 3, _ => (zt_in (j := 1) (k := 170) rfl rfl)
    | 4, _ => (zt_in (j := 1) (k := 172) rfl rfl)
    | k + 5, hk => absurd hk (Nat.not_lt.mpr (Nat.le_add_left 5 k)),
  fun k hk => match k, hk with
    | 0, _ => by decide +kernel
    | 1, _ => by decide +kernel
    | 2, _ => by decide +kernel
    | 3, _ => by decide +kernel
    | 4, _ => by decide +kernel
    | k + 5, hk => absurd hk (Nat.not_lt.mpr (Nat.le_add_left 5 k)),
  by decide +kernel,
  fun _ => (zt_in (j := 1) (k := 148) rfl rfl), (zt_in (j := 1) (k := 7) rfl rfl),
  fun k hk => match k, hk with
    | 0, _ => fun _ => rfl
    | 1, _ => fun _ => rfl
    | 2, _ => fun _ => rfl
    | 3, _ => fun _ => rfl
    | 4, _ => fun _ => rfl
    | k + 5, hk => absurd hk (Nat.not_lt.mpr (Nat.le_add_left 5 k))⟩
set_option maxRecDepth 100000 in
theorem zt_c6 : zt_cOK 6 ("ColumnVault$History", zt_T_TX4, 2) := ⟨fun k hk => match k, hk with
    | 0, _ => (zt_in (j := 1) (k := 91) rfl rfl)
    | 1, _ => (zt_in (j := 1) (k := 93) rfl rfl)
    | k + 2, hk => absurd hk (Nat.not_lt.mpr (Nat.le_add_left 2 k)),
  fun k hk => match k, hk with
    | 0, _ => by decide +kernel
    | 1, _ => by decide +kernel
    | k + 2, hk => absurd hk (Nat.not_lt.mpr (Nat.le_add_left 2 k)),
  by decide +kernel,
  fun _ => (zt_in (j := 1) (k := 43) rfl rfl), (zt_in (j := 1) (k := 2) rfl rfl),
  fun k hk => match k, hk with
    | 0, _ => fun _ => rfl
    | 1, _ => fun _ => rfl
    | k + 2, hk => absurd hk (Nat.not_lt.mpr (Nat.le_add_left 2 k))⟩
set_option maxRecDepth 100000 in
theorem zt_c7 : zt_cOK 7 ("ColumnVault$JoinWays", zt_T_TX5, 4) := ⟨fun k hk => match k, hk with
    | 0, _ => (zt_in (j := 8) (k := 95) rfl rfl)
    | 1, _ => (zt_in (j := 8) (k := 97) rfl rfl)
    | 2, _ => (zt_in (j := 8) (k := 99) rfl rfl)
    | 3, _ => (zt_in (j := 8) (k := 101) rfl rfl)
    | k + 4, hk => absurd hk (Nat.not_lt.mpr (Nat.le_add_left 4 k)),
  fun k hk => match k, hk with
    | 0, _ => by decide +kernel
    | 1, _ => by decide +kernel
    | 2, _ => by decide +kernel
    | 3, _ => by decide +kernel
    | k + 4, hk => absurd hk (Nat.not_lt.mpr (Nat.le_add_left 4 k)),
  by decide +kernel,
  fun _ => (zt_in (j := 8) (k := 86) rfl rfl), (zt_in (j := 1) (k := 33) rfl rfl),
  fun k hk => match k, hk with
    | 0, _ => fun _ => rfl
    | 1, _ => fun _ => rfl
    | 2, _ => fun _ => rfl
    | 3, _ => fun _ => rfl
    | k + 4, hk => absurd hk (Nat.not_lt.mpr (Nat.le_add_left 4 k))⟩
set_option maxRecDepth 100000 in
theorem zt_c8 : zt_cOK 8 ("ColumnVault$Node", zt_T_TX6, 7) := ⟨fun k hk => match k, hk with
    | 0, _ => (zt_in (j := 3) (k := 134) rfl rfl)
    | 1, _ => (zt_in (j := 3) (k := 136) rfl rfl)
    | 2, _ => (zt_in (j := 3) (k := 138) rfl rfl)
    | 3, _ => (zt_in (j := 3) (k := 140) rfl rfl)
    | 4, _ => (zt_in (j := 3) (k := 142) rfl rfl)
    | 5, _ => (zt_in (j := 3) (k := 144) rfl rfl)
    | 6, _ => (zt_in (j := 3) (k := 146) rfl rfl)
    | k + 7, hk => absurd hk (Nat.not_lt.mpr (Nat.le_add_left 7 k)),
  fun k hk => match k, hk with
    | 0, _ => by decide +kernel
    | 1, _ => by decide +kernel
    | 2, _ => by decide +kernel
    | 3, _ => by decide +kernel
    | 4, _ => by decide +kernel
    | 5, _ => by decide +kernel
    | 6, _ => by decide +kernel
    | k + 7, hk => absurd hk (Nat.not_lt.mpr (Nat.le_add_left 7 k)),
  by decide +kernel,
  fun _ => (zt_in (j := 3) (k := 116) rfl rfl), (zt_in (j := 1) (k := 18) rfl rfl),
  fun k hk => match k, hk with
    | 0, _ => fun _ => rfl
    | 1, _ => fun _ => rfl
    | 2, _ => fun _ => rfl
    | 3, _ => fun _ => rfl
    | 4, _ => fun _ => rfl
    | 5, _ => fun _ => rfl
    | 6, _ => fun _ => rfl
    | k + 7, hk => absurd hk (Nat.not_lt.mpr (Nat.le_add_left 7 k))⟩
set_option maxRecDepth 100000 in
theorem zt_c9 : zt_cOK 9 ("ColumnVault$Pairs", zt_T_TX7, 3) := ⟨fun k hk => match k, hk with
    | 0, _ => (zt_in (j := 1) (k := 140) rfl rfl)
    | 1, _ => (zt_in (j := 1) (k := 142) rfl rfl)
    | 2, _ => (zt_in (j := 1) (k := 144) rfl rfl)
    | k + 3, hk => absurd hk (Nat.not_lt.mpr (Nat.le_add_left 3 k)),
  fun k hk => match k, hk with
    | 0, _ => by decide +kernel
    | 1, _ => by decide +kernel
    | 2, _ => by decide +kernel
    | k + 3, hk => absurd hk (Nat.not_lt.mpr (Nat.le_add_left 3 k)),
  by decide +kernel,
  fun _ => (zt_in (j := 1) (k := 131) rfl rfl), (zt_in (j := 1) (k := 6) rfl rfl),
  fun k hk => match k, hk with
    | 0, _ => fun _ => rfl
    | 1, _ => fun _ => rfl
    | 2, _ => fun _ => rfl
    | k + 3, hk => absurd hk (Nat.not_lt.mpr (Nat.le_add_left 3 k))⟩
set_option maxRecDepth 100000 in
theorem zt_c10 : zt_cOK 10 ("ColumnVault$Sheet", zt_T_TX8, 6) := ⟨fun k hk => match k, hk with
    | 0, _ => (zt_in (j := 1) (k := 73) rfl rfl)
    | 1, _ => (zt_in (j := 1) (k := 75) rfl rfl)
    | 2, _ => (zt_in (j := 1) (k := 77) rfl rfl)
    | 3, _ => (zt_in (j := 1) (k := 79) rfl rfl)
    | 4, _ => (zt_in (j := 1) (k := 81) rfl rfl)
    | 5, _ => (zt_in (j := 1) (k := 83) rfl rfl)
    | k + 6, hk => absurd hk (Nat.not_lt.mpr (Nat.le_add_left 6 k)),
  fun k hk => match k, hk with
    | 0, _ => by decide +kernel
    | 1, _ => by decide +kernel
    | 2, _ => by decide +kernel
    | 3, _ => by decide +kernel
    | 4, _ => by decide +kernel
    | 5, _ => by decide +kernel
    | k + 6, hk => absurd hk (Nat.not_lt.mpr (Nat.le_add_left 6 k)),
  by decide +kernel,
  fun _ => (zt_in (j := 1) (k := 50) rfl rfl), (zt_in (j := 1) (k := 3) rfl rfl),
  fun k hk => match k, hk with
    | 0, _ => fun _ => rfl
    | 1, _ => fun _ => rfl
    | 2, _ => fun _ => rfl
    | 3, _ => fun _ => rfl
    | 4, _ => fun _ => rfl
    | 5, _ => fun _ => rfl
    | k + 6, hk => absurd hk (Nat.not_lt.mpr (Nat.le_add_left 6 k))⟩
set_option maxRecDepth 100000 in
theorem zt_c11 : zt_cOK 11 ("ColumnVault$Tokens", zt_T_TX9, 4) := ⟨fun k hk => match k, hk with
    | 0, _ => (zt_in (j := 1) (k := 121) rfl rfl)
    | 1, _ => (zt_in (j := 1) (k := 123) rfl rfl)
    | 2, _ => (zt_in (j := 1) (k := 125) rfl rfl)
    | 3, _ => (zt_in (j := 1) (k := 127) rfl rfl)
    | k + 4, hk => absurd hk (Nat.not_lt.mpr (Nat.le_add_left 4 k)),
  fun k hk => match k, hk with
    | 0, _ => by decide +kernel
    | 1, _ => by decide +kernel
    | 2, _ => by decide +kernel
    | 3, _ => by decide +kernel
    | k + 4, hk => absurd hk (Nat.not_lt.mpr (Nat.le_add_left 4 k)),
  by decide +kernel,
  fun _ => (zt_in (j := 1) (k := 112) rfl rfl), (zt_in (j := 1) (k := 5) rfl rfl),
  fun k hk => match k, hk with
    | 0, _ => fun _ => rfl
    | 1, _ => fun _ => rfl
    | 2, _ => fun _ => rfl
    | 3, _ => fun _ => rfl
    | k + 4, hk => absurd hk (Nat.not_lt.mpr (Nat.le_add_left 4 k))⟩
set_option maxRecDepth 100000 in
theorem zt_c12 : zt_cOK 12 ("ColumnVault", zt_T_TX10, 6) := ⟨fun k hk => match k, hk with
    | 0, _ => (zt_in (j := 1) (k := 201) rfl rfl)
    | 1, _ => (zt_in (j := 1) (k := 203) rfl rfl)
    | 2, _ => (zt_in (j := 1) (k := 205) rfl rfl)
    | 3, _ => (zt_in (j := 1) (k := 207) rfl rfl)
    | 4, _ => (zt_in (j := 1) (k := 209) rfl rfl)
    | 5, _ => (zt_in (j := 1) (k := 211) rfl rfl)
    | k + 6, hk => absurd hk (Nat.not_lt.mpr (Nat.le_add_left 6 k)),
  fun k hk => match k, hk with
    | 0, _ => by decide +kernel
    | 1, _ => by decide +kernel
    | 2, _ => by decide +kernel
    | 3, _ => by decide +kernel
    | 4, _ => by decide +kernel
    | 5, _ => by decide +kernel
    | k + 6, hk => absurd hk (Nat.not_lt.mpr (Nat.le_add_left 6 k)),
  by decide +kernel,
  fun _ => (zt_in (j := 1) (k := 35) rfl rfl), (zt_in (j := 1) (k := 1) rfl rfl),
  fun k hk => match k, hk with
    | 0, _ => fun _ => rfl
    | 1, _ => fun _ => rfl
    | 2, _ => fun _ => rfl
    | 3, _ => fun _ => rfl
    | 4, _ => fun _ => rfl
    | 5, _ => fun _ => rfl
    | k + 6, hk => absurd hk (Nat.not_lt.mpr (Nat.le_add_left 6 k))⟩
set_option maxRecDepth 100000 in
theorem zt_c13 : zt_cOK 13 ("java/lang/IndexOutOfBoundsException", fun _ => ("", "", "", false), 0) := ⟨fun k hk => absurd hk (Nat.not_lt_zero k), fun k hk => absurd hk (Nat.not_lt_zero k), fun k hk => absurd hk (Nat.not_lt_zero k), fun h => absurd h (by decide), (zt_in (j := 1) (k := 12) rfl rfl), fun k hk => absurd hk (Nat.not_lt_zero k)⟩
set_option maxRecDepth 100000 in
theorem zt_c14 : zt_cOK 14 ("java/lang/IllegalArgumentException", fun _ => ("", "", "", false), 0) := ⟨fun k hk => absurd hk (Nat.not_lt_zero k), fun k hk => absurd hk (Nat.not_lt_zero k), fun k hk => absurd hk (Nat.not_lt_zero k), fun h => absurd h (by decide), (zt_in (j := 1) (k := 13) rfl rfl), fun k hk => absurd hk (Nat.not_lt_zero k)⟩
set_option maxRecDepth 100000 in
theorem zt_c15 : zt_cOK 15 ("java/lang/IllegalStateException", fun _ => ("", "", "", false), 0) := ⟨fun k hk => absurd hk (Nat.not_lt_zero k), fun k hk => absurd hk (Nat.not_lt_zero k), fun k hk => absurd hk (Nat.not_lt_zero k), fun h => absurd h (by decide), (zt_in (j := 1) (k := 14) rfl rfl), fun k hk => absurd hk (Nat.not_lt_zero k)⟩
set_option maxRecDepth 100000 in
theorem zt_c16 : zt_cOK 16 ("java/util/NoSuchElementException", fun _ => ("", "", "", false), 0) := ⟨fun k hk => absurd hk (Nat.not_lt_zero k), fun k hk => absurd hk (Nat.not_lt_zero k), fun k hk => absurd hk (Nat.not_lt_zero k), fun h => absurd h (by decide), (zt_in (j := 1) (k := 21) rfl rfl), fun k hk => absurd hk (Nat.not_lt_zero k)⟩
theorem zt_cl_ok {ci : Nat} {r : vw_C} (h : zt_cl[ci]? = some r) : zt_cOK ci r := by
  match ci, h with
  | 0, h => cases h; exact zt_c0
  | 1, h => cases h; exact zt_c1
  | 2, h => cases h; exact zt_c2
  | 3, h => cases h; exact zt_c3
  | 4, h => cases h; exact zt_c4
  | 5, h => cases h; exact zt_c5
  | 6, h => cases h; exact zt_c6
  | 7, h => cases h; exact zt_c7
  | 8, h => cases h; exact zt_c8
  | 9, h => cases h; exact zt_c9
  | 10, h => cases h; exact zt_c10
  | 11, h => cases h; exact zt_c11
  | 12, h => cases h; exact zt_c12
  | 13, h => cases h; exact zt_c13
  | 14, h => cases h; exact zt_c14
  | 15, h => cases h; exact zt_c15
  | 16, h => cases h; exact zt_c16
  | k + 17, h => exact absurd h (by simp [zt_cl])
set_option maxRecDepth 100000 in
theorem zt_obj : Cond.instanceMethod objectInit ∈ zt_good ∧ Cond.code objectInit ⟨#[0xb1]⟩ 1 none ∈ zt_good := ⟨(zt_in (j := 1) (k := 40) rfl rfl), (zt_in (j := 1) (k := 41) rfl rfl)⟩
set_option maxRecDepth 100000 in
theorem zt_on_ok : ∀ c ∈ zt_on, (c ≠ "java/lang/invoke/MethodHandle" ∧ c ≠ "java/lang/invoke/VarHandle") ∧ (plainName c = true ∨ c ∈ ["java/lang/Math", "java/lang/Object"]) := by decide +kernel
theorem zt_xsz {ci : Nat} {r : vw_C} (h : zt_cl[ci]? = some r) (hc : zt_x0 ≤ ci) : r.2.2 = 0 ∧ zt_sz.getD ci 0 = 6 := by
  match ci, h with
  | 0, h => exact absurd hc (by decide)
  | 1, h => exact absurd hc (by decide)
  | 2, h => exact absurd hc (by decide)
  | 3, h => exact absurd hc (by decide)
  | 4, h => exact absurd hc (by decide)
  | 5, h => exact absurd hc (by decide)
  | 6, h => exact absurd hc (by decide)
  | 7, h => exact absurd hc (by decide)
  | 8, h => exact absurd hc (by decide)
  | 9, h => exact absurd hc (by decide)
  | 10, h => exact absurd hc (by decide)
  | 11, h => exact absurd hc (by decide)
  | 12, h => exact absurd hc (by decide)
  | 13, h => cases h; exact ⟨rfl, rfl⟩
  | 14, h => cases h; exact ⟨rfl, rfl⟩
  | 15, h => cases h; exact ⟨rfl, rfl⟩
  | 16, h => cases h; exact ⟨rfl, rfl⟩
  | k + 17, h => exact absurd h (by simp [zt_cl])
theorem zt_cast : ∀ (ci : Nat) (r : vw_C), zt_x0 ≤ ci → zt_cl[ci]? = some r → Cond.castable r.1 r.1 ∈ zt_nw := by
  intro ci r hc h
  match ci, h with
  | 0, h => exact absurd hc (by decide)
  | 1, h => exact absurd hc (by decide)
  | 2, h => exact absurd hc (by decide)
  | 3, h => exact absurd hc (by decide)
  | 4, h => exact absurd hc (by decide)
  | 5, h => exact absurd hc (by decide)
  | 6, h => exact absurd hc (by decide)
  | 7, h => exact absurd hc (by decide)
  | 8, h => exact absurd hc (by decide)
  | 9, h => exact absurd hc (by decide)
  | 10, h => exact absurd hc (by decide)
  | 11, h => exact absurd hc (by decide)
  | 12, h => exact absurd hc (by decide)
  | 13, h => cases h; exact (zt_inN (j := 1) (k := 228) rfl rfl)
  | 14, h => cases h; exact (zt_inN (j := 2) (k := 81) rfl rfl)
  | 15, h => cases h; exact (zt_inN (j := 2) (k := 127) rfl rfl)
  | 16, h => cases h; exact (zt_inN (j := 4) (k := 103) rfl rfl)
  | k + 17, h => exact absurd h (by simp [zt_cl])
theorem zt_cobj : ∀ (ci : Nat) (r : vw_C), ci < zt_x0 → zt_cl[ci]? = some r → Cond.castable r.1 "java/lang/Object" ∈ zt_nw := by
  intro ci r hc h
  match ci, h with
  | 0, h => cases h; exact (zt_inN (j := 8) (k := 210) rfl rfl)
  | 1, h => cases h; exact (zt_inN (j := 8) (k := 209) rfl rfl)
  | 2, h => cases h; exact (zt_inN (j := 8) (k := 202) rfl rfl)
  | 3, h => cases h; exact (zt_inN (j := 8) (k := 206) rfl rfl)
  | 4, h => cases h; exact (zt_inN (j := 8) (k := 198) rfl rfl)
  | 5, h => cases h; exact (zt_inN (j := 8) (k := 201) rfl rfl)
  | 6, h => cases h; exact (zt_inN (j := 8) (k := 196) rfl rfl)
  | 7, h => cases h; exact (zt_inN (j := 8) (k := 212) rfl rfl)
  | 8, h => cases h; exact (zt_inN (j := 8) (k := 207) rfl rfl)
  | 9, h => cases h; exact (zt_inN (j := 8) (k := 200) rfl rfl)
  | 10, h => cases h; exact (zt_inN (j := 8) (k := 197) rfl rfl)
  | 11, h => cases h; exact (zt_inN (j := 8) (k := 199) rfl rfl)
  | 12, h => cases h; exact (zt_inN (j := 8) (k := 195) rfl rfl)
  | 13, h => exact absurd hc (by decide)
  | 14, h => exact absurd hc (by decide)
  | 15, h => exact absurd hc (by decide)
  | 16, h => exact absurd hc (by decide)
  | k + 17, h => exact absurd h (by simp [zt_cl])
theorem zt_aobj : ∀ (t : Nat) (ty : FieldType), zt_aok[t]? = some true → zt_at[t]? = some ty → ∃ nm, nm = "[" ++ ty.toString ∧ Cond.castable nm "java/lang/Object" ∈ zt_nw := by
  intro t ty hk h
  match t, hk, h with
  | 0, hk, h => cases hk
  | 1, hk, h => cases hk
  | 2, hk, h => cases hk
  | 3, hk, h => cases hk
  | 4, hk, h => cases hk
  | 5, hk, h => cases hk
  | 6, hk, h => cases hk
  | k + 7, hk, h => exact absurd h (by simp [zt_at])
theorem zt_xobj : ∀ (C : String), C ∈ (["java/lang/String"] : List String) → Cond.castable C "java/lang/Object" ∈ zt_nw := by
  intro C h
  simp only [List.mem_cons, List.not_mem_nil, or_false] at h
  subst h; exact (zt_inN (j := 8) (k := 210) rfl rfl)
theorem zt_ext_obj : ∀ (j : Nat) (C : String) (o : Nat × List Value), zt_ext j = some (.object C, .inr o) → C ∈ (["java/lang/String"] : List String) := by
  intro j C o h
  unfold zt_ext at h
  by_cases hh : j = 600
  · rw [if_pos hh] at h; cases h; simp
  rw [if_neg hh] at h
  clear hh
  by_cases hh : j = 601
  · rw [if_pos hh] at h; cases h
  rw [if_neg hh] at h
  clear hh
  by_cases hh : j = 602
  · rw [if_pos hh] at h; cases h; simp
  rw [if_neg hh] at h
  clear hh
  by_cases hh : j = 603
  · rw [if_pos hh] at h; cases h
  rw [if_neg hh] at h
  clear hh
  by_cases hh : j = 604
  · rw [if_pos hh] at h; cases h; simp
  rw [if_neg hh] at h
  clear hh
  by_cases hh : j = 605
  · rw [if_pos hh] at h; cases h
  rw [if_neg hh] at h
  clear hh
  by_cases hh : j = 606
  · rw [if_pos hh] at h; cases h; simp
  rw [if_neg hh] at h
  clear hh
  by_cases hh : j = 607
  · rw [if_pos hh] at h; cases h
  rw [if_neg hh] at h
  clear hh
  by_cases hh : j = 608
  · rw [if_pos hh] at h; cases h; simp
  rw [if_neg hh] at h
  clear hh
  by_cases hh : j = 609
  · rw [if_pos hh] at h; cases h
  rw [if_neg hh] at h
  clear hh
  by_cases hh : j = 610
  · rw [if_pos hh] at h; cases h; simp
  rw [if_neg hh] at h
  clear hh
  by_cases hh : j = 611
  · rw [if_pos hh] at h; cases h
  rw [if_neg hh] at h
  clear hh
  by_cases hh : j = 612
  · rw [if_pos hh] at h; cases h; simp
  rw [if_neg hh] at h
  clear hh
  by_cases hh : j = 613
  · rw [if_pos hh] at h; cases h
  rw [if_neg hh] at h
  clear hh
  by_cases hh : j = 614
  · rw [if_pos hh] at h; cases h; simp
  rw [if_neg hh] at h
  clear hh
  by_cases hh : j = 615
  · rw [if_pos hh] at h; cases h
  rw [if_neg hh] at h
  clear hh
  by_cases hh : j = 616
  · rw [if_pos hh] at h; cases h; simp
  rw [if_neg hh] at h
  clear hh
  by_cases hh : j = 617
  · rw [if_pos hh] at h; cases h
  rw [if_neg hh] at h
  clear hh
  by_cases hh : j = 618
  · rw [if_pos hh] at h; cases h; simp
  rw [if_neg hh] at h
  clear hh
  by_cases hh : j = 619
  · rw [if_pos hh] at h; cases h
  rw [if_neg hh] at h
  clear hh
  by_cases hh : j = 620
  · rw [if_pos hh] at h; cases h; simp
  rw [if_neg hh] at h
  clear hh
  by_cases hh : j = 621
  · rw [if_pos hh] at h; cases h
  rw [if_neg hh] at h
  clear hh
  by_cases hh : j = 622
  · rw [if_pos hh] at h; cases h; simp
  rw [if_neg hh] at h
  clear hh
  by_cases hh : j = 623
  · rw [if_pos hh] at h; cases h
  rw [if_neg hh] at h
  clear hh
  by_cases hh : j = 624
  · rw [if_pos hh] at h; cases h; simp
  rw [if_neg hh] at h
  clear hh
  by_cases hh : j = 625
  · rw [if_pos hh] at h; cases h
  rw [if_neg hh] at h
  clear hh
  by_cases hh : j = 626
  · rw [if_pos hh] at h; cases h; simp
  rw [if_neg hh] at h
  clear hh
  by_cases hh : j = 627
  · rw [if_pos hh] at h; cases h
  rw [if_neg hh] at h
  clear hh
  by_cases hh : j = 628
  · rw [if_pos hh] at h; cases h; simp
  rw [if_neg hh] at h
  clear hh
  by_cases hh : j = 629
  · rw [if_pos hh] at h; cases h
  rw [if_neg hh] at h
  clear hh
  by_cases hh : j = 630
  · rw [if_pos hh] at h; cases h; simp
  rw [if_neg hh] at h
  clear hh
  by_cases hh : j = 631
  · rw [if_pos hh] at h; cases h
  rw [if_neg hh] at h
  clear hh
  by_cases hh : j = 632
  · rw [if_pos hh] at h; cases h; simp
  rw [if_neg hh] at h
  clear hh
  by_cases hh : j = 633
  · rw [if_pos hh] at h; cases h
  rw [if_neg hh] at h
  clear hh
  by_cases hh : j = 634
  · rw [if_pos hh] at h; cases h; simp
  rw [if_neg hh] at h
  clear hh
  by_cases hh : j = 635
  · rw [if_pos hh] at h; cases h
  rw [if_neg hh] at h
  clear hh
  by_cases hh : j = 636
  · rw [if_pos hh] at h; cases h; simp
  rw [if_neg hh] at h
  clear hh
  by_cases hh : j = 637
  · rw [if_pos hh] at h; cases h
  rw [if_neg hh] at h
  clear hh
  by_cases hh : j = 638
  · rw [if_pos hh] at h; cases h; simp
  rw [if_neg hh] at h
  clear hh
  by_cases hh : j = 639
  · rw [if_pos hh] at h; cases h
  rw [if_neg hh] at h
  clear hh
  by_cases hh : j = 640
  · rw [if_pos hh] at h; cases h; simp
  rw [if_neg hh] at h
  clear hh
  by_cases hh : j = 641
  · rw [if_pos hh] at h; cases h
  rw [if_neg hh] at h
  clear hh
  by_cases hh : j = 642
  · rw [if_pos hh] at h; cases h; simp
  rw [if_neg hh] at h
  clear hh
  by_cases hh : j = 643
  · rw [if_pos hh] at h; cases h
  rw [if_neg hh] at h
  clear hh
  by_cases hh : j = 644
  · rw [if_pos hh] at h; cases h; simp
  rw [if_neg hh] at h
  clear hh
  by_cases hh : j = 645
  · rw [if_pos hh] at h; cases h
  rw [if_neg hh] at h
  clear hh
  by_cases hh : j = 646
  · rw [if_pos hh] at h; cases h; simp
  rw [if_neg hh] at h
  clear hh
  by_cases hh : j = 647
  · rw [if_pos hh] at h; cases h
  rw [if_neg hh] at h
  clear hh
  by_cases hh : j = 648
  · rw [if_pos hh] at h; cases h; simp
  rw [if_neg hh] at h
  clear hh
  by_cases hh : j = 649
  · rw [if_pos hh] at h; cases h
  rw [if_neg hh] at h
  clear hh
  by_cases hh : j = 650
  · rw [if_pos hh] at h; cases h; simp
  rw [if_neg hh] at h
  clear hh
  by_cases hh : j = 651
  · rw [if_pos hh] at h; cases h
  rw [if_neg hh] at h
  clear hh
  by_cases hh : j = 652
  · rw [if_pos hh] at h; cases h; simp
  rw [if_neg hh] at h
  clear hh
  by_cases hh : j = 653
  · rw [if_pos hh] at h; cases h
  rw [if_neg hh] at h
  clear hh
  by_cases hh : j = 654
  · rw [if_pos hh] at h; cases h; simp
  rw [if_neg hh] at h
  clear hh
  by_cases hh : j = 655
  · rw [if_pos hh] at h; cases h
  rw [if_neg hh] at h
  clear hh
  by_cases hh : j = 656
  · rw [if_pos hh] at h; cases h; simp
  rw [if_neg hh] at h
  clear hh
  by_cases hh : j = 657
  · rw [if_pos hh] at h; cases h
  rw [if_neg hh] at h
  clear hh
  by_cases hh : j = 658
  · rw [if_pos hh] at h; cases h; simp
  rw [if_neg hh] at h
  clear hh
  by_cases hh : j = 659
  · rw [if_pos hh] at h; cases h
  rw [if_neg hh] at h
  clear hh
  by_cases hh : j = 660
  · rw [if_pos hh] at h; cases h; simp
  rw [if_neg hh] at h
  clear hh
  by_cases hh : j = 661
  · rw [if_pos hh] at h; cases h
  rw [if_neg hh] at h
  clear hh
  by_cases hh : j = 662
  · rw [if_pos hh] at h; cases h; simp
  rw [if_neg hh] at h
  clear hh
  by_cases hh : j = 663
  · rw [if_pos hh] at h; cases h
  rw [if_neg hh] at h
  clear hh
  by_cases hh : j = 664
  · rw [if_pos hh] at h; cases h; simp
  rw [if_neg hh] at h
  clear hh
  by_cases hh : j = 665
  · rw [if_pos hh] at h; cases h
  rw [if_neg hh] at h
  clear hh
  by_cases hh : j = 666
  · rw [if_pos hh] at h; cases h; simp
  rw [if_neg hh] at h
  clear hh
  by_cases hh : j = 667
  · rw [if_pos hh] at h; cases h
  rw [if_neg hh] at h
  clear hh
  by_cases hh : j = 668
  · rw [if_pos hh] at h; cases h; simp
  rw [if_neg hh] at h
  clear hh
  by_cases hh : j = 669
  · rw [if_pos hh] at h; cases h
  rw [if_neg hh] at h
  clear hh
  by_cases hh : j = 670
  · rw [if_pos hh] at h; cases h; simp
  rw [if_neg hh] at h
  clear hh
  by_cases hh : j = 671
  · rw [if_pos hh] at h; cases h
  rw [if_neg hh] at h
  clear hh
  by_cases hh : j = 672
  · rw [if_pos hh] at h; cases h; simp
  rw [if_neg hh] at h
  clear hh
  by_cases hh : j = 673
  · rw [if_pos hh] at h; cases h
  rw [if_neg hh] at h
  clear hh
  by_cases hh : j = 674
  · rw [if_pos hh] at h; cases h; simp
  rw [if_neg hh] at h
  clear hh
  by_cases hh : j = 675
  · rw [if_pos hh] at h; cases h
  rw [if_neg hh] at h
  clear hh
  by_cases hh : j = 676
  · rw [if_pos hh] at h; cases h; simp
  rw [if_neg hh] at h
  clear hh
  by_cases hh : j = 677
  · rw [if_pos hh] at h; cases h
  rw [if_neg hh] at h
  clear hh
  by_cases hh : j = 678
  · rw [if_pos hh] at h; cases h; simp
  rw [if_neg hh] at h
  clear hh
  by_cases hh : j = 679
  · rw [if_pos hh] at h; cases h
  rw [if_neg hh] at h
  clear hh
  by_cases hh : j = 680
  · rw [if_pos hh] at h; cases h; simp
  rw [if_neg hh] at h
  clear hh
  by_cases hh : j = 681
  · rw [if_pos hh] at h; cases h
  rw [if_neg hh] at h
  clear hh
  by_cases hh : j = 682
  · rw [if_pos hh] at h; cases h; simp
  rw [if_neg hh] at h
  clear hh
  by_cases hh : j = 683
  · rw [if_pos hh] at h; cases h
  rw [if_neg hh] at h
  clear hh
  by_cases hh : j = 800
  · rw [if_pos hh] at h; cases h
  rw [if_neg hh] at h
  clear hh
  by_cases hh : j = 801
  · rw [if_pos hh] at h; cases h
  rw [if_neg hh] at h
  clear hh
  cases h
theorem zt_bool1 (h : (zt_ext 1).isSome = true) : zt_ext 1 = some (.object "java/lang/Boolean", .inr (999, [])) := by
  revert h; decide
theorem zt_bool2 (h : (zt_ext 2).isSome = true) : zt_ext 2 = some (.object "java/lang/Boolean", .inr (999, [])) := by
  revert h; decide
theorem zt_objT_ok (h : zt_objT ≠ 999) : zt_at[zt_objT]? = some (.object "java/lang/Object") := by
  exact absurd rfl h
theorem zt_pln_ok {oc : Nat} {own : String} (ho : zt_on[oc]? = some own) (h : zt_pln[oc]? = some true) : plainName own = true := by
  match oc, ho, h with
  | 0, ho, h => cases ho; decide +kernel
  | 1, ho, h => cases ho; decide +kernel
  | 2, ho, h => cases ho; decide +kernel
  | 3, ho, h => cases ho; decide +kernel
  | 4, ho, h => cases ho; decide +kernel
  | 5, ho, h => cases ho; decide +kernel
  | 6, ho, h => cases ho; decide +kernel
  | 7, ho, h => cases ho; decide +kernel
  | 8, ho, h => cases ho; decide +kernel
  | 9, ho, h => cases ho; decide +kernel
  | 10, ho, h => cases ho; decide +kernel
  | 11, ho, h => cases ho; decide +kernel
  | 12, ho, h => cases ho; decide +kernel
  | 13, ho, h => cases ho; decide +kernel
  | 14, ho, h => cases ho; decide +kernel
  | 15, ho, h => cases ho; decide +kernel
  | 16, ho, h => cases ho; decide +kernel
  | 17, ho, h => cases ho; decide +kernel
  | 18, ho, h => cases ho; decide +kernel
  | 19, ho, h => cases h
  | 20, ho, h => cases ho; decide +kernel
  | 21, ho, h => cases ho; decide +kernel
  | 22, ho, h => cases ho; decide +kernel
  | 23, ho, h => cases ho; decide +kernel
  | 24, ho, h => cases ho; decide +kernel
  | 25, ho, h => cases ho; decide +kernel
  | 26, ho, h => cases ho; decide +kernel
  | 27, ho, h => cases ho; decide +kernel
  | k + 28, ho, h => exact absurd ho (by simp [zt_on])
/-- a method: its code's word, its class's, static or not -/
def zt_mOK (q : zx_M) : Prop := match q with
  | (y, cc, nL, ret, hh, oc, np, _, hs, hsel, _) => (if hh = [] then Cond.code y cc nL ret else Cond.codeWith y cc nL ret hh) ∈ zt_good ∧ zt_on[oc]? = some y.cls ∧ Cond.initialized y.cls ∈ zt_good ∧
    (if hs = 1 then Cond.static y else Cond.instanceMethod y) ∈ zt_good ∧ (hsel = 99999 ∨ Cond.selects y.cls y y ∈ zt_good) ∧ (parseMethodDescriptor y.desc).map (fun d => (d.parameters.length, d.returnType)) = some (np, ret) ∧ nL ≤ 31 ∧ (hs = 2 → y.name = "<init>")
set_option maxRecDepth 100000 in
theorem zt_m_1 : zt_mOK (⟨"ColumnVault", "<init>", "()V"⟩, prog_1_method_1_code, 1, none, [], 12, 0, 0, 2, 99999, 0) := ⟨(zt_in (j := 1) (k := 38) rfl rfl), rfl, (zt_in (j := 1) (k := 1) rfl rfl), (zt_in (j := 1) (k := 37) rfl rfl), Or.inl rfl, by decide +kernel, by decide, fun _ => rfl⟩
set_option maxRecDepth 100000 in
theorem zt_m_2 : zt_mOK (⟨"ColumnVault$History", "<init>", "()V"⟩, prog_6_method_1_code, 2, none, [], 6, 0, 0, 2, 99999, 0) := ⟨(zt_in (j := 1) (k := 46) rfl rfl), rfl, (zt_in (j := 1) (k := 2) rfl rfl), (zt_in (j := 1) (k := 45) rfl rfl), Or.inl rfl, by decide +kernel, by decide, fun _ => rfl⟩
set_option maxRecDepth 100000 in
theorem zt_m_3 : zt_mOK (⟨"ColumnVault$Sheet", "<init>", "()V"⟩, prog_10_method_1_code, 1, none, [], 10, 0, 0, 2, 99999, 0) := ⟨(zt_in (j := 1) (k := 53) rfl rfl), rfl, (zt_in (j := 1) (k := 3) rfl rfl), (zt_in (j := 1) (k := 52) rfl rfl), Or.inl rfl, by decide +kernel, by decide, fun _ => rfl⟩
set_option maxRecDepth 100000 in
theorem zt_m_4 : zt_mOK (⟨"ColumnVault$FilterText", "<init>", "()V"⟩, prog_4_method_1_code, 1, none, [], 4, 0, 0, 2, 99999, 0) := ⟨(zt_in (j := 1) (k := 100) rfl rfl), rfl, (zt_in (j := 1) (k := 4) rfl rfl), (zt_in (j := 1) (k := 99) rfl rfl), Or.inl rfl, by decide +kernel, by decide, fun _ => rfl⟩
set_option maxRecDepth 100000 in
theorem zt_m_5 : zt_mOK (⟨"ColumnVault$Tokens", "<init>", "()V"⟩, prog_11_method_1_code, 1, none, [], 11, 0, 0, 2, 99999, 0) := ⟨(zt_in (j := 1) (k := 115) rfl rfl), rfl, (zt_in (j := 1) (k := 5) rfl rfl), (zt_in (j := 1) (k := 114) rfl rfl), Or.inl rfl, by decide +kernel, by decide, fun _ => rfl⟩
set_option maxRecDepth 100000 in
theorem zt_m_6 : zt_mOK (⟨"ColumnVault$Pairs", "<init>", "()V"⟩, prog_9_method_1_code, 1, none, [], 9, 0, 0, 2, 99999, 0) := ⟨(zt_in (j := 1) (k := 134) rfl rfl), rfl, (zt_in (j := 1) (k := 6) rfl rfl), (zt_in (j := 1) (k := 133) rfl rfl), Or.inl rfl, by decide +kernel, by decide, fun _ => rfl⟩
set_option maxRecDepth 100000 in
theorem zt_m_7 : zt_mOK (⟨"ColumnVault$Groups", "<init>", "()V"⟩, prog_5_method_1_code, 1, none, [], 5, 0, 0, 2, 99999, 0) := ⟨(zt_in (j := 1) (k := 151) rfl rfl), rfl, (zt_in (j := 1) (k := 7) rfl rfl), (zt_in (j := 1) (k := 150) rfl rfl), Or.inl rfl, by decide +kernel, by decide, fun _ => rfl⟩
set_option maxRecDepth 100000 in
theorem zt_m_8 : zt_mOK (⟨"ColumnVault$Checks", "<init>", "()V"⟩, prog_2_method_1_code, 1, none, [], 2, 0, 0, 2, 99999, 0) := ⟨(zt_in (j := 1) (k := 179) rfl rfl), rfl, (zt_in (j := 1) (k := 8) rfl rfl), (zt_in (j := 1) (k := 178) rfl rfl), Or.inl rfl, by decide +kernel, by decide, fun _ => rfl⟩
set_option maxRecDepth 100000 in
theorem zt_m_9 : zt_mOK (⟨"ColumnVault", "size", "(II)I"⟩, prog_1_method_8_code, 4, some (.int), [], 12, 2, 0, 0, 0, 0) := ⟨(zt_in (j := 1) (k := 217) rfl rfl), rfl, (zt_in (j := 1) (k := 1) rfl rfl), (zt_in (j := 1) (k := 215) rfl rfl), Or.inr (zt_in (j := 1) (k := 216) rfl rfl), by decide +kernel, by decide, fun h => absurd h (by decide)⟩
set_option maxRecDepth 100000 in
theorem zt_m_10 : zt_mOK (⟨"ColumnVault", "sheetOf", "(I)LColumnVault$Sheet;"⟩, prog_1_method_41_code, 3, some (.object "ColumnVault$Sheet"), [], 12, 1, 0, 0, 0, 0) := ⟨(zt_in (j := 1) (k := 221) rfl rfl), rfl, (zt_in (j := 1) (k := 1) rfl rfl), (zt_in (j := 1) (k := 220) rfl rfl), Or.inr (zt_in (j := 0) (k := 0) rfl rfl), by decide +kernel, by decide, fun h => absurd h (by decide)⟩
set_option maxRecDepth 100000 in
theorem zt_m_11 : zt_mOK (⟨"ColumnVault$History", "sheetIn", "(II)LColumnVault$Sheet;"⟩, prog_6_method_3_code, 3, some (.object "ColumnVault$Sheet"), [], 6, 2, 0, 0, 0, 0) := ⟨(zt_in (j := 1) (k := 225) rfl rfl), rfl, (zt_in (j := 1) (k := 2) rfl rfl), (zt_in (j := 1) (k := 223) rfl rfl), Or.inr (zt_in (j := 1) (k := 224) rfl rfl), by decide +kernel, by decide, fun h => absurd h (by decide)⟩
set_option maxRecDepth 100000 in
theorem zt_m_12 : zt_mOK (⟨"java/lang/Long", "bitCount", "(J)I"⟩, prog_27_method_50_code, 2, some (.int), [], 18, 1, 0, 1, 99999, 0) := ⟨(zt_in (j := 2) (k := 57) rfl rfl), rfl, (zt_in (j := 1) (k := 20) rfl rfl), (zt_in (j := 2) (k := 56) rfl rfl), Or.inl rfl, by decide +kernel, by decide, fun h => absurd h (by decide)⟩
set_option maxRecDepth 100000 in
theorem zt_m_13 : zt_mOK (⟨"ColumnVault$Sheet", "missingValues", "()I"⟩, prog_10_method_10_code, 3, some (.int), [], 10, 0, 0, 0, 0, 0) := ⟨(zt_in (j := 2) (k := 64) rfl rfl), rfl, (zt_in (j := 1) (k := 3) rfl rfl), (zt_in (j := 2) (k := 62) rfl rfl), Or.inr (zt_in (j := 2) (k := 63) rfl rfl), by decide +kernel, by decide, fun h => absurd h (by decide)⟩
set_option maxRecDepth 100000 in
theorem zt_m_14 : zt_mOK (⟨"ColumnVault$Sheet", "rowsWith", "(IJ)J"⟩, prog_10_method_24_code, 4, some (.long), [], 10, 2, 0, 0, 0, 0) := ⟨(zt_in (j := 2) (k := 69) rfl rfl), rfl, (zt_in (j := 1) (k := 3) rfl rfl), (zt_in (j := 2) (k := 67) rfl rfl), Or.inr (zt_in (j := 2) (k := 68) rfl rfl), by decide +kernel, by decide, fun h => absurd h (by decide)⟩
set_option maxRecDepth 100000 in
theorem zt_m_15 : zt_mOK (⟨"ColumnVault$Sheet", "rowsFromTo", "(IJJ)J"⟩, prog_10_method_25_code, 11, some (.long), [], 10, 3, 0, 0, 0, 0) := ⟨(zt_in (j := 2) (k := 73) rfl rfl), rfl, (zt_in (j := 1) (k := 3) rfl rfl), (zt_in (j := 2) (k := 71) rfl rfl), Or.inr (zt_in (j := 2) (k := 72) rfl rfl), by decide +kernel, by decide, fun h => absurd h (by decide)⟩
set_option maxRecDepth 100000 in
theorem zt_m_16 : zt_mOK (⟨"ColumnVault$Sheet", "keyAt", "(II)J"⟩, prog_10_method_7_code, 3, some (.long), [], 10, 2, 0, 0, 0, 0) := ⟨(zt_in (j := 2) (k := 77) rfl rfl), rfl, (zt_in (j := 1) (k := 3) rfl rfl), (zt_in (j := 2) (k := 75) rfl rfl), Or.inr (zt_in (j := 2) (k := 76) rfl rfl), by decide +kernel, by decide, fun h => absurd h (by decide)⟩
set_option maxRecDepth 100000 in
theorem zt_m_17 : zt_mOK (⟨"ColumnVault", "version", "()I"⟩, prog_1_method_10_code, 1, some (.int), [], 12, 0, 0, 0, 0, 0) := ⟨(zt_in (j := 2) (k := 98) rfl rfl), rfl, (zt_in (j := 1) (k := 1) rfl rfl), (zt_in (j := 2) (k := 96) rfl rfl), Or.inr (zt_in (j := 2) (k := 97) rfl rfl), by decide +kernel, by decide, fun h => absurd h (by decide)⟩
set_option maxRecDepth 100000 in
theorem zt_m_18 : zt_mOK (⟨"ColumnVault", "chosenShare", "(I)F"⟩, prog_1_method_40_code, 3, some (.float), [], 12, 1, 0, 0, 0, 0) := ⟨(zt_in (j := 2) (k := 102) rfl rfl), rfl, (zt_in (j := 1) (k := 1) rfl rfl), (zt_in (j := 2) (k := 100) rfl rfl), Or.inr (zt_in (j := 2) (k := 101) rfl rfl), by decide +kernel, by decide, fun h => absurd h (by decide)⟩
set_option maxRecDepth 100000 in
theorem zt_m_19 : zt_mOK (⟨"ColumnVaultLaw", "seed", "([I)[I"⟩, method_2_code, 3, some (.array (.int)), [], 17, 1, 0, 1, 99999, 0) := ⟨(zt_in (j := 2) (k := 105) rfl rfl), rfl, (zt_in (j := 1) (k := 0) rfl rfl), (zt_in (j := 2) (k := 104) rfl rfl), Or.inl rfl, by decide +kernel, by decide, fun h => absurd h (by decide)⟩
set_option maxRecDepth 100000 in
theorem zt_m_20 : zt_mOK (⟨"ColumnVaultLaw", "draw", "([II)I"⟩, method_3_code, 2, some (.int), [], 17, 2, 0, 1, 99999, 0) := ⟨(zt_in (j := 2) (k := 111) rfl rfl), rfl, (zt_in (j := 1) (k := 0) rfl rfl), (zt_in (j := 2) (k := 110) rfl rfl), Or.inl rfl, by decide +kernel, by decide, fun h => absurd h (by decide)⟩
set_option maxRecDepth 100000 in
theorem zt_m_21 : zt_mOK (⟨"ColumnVaultLaw", "asks", "(LColumnVault;IIIJ)J"⟩, method_9_code, 7, some (.long), [(0, 107, 316, 150), (108, 114, 316, 150), (115, 128, 316, 150), (129, 146, 316, 150), (147, 156, 316, 150), (157, 163, 316, 150), (164, 171, 316, 150), (172, 179, 316, 150), (180, 186, 316, 150), (187, 199, 316, 150), (200, 207, 316, 150), (208, 214, 316, 150), (215, 224, 316, 150), (225, 236, 316, 150), (237, 248, 316, 150), (249, 258, 316, 150), (259, 268, 316, 150), (269, 276, 316, 150), (277, 287, 316, 150), (288, 297, 316, 150), (298, 307, 316, 150), (308, 315, 316, 150), (0, 107, 322, 154), (108, 114, 322, 154), (115, 128, 322, 154), (129, 146, 322, 154), (147, 156, 322, 154), (157, 163, 322, 154), (164, 171, 322, 154), (172, 179, 322, 154), (180, 186, 322, 154), (187, 199, 322, 154), (200, 207, 322, 154), (208, 214, 322, 154), (215, 224, 322, 154), (225, 236, 322, 154), (237, 248, 322, 154), (249, 258, 322, 154), (259, 268, 322, 154), (269, 276, 322, 154), (277, 287, 322, 154), (288, 297, 322, 154), (298, 307, 322, 154), (308, 315, 322, 154), (0, 107, 328, 158), (108, 114, 328, 158), (115, 128, 328, 158), (129, 146, 328, 158), (147, 156, 328, 158), (157, 163, 328, 158), (164, 171, 328, 158), (172, 179, 328, 158), (180, 186, 328, 158), (187, 199, 328, 158), (200, 207, 328, 158), (208, 214, 328, 158), (215, 224, 328, 158), (225, 236, 328, 158), (237, 248, 328, 158), (249, 258, 328, 158), (259, 268, 328, 158), (269, 276, 328, 158), (277, 287, 328, 158), (288, 297, 328, 158), (298, 307, 328, 158), (308, 315, 328, 158), (0, 107, 334, 162), (108, 114, 334, 162), (115, 128, 334, 162), (129, 146, 334, 162), (147, 156, 334, 162), (157, 163, 334, 162), (164, 171, 334, 162), (172, 179, 334, 162), (180, 186, 334, 162), (187, 199, 334, 162), (200, 207, 334, 162), (208, 214, 334, 162), (215, 224, 334, 162), (225, 236, 334, 162), (237, 248, 334, 162), (249, 258, 334, 162), (259, 268, 334, 162), (269, 276, 334, 162), (277, 287, 334, 162), (288, 297, 334, 162), (298, 307, 334, 162), (308, 315, 334, 162)], 17, 5, 0, 1, 99999, 0) := ⟨(zt_in (j := 2) (k := 115) rfl rfl), rfl, (zt_in (j := 1) (k := 0) rfl rfl), (zt_in (j := 2) (k := 114) rfl rfl), Or.inl rfl, by decide +kernel, by decide, fun h => absurd h (by decide)⟩
set_option maxRecDepth 100000 in
theorem zt_m_22 : zt_mOK (⟨"ColumnVault", "addColumn", "(II)I"⟩, prog_1_method_2_code, 4, some (.int), [], 12, 2, 0, 0, 0, 0) := ⟨(zt_in (j := 2) (k := 123) rfl rfl), rfl, (zt_in (j := 1) (k := 1) rfl rfl), (zt_in (j := 2) (k := 121) rfl rfl), Or.inr (zt_in (j := 2) (k := 122) rfl rfl), by decide +kernel, by decide, fun h => absurd h (by decide)⟩
set_option maxRecDepth 100000 in
theorem zt_m_23 : zt_mOK (⟨"ColumnVault", "nextSheetOf", "(I)LColumnVault$Sheet;"⟩, prog_1_method_43_code, 2, some (.object "ColumnVault$Sheet"), [], 12, 1, 0, 0, 0, 0) := ⟨(zt_in (j := 2) (k := 144) rfl rfl), rfl, (zt_in (j := 1) (k := 1) rfl rfl), (zt_in (j := 2) (k := 143) rfl rfl), Or.inr (zt_in (j := 0) (k := 2) rfl rfl), by decide +kernel, by decide, fun h => absurd h (by decide)⟩
set_option maxRecDepth 100000 in
theorem zt_m_24 : zt_mOK (⟨"ColumnVault$History", "makeNextFrom", "(I)V"⟩, prog_6_method_4_code, 5, none, [], 6, 1, 0, 0, 0, 0) := ⟨(zt_in (j := 2) (k := 148) rfl rfl), rfl, (zt_in (j := 1) (k := 2) rfl rfl), (zt_in (j := 2) (k := 146) rfl rfl), Or.inr (zt_in (j := 2) (k := 147) rfl rfl), by decide +kernel, by decide, fun h => absurd h (by decide)⟩
set_option maxRecDepth 100000 in
theorem zt_m_25 : zt_mOK (⟨"ColumnVault$Sheet", "copyFrom", "(LColumnVault$Sheet;)V"⟩, prog_10_method_2_code, 2, none, [], 10, 1, 0, 0, 0, 0) := ⟨(zt_in (j := 2) (k := 153) rfl rfl), rfl, (zt_in (j := 1) (k := 3) rfl rfl), (zt_in (j := 2) (k := 151) rfl rfl), Or.inr (zt_in (j := 2) (k := 152) rfl rfl), by decide +kernel, by decide, fun h => absurd h (by decide)⟩
set_option maxRecDepth 100000 in
theorem zt_m_26 : zt_mOK (⟨"ColumnVault$Sheet", "appendColumn", "(I)I"⟩, prog_10_method_11_code, 4, some (.int), [], 10, 1, 0, 0, 0, 0) := ⟨(zt_in (j := 2) (k := 160) rfl rfl), rfl, (zt_in (j := 1) (k := 3) rfl rfl), (zt_in (j := 2) (k := 158) rfl rfl), Or.inr (zt_in (j := 2) (k := 159) rfl rfl), by decide +kernel, by decide, fun h => absurd h (by decide)⟩
set_option maxRecDepth 100000 in
theorem zt_m_27 : zt_mOK (⟨"ColumnVault$Sheet", "putKey", "(IIJ)V"⟩, prog_10_method_8_code, 5, none, [], 10, 3, 0, 0, 0, 0) := ⟨(zt_in (j := 2) (k := 164) rfl rfl), rfl, (zt_in (j := 1) (k := 3) rfl rfl), (zt_in (j := 2) (k := 162) rfl rfl), Or.inr (zt_in (j := 2) (k := 163) rfl rfl), by decide +kernel, by decide, fun h => absurd h (by decide)⟩
set_option maxRecDepth 100000 in
theorem zt_m_28 : zt_mOK (⟨"ColumnVault$Sheet", "hasColumn", "(I)Z"⟩, prog_10_method_3_code, 2, some (.boolean), [], 10, 1, 0, 0, 0, 0) := ⟨(zt_in (j := 2) (k := 168) rfl rfl), rfl, (zt_in (j := 1) (k := 3) rfl rfl), (zt_in (j := 2) (k := 166) rfl rfl), Or.inr (zt_in (j := 2) (k := 167) rfl rfl), by decide +kernel, by decide, fun h => absurd h (by decide)⟩
set_option maxRecDepth 100000 in
theorem zt_m_29 : zt_mOK (⟨"ColumnVault$Sheet", "hasRow", "(I)Z"⟩, prog_10_method_4_code, 2, some (.boolean), [], 10, 1, 0, 0, 0, 0) := ⟨(zt_in (j := 2) (k := 172) rfl rfl), rfl, (zt_in (j := 1) (k := 3) rfl rfl), (zt_in (j := 2) (k := 170) rfl rfl), Or.inr (zt_in (j := 2) (k := 171) rfl rfl), by decide +kernel, by decide, fun h => absurd h (by decide)⟩
set_option maxRecDepth 100000 in
theorem zt_m_30 : zt_mOK (⟨"ColumnVault", "addRow", "(I)I"⟩, prog_1_method_3_code, 2, some (.int), [], 12, 1, 0, 0, 0, 0) := ⟨(zt_in (j := 2) (k := 176) rfl rfl), rfl, (zt_in (j := 1) (k := 1) rfl rfl), (zt_in (j := 2) (k := 174) rfl rfl), Or.inr (zt_in (j := 2) (k := 175) rfl rfl), by decide +kernel, by decide, fun h => absurd h (by decide)⟩
set_option maxRecDepth 100000 in
theorem zt_m_31 : zt_mOK (⟨"ColumnVault$Sheet", "appendRow", "()I"⟩, prog_10_method_12_code, 3, some (.int), [], 10, 0, 0, 0, 0, 0) := ⟨(zt_in (j := 2) (k := 181) rfl rfl), rfl, (zt_in (j := 1) (k := 3) rfl rfl), (zt_in (j := 2) (k := 179) rfl rfl), Or.inr (zt_in (j := 2) (k := 180) rfl rfl), by decide +kernel, by decide, fun h => absurd h (by decide)⟩
set_option maxRecDepth 100000 in
theorem zt_m_32 : zt_mOK (⟨"ColumnVault", "fill", "(IIIII)I"⟩, prog_1_method_4_code, 9, some (.int), [], 12, 5, 0, 0, 0, 0) := ⟨(zt_in (j := 2) (k := 185) rfl rfl), rfl, (zt_in (j := 1) (k := 1) rfl rfl), (zt_in (j := 2) (k := 183) rfl rfl), Or.inr (zt_in (j := 2) (k := 184) rfl rfl), by decide +kernel, by decide, fun h => absurd h (by decide)⟩
set_option maxRecDepth 100000 in
theorem zt_m_33 : zt_mOK (⟨"ColumnVault", "sheetWith", "(II)LColumnVault$Sheet;"⟩, prog_1_method_42_code, 4, some (.object "ColumnVault$Sheet"), [], 12, 2, 0, 0, 0, 0) := ⟨(zt_in (j := 2) (k := 189) rfl rfl), rfl, (zt_in (j := 1) (k := 1) rfl rfl), (zt_in (j := 2) (k := 188) rfl rfl), Or.inr (zt_in (j := 0) (k := 3) rfl rfl), by decide +kernel, by decide, fun h => absurd h (by decide)⟩
set_option maxRecDepth 100000 in
theorem zt_m_34 : zt_mOK (⟨"ColumnVault", "requireColumn", "(LColumnVault$Sheet;I)V"⟩, prog_1_method_47_code, 2, none, [], 12, 2, 0, 1, 99999, 0) := ⟨(zt_in (j := 2) (k := 192) rfl rfl), rfl, (zt_in (j := 1) (k := 1) rfl rfl), (zt_in (j := 2) (k := 191) rfl rfl), Or.inl rfl, by decide +kernel, by decide, fun h => absurd h (by decide)⟩
set_option maxRecDepth 100000 in
theorem zt_m_35 : zt_mOK (⟨"ColumnVault$Sheet", "kindOf", "(I)I"⟩, prog_10_method_6_code, 2, some (.int), [], 10, 1, 0, 0, 0, 0) := ⟨(zt_in (j := 2) (k := 198) rfl rfl), rfl, (zt_in (j := 1) (k := 3) rfl rfl), (zt_in (j := 2) (k := 196) rfl rfl), Or.inr (zt_in (j := 2) (k := 197) rfl rfl), by decide +kernel, by decide, fun h => absurd h (by decide)⟩
set_option maxRecDepth 100000 in
theorem zt_m_36 : zt_mOK (⟨"ColumnVault", "isNumber", "(J)Z"⟩, prog_1_method_53_code, 2, some (.boolean), [], 12, 1, 0, 1, 99999, 0) := ⟨(zt_in (j := 2) (k := 201) rfl rfl), rfl, (zt_in (j := 1) (k := 1) rfl rfl), (zt_in (j := 2) (k := 200) rfl rfl), Or.inl rfl, by decide +kernel, by decide, fun h => absurd h (by decide)⟩
set_option maxRecDepth 100000 in
theorem zt_m_37 : zt_mOK (⟨"ColumnVault", "set", "(IIIJ)Z"⟩, prog_1_method_5_code, 12, some (.boolean), [], 12, 4, 0, 0, 0, 0) := ⟨(zt_in (j := 2) (k := 209) rfl rfl), rfl, (zt_in (j := 1) (k := 1) rfl rfl), (zt_in (j := 2) (k := 207) rfl rfl), Or.inr (zt_in (j := 2) (k := 208) rfl rfl), by decide +kernel, by decide, fun h => absurd h (by decide)⟩
set_option maxRecDepth 100000 in
theorem zt_m_38 : zt_mOK (⟨"ColumnVault", "requireRow", "(LColumnVault$Sheet;I)V"⟩, prog_1_method_48_code, 2, none, [], 12, 2, 0, 1, 99999, 0) := ⟨(zt_in (j := 2) (k := 212) rfl rfl), rfl, (zt_in (j := 1) (k := 1) rfl rfl), (zt_in (j := 2) (k := 211) rfl rfl), Or.inl rfl, by decide +kernel, by decide, fun h => absurd h (by decide)⟩
set_option maxRecDepth 100000 in
theorem zt_m_39 : zt_mOK (⟨"ColumnVault", "requireValue", "(IJ)V"⟩, prog_1_method_50_code, 3, none, [], 12, 2, 0, 1, 99999, 0) := ⟨(zt_in (j := 2) (k := 218) rfl rfl), rfl, (zt_in (j := 1) (k := 1) rfl rfl), (zt_in (j := 2) (k := 217) rfl rfl), Or.inl rfl, by decide +kernel, by decide, fun h => absurd h (by decide)⟩
set_option maxRecDepth 100000 in
theorem zt_m_40 : zt_mOK (⟨"ColumnVault", "isWord", "(J)Z"⟩, prog_1_method_54_code, 3, some (.boolean), [], 12, 1, 0, 1, 99999, 0) := ⟨(zt_in (j := 2) (k := 221) rfl rfl), rfl, (zt_in (j := 1) (k := 1) rfl rfl), (zt_in (j := 2) (k := 220) rfl rfl), Or.inl rfl, by decide +kernel, by decide, fun h => absurd h (by decide)⟩
set_option maxRecDepth 100000 in
theorem zt_m_41 : zt_mOK (⟨"ColumnVault", "isLetter", "(I)Z"⟩, prog_1_method_55_code, 1, some (.boolean), [], 12, 1, 0, 1, 99999, 0) := ⟨(zt_in (j := 2) (k := 225) rfl rfl), rfl, (zt_in (j := 1) (k := 1) rfl rfl), (zt_in (j := 2) (k := 224) rfl rfl), Or.inl rfl, by decide +kernel, by decide, fun h => absurd h (by decide)⟩
set_option maxRecDepth 100000 in
theorem zt_m_42 : zt_mOK (⟨"ColumnVault", "keyOf", "(IJ)J"⟩, prog_1_method_57_code, 6, some (.long), [], 12, 2, 0, 1, 99999, 0) := ⟨(zt_in (j := 2) (k := 230) rfl rfl), rfl, (zt_in (j := 1) (k := 1) rfl rfl), (zt_in (j := 2) (k := 229) rfl rfl), Or.inl rfl, by decide +kernel, by decide, fun h => absurd h (by decide)⟩
set_option maxRecDepth 100000 in
theorem zt_m_43 : zt_mOK (⟨"ColumnVault", "get", "(III)J"⟩, prog_1_method_7_code, 5, some (.long), [], 12, 3, 0, 0, 0, 0) := ⟨(zt_in (j := 2) (k := 234) rfl rfl), rfl, (zt_in (j := 1) (k := 1) rfl rfl), (zt_in (j := 2) (k := 232) rfl rfl), Or.inr (zt_in (j := 2) (k := 233) rfl rfl), by decide +kernel, by decide, fun h => absurd h (by decide)⟩
set_option maxRecDepth 100000 in
theorem zt_m_44 : zt_mOK (⟨"ColumnVault$Sheet", "valueOf", "(II)J"⟩, prog_10_method_9_code, 3, some (.long), [], 10, 2, 0, 0, 0, 0) := ⟨(zt_in (j := 2) (k := 238) rfl rfl), rfl, (zt_in (j := 1) (k := 3) rfl rfl), (zt_in (j := 2) (k := 236) rfl rfl), Or.inr (zt_in (j := 2) (k := 237) rfl rfl), by decide +kernel, by decide, fun h => absurd h (by decide)⟩
set_option maxRecDepth 100000 in
theorem zt_m_45 : zt_mOK (⟨"ColumnVault", "toldOf", "(IJ)J"⟩, prog_1_method_58_code, 6, some (.long), [], 12, 2, 0, 1, 99999, 0) := ⟨(zt_in (j := 3) (k := 2) rfl rfl), rfl, (zt_in (j := 1) (k := 1) rfl rfl), (zt_in (j := 3) (k := 1) rfl rfl), Or.inl rfl, by decide +kernel, by decide, fun h => absurd h (by decide)⟩
set_option maxRecDepth 100000 in
theorem zt_m_46 : zt_mOK (⟨"ColumnVault", "back", "(I)I"⟩, prog_1_method_11_code, 2, some (.int), [], 12, 1, 0, 0, 0, 0) := ⟨(zt_in (j := 3) (k := 6) rfl rfl), rfl, (zt_in (j := 1) (k := 1) rfl rfl), (zt_in (j := 3) (k := 4) rfl rfl), Or.inr (zt_in (j := 3) (k := 5) rfl rfl), by decide +kernel, by decide, fun h => absurd h (by decide)⟩
set_option maxRecDepth 100000 in
theorem zt_m_47 : zt_mOK (⟨"ColumnVault$History", "keeps", "(I)Z"⟩, prog_6_method_2_code, 2, some (.boolean), [], 6, 1, 0, 0, 0, 0) := ⟨(zt_in (j := 3) (k := 10) rfl rfl), rfl, (zt_in (j := 1) (k := 2) rfl rfl), (zt_in (j := 3) (k := 8) rfl rfl), Or.inr (zt_in (j := 3) (k := 9) rfl rfl), by decide +kernel, by decide, fun h => absurd h (by decide)⟩
set_option maxRecDepth 100000 in
theorem zt_m_48 : zt_mOK (⟨"ColumnVault", "rowAt", "(II)I"⟩, prog_1_method_13_code, 4, some (.int), [], 12, 2, 0, 0, 0, 0) := ⟨(zt_in (j := 3) (k := 15) rfl rfl), rfl, (zt_in (j := 1) (k := 1) rfl rfl), (zt_in (j := 3) (k := 13) rfl rfl), Or.inr (zt_in (j := 3) (k := 14) rfl rfl), by decide +kernel, by decide, fun h => absurd h (by decide)⟩
set_option maxRecDepth 100000 in
theorem zt_m_49 : zt_mOK (⟨"ColumnVault", "requirePlace", "(LColumnVault$Sheet;I)V"⟩, prog_1_method_49_code, 2, none, [], 12, 2, 0, 1, 99999, 0) := ⟨(zt_in (j := 3) (k := 18) rfl rfl), rfl, (zt_in (j := 1) (k := 1) rfl rfl), (zt_in (j := 3) (k := 17) rfl rfl), Or.inl rfl, by decide +kernel, by decide, fun h => absurd h (by decide)⟩
set_option maxRecDepth 100000 in
theorem zt_m_50 : zt_mOK (⟨"ColumnVault$Sheet", "rowInOrder", "(I)I"⟩, prog_10_method_15_code, 2, some (.int), [], 10, 1, 0, 0, 0, 0) := ⟨(zt_in (j := 3) (k := 23) rfl rfl), rfl, (zt_in (j := 1) (k := 3) rfl rfl), (zt_in (j := 3) (k := 21) rfl rfl), Or.inr (zt_in (j := 3) (k := 22) rfl rfl), by decide +kernel, by decide, fun h => absurd h (by decide)⟩
set_option maxRecDepth 100000 in
theorem zt_m_51 : zt_mOK (⟨"ColumnVault", "choose", "(II)I"⟩, prog_1_method_16_code, 6, some (.int), [], 12, 2, 0, 0, 0, 0) := ⟨(zt_in (j := 3) (k := 27) rfl rfl), rfl, (zt_in (j := 1) (k := 1) rfl rfl), (zt_in (j := 3) (k := 25) rfl rfl), Or.inr (zt_in (j := 3) (k := 26) rfl rfl), by decide +kernel, by decide, fun h => absurd h (by decide)⟩
set_option maxRecDepth 100000 in
theorem zt_m_52 : zt_mOK (⟨"ColumnVault", "filterOf", "(I)LColumnVault$Node;"⟩, prog_1_method_45_code, 3, some (.object "ColumnVault$Node"), [], 12, 1, 0, 0, 0, 0) := ⟨(zt_in (j := 3) (k := 32) rfl rfl), rfl, (zt_in (j := 1) (k := 1) rfl rfl), (zt_in (j := 3) (k := 31) rfl rfl), Or.inr (zt_in (j := 0) (k := 4) rfl rfl), by decide +kernel, by decide, fun h => absurd h (by decide)⟩
set_option maxRecDepth 100000 in
theorem zt_m_53 : zt_mOK (⟨"ColumnVault", "readerOf", "(I)LColumnVault$FilterReader;"⟩, prog_1_method_44_code, 2, some (.object "ColumnVault$FilterReader"), [], 12, 1, 0, 0, 0, 0) := ⟨(zt_in (j := 3) (k := 36) rfl rfl), rfl, (zt_in (j := 1) (k := 1) rfl rfl), (zt_in (j := 3) (k := 35) rfl rfl), Or.inr (zt_in (j := 0) (k := 5) rfl rfl), by decide +kernel, by decide, fun h => absurd h (by decide)⟩
set_option maxRecDepth 100000 in
theorem zt_m_54 : zt_mOK (⟨"ColumnVault$FilterReader", "<init>", "(LColumnVault$Tokens;LColumnVault$Sheet;)V"⟩, prog_3_method_1_code, 3, none, [], 3, 2, 0, 2, 99999, 0) := ⟨(zt_in (j := 3) (k := 41) rfl rfl), rfl, (zt_in (j := 1) (k := 16) rfl rfl), (zt_in (j := 3) (k := 40) rfl rfl), Or.inl rfl, by decide +kernel, by decide, fun _ => rfl⟩
set_option maxRecDepth 100000 in
theorem zt_m_55 : zt_mOK (⟨"ColumnVault$FilterReader", "readWhole", "(LColumnVault$FilterText;)LColumnVault$Node;"⟩, prog_3_method_2_code, 3, some (.object "ColumnVault$Node"), [], 3, 1, 0, 0, 0, 0) := ⟨(zt_in (j := 3) (k := 70) rfl rfl), rfl, (zt_in (j := 1) (k := 16) rfl rfl), (zt_in (j := 3) (k := 68) rfl rfl), Or.inr (zt_in (j := 3) (k := 69) rfl rfl), by decide +kernel, by decide, fun h => absurd h (by decide)⟩
set_option maxRecDepth 100000 in
theorem zt_m_56 : zt_mOK (⟨"ColumnVault$Tokens", "readFrom", "(LColumnVault$FilterText;)V"⟩, prog_11_method_2_code, 4, none, [], 11, 1, 0, 0, 0, 0) := ⟨(zt_in (j := 3) (k := 74) rfl rfl), rfl, (zt_in (j := 1) (k := 5) rfl rfl), (zt_in (j := 3) (k := 72) rfl rfl), Or.inr (zt_in (j := 3) (k := 73) rfl rfl), by decide +kernel, by decide, fun h => absurd h (by decide)⟩
set_option maxRecDepth 100000 in
theorem zt_m_57 : zt_mOK (⟨"ColumnVault$FilterText", "byteAt", "(I)I"⟩, prog_4_method_2_code, 2, some (.int), [], 4, 1, 0, 0, 0, 0) := ⟨(zt_in (j := 3) (k := 78) rfl rfl), rfl, (zt_in (j := 1) (k := 4) rfl rfl), (zt_in (j := 3) (k := 76) rfl rfl), Or.inr (zt_in (j := 3) (k := 77) rfl rfl), by decide +kernel, by decide, fun h => absurd h (by decide)⟩
set_option maxRecDepth 100000 in
theorem zt_m_58 : zt_mOK (⟨"ColumnVault$Tokens", "readToken", "(LColumnVault$FilterText;I)I"⟩, prog_11_method_3_code, 5, some (.int), [], 11, 2, 0, 0, 0, 0) := ⟨(zt_in (j := 3) (k := 82) rfl rfl), rfl, (zt_in (j := 1) (k := 5) rfl rfl), (zt_in (j := 3) (k := 81) rfl rfl), Or.inr (zt_in (j := 0) (k := 6) rfl rfl), by decide +kernel, by decide, fun h => absurd h (by decide)⟩
set_option maxRecDepth 100000 in
theorem zt_m_59 : zt_mOK (⟨"ColumnVault$Tokens", "put", "(IIJ)V"⟩, prog_11_method_6_code, 5, none, [], 11, 3, 0, 0, 0, 0) := ⟨(zt_in (j := 3) (k := 87) rfl rfl), rfl, (zt_in (j := 1) (k := 5) rfl rfl), (zt_in (j := 3) (k := 86) rfl rfl), Or.inr (zt_in (j := 0) (k := 7) rfl rfl), by decide +kernel, by decide, fun h => absurd h (by decide)⟩
set_option maxRecDepth 100000 in
theorem zt_m_60 : zt_mOK (⟨"ColumnVault", "isDigit", "(I)Z"⟩, prog_1_method_56_code, 1, some (.boolean), [], 12, 1, 0, 1, 99999, 0) := ⟨(zt_in (j := 3) (k := 90) rfl rfl), rfl, (zt_in (j := 1) (k := 1) rfl rfl), (zt_in (j := 3) (k := 89) rfl rfl), Or.inl rfl, by decide +kernel, by decide, fun h => absurd h (by decide)⟩
set_option maxRecDepth 100000 in
theorem zt_m_61 : zt_mOK (⟨"ColumnVault$Tokens", "readWord", "(LColumnVault$FilterText;I)I"⟩, prog_11_method_4_code, 6, some (.int), [], 11, 2, 0, 0, 0, 0) := ⟨(zt_in (j := 3) (k := 95) rfl rfl), rfl, (zt_in (j := 1) (k := 5) rfl rfl), (zt_in (j := 3) (k := 94) rfl rfl), Or.inr (zt_in (j := 0) (k := 8) rfl rfl), by decide +kernel, by decide, fun h => absurd h (by decide)⟩
set_option maxRecDepth 100000 in
theorem zt_m_62 : zt_mOK (⟨"ColumnVault$Tokens", "readNumber", "(LColumnVault$FilterText;I)I"⟩, prog_11_method_5_code, 7, some (.int), [], 11, 2, 0, 0, 0, 0) := ⟨(zt_in (j := 3) (k := 100) rfl rfl), rfl, (zt_in (j := 1) (k := 5) rfl rfl), (zt_in (j := 3) (k := 99) rfl rfl), Or.inr (zt_in (j := 0) (k := 9) rfl rfl), by decide +kernel, by decide, fun h => absurd h (by decide)⟩
set_option maxRecDepth 100000 in
theorem zt_m_63 : zt_mOK (⟨"java/lang/Math", "min", "(JJ)J"⟩, prog_28_method_70_code, 4, some (.long), [], 19, 2, 0, 1, 99999, 0) := ⟨(zt_in (j := 3) (k := 106) rfl rfl), rfl, (zt_in (j := 1) (k := 17) rfl rfl), (zt_in (j := 3) (k := 105) rfl rfl), Or.inl rfl, by decide +kernel, by decide, fun h => absurd h (by decide)⟩
set_option maxRecDepth 100000 in
theorem zt_m_64 : zt_mOK (⟨"java/lang/Math", "max", "(II)I"⟩, prog_28_method_65_code, 2, some (.int), [], 19, 2, 0, 1, 99999, 0) := ⟨(zt_in (j := 3) (k := 110) rfl rfl), rfl, (zt_in (j := 1) (k := 17) rfl rfl), (zt_in (j := 3) (k := 109) rfl rfl), Or.inl rfl, by decide +kernel, by decide, fun h => absurd h (by decide)⟩
set_option maxRecDepth 100000 in
theorem zt_m_65 : zt_mOK (⟨"ColumnVault$FilterReader", "readFilter", "(I)LColumnVault$Node;"⟩, prog_3_method_5_code, 6, some (.object "ColumnVault$Node"), [], 3, 1, 0, 0, 0, 0) := ⟨(zt_in (j := 3) (k := 114) rfl rfl), rfl, (zt_in (j := 1) (k := 16) rfl rfl), (zt_in (j := 3) (k := 113) rfl rfl), Or.inr (zt_in (j := 0) (k := 10) rfl rfl), by decide +kernel, by decide, fun h => absurd h (by decide)⟩
set_option maxRecDepth 100000 in
theorem zt_m_66 : zt_mOK (⟨"ColumnVault$Node", "<init>", "(IJ)V"⟩, prog_8_method_1_code, 4, none, [], 8, 2, 0, 2, 99999, 0) := ⟨(zt_in (j := 3) (k := 119) rfl rfl), rfl, (zt_in (j := 1) (k := 18) rfl rfl), (zt_in (j := 3) (k := 118) rfl rfl), Or.inl rfl, by decide +kernel, by decide, fun _ => rfl⟩
set_option maxRecDepth 100000 in
theorem zt_m_67 : zt_mOK (⟨"ColumnVault$FilterReader", "readPart", "(I)LColumnVault$Node;"⟩, prog_3_method_6_code, 6, some (.object "ColumnVault$Node"), [], 3, 1, 0, 0, 0, 0) := ⟨(zt_in (j := 3) (k := 152) rfl rfl), rfl, (zt_in (j := 1) (k := 16) rfl rfl), (zt_in (j := 3) (k := 151) rfl rfl), Or.inr (zt_in (j := 0) (k := 11) rfl rfl), by decide +kernel, by decide, fun h => absurd h (by decide)⟩
set_option maxRecDepth 100000 in
theorem zt_m_68 : zt_mOK (⟨"ColumnVault$Sheet", "allRows", "()J"⟩, prog_10_method_22_code, 1, some (.long), [], 10, 0, 0, 0, 0, 0) := ⟨(zt_in (j := 3) (k := 156) rfl rfl), rfl, (zt_in (j := 1) (k := 3) rfl rfl), (zt_in (j := 3) (k := 154) rfl rfl), Or.inr (zt_in (j := 3) (k := 155) rfl rfl), by decide +kernel, by decide, fun h => absurd h (by decide)⟩
set_option maxRecDepth 100000 in
theorem zt_m_69 : zt_mOK (⟨"ColumnVault$FilterReader", "readPiece", "(I)LColumnVault$Node;"⟩, prog_3_method_7_code, 4, some (.object "ColumnVault$Node"), [], 3, 1, 0, 0, 0, 0) := ⟨(zt_in (j := 3) (k := 160) rfl rfl), rfl, (zt_in (j := 1) (k := 16) rfl rfl), (zt_in (j := 3) (k := 159) rfl rfl), Or.inr (zt_in (j := 0) (k := 12) rfl rfl), by decide +kernel, by decide, fun h => absurd h (by decide)⟩
set_option maxRecDepth 100000 in
theorem zt_m_70 : zt_mOK (⟨"ColumnVault$FilterReader", "takes", "(I)Z"⟩, prog_3_method_4_code, 2, some (.boolean), [], 3, 1, 0, 0, 0, 0) := ⟨(zt_in (j := 3) (k := 164) rfl rfl), rfl, (zt_in (j := 1) (k := 16) rfl rfl), (zt_in (j := 3) (k := 163) rfl rfl), Or.inr (zt_in (j := 0) (k := 13) rfl rfl), by decide +kernel, by decide, fun h => absurd h (by decide)⟩
set_option maxRecDepth 100000 in
theorem zt_m_71 : zt_mOK (⟨"ColumnVault$Tokens", "formAt", "(I)I"⟩, prog_11_method_7_code, 2, some (.int), [], 11, 1, 0, 0, 0, 0) := ⟨(zt_in (j := 3) (k := 168) rfl rfl), rfl, (zt_in (j := 1) (k := 5) rfl rfl), (zt_in (j := 3) (k := 166) rfl rfl), Or.inr (zt_in (j := 3) (k := 167) rfl rfl), by decide +kernel, by decide, fun h => absurd h (by decide)⟩
set_option maxRecDepth 100000 in
theorem zt_m_72 : zt_mOK (⟨"ColumnVault$Tokens", "placeAt", "(I)I"⟩, prog_11_method_8_code, 2, some (.int), [], 11, 1, 0, 0, 0, 0) := ⟨(zt_in (j := 3) (k := 172) rfl rfl), rfl, (zt_in (j := 1) (k := 5) rfl rfl), (zt_in (j := 3) (k := 170) rfl rfl), Or.inr (zt_in (j := 3) (k := 171) rfl rfl), by decide +kernel, by decide, fun h => absurd h (by decide)⟩
set_option maxRecDepth 100000 in
theorem zt_m_73 : zt_mOK (⟨"ColumnVault$FilterReader", "fail", "(II)LColumnVault$Node;"⟩, prog_3_method_3_code, 3, some (.object "ColumnVault$Node"), [], 3, 2, 0, 0, 0, 0) := ⟨(zt_in (j := 3) (k := 176) rfl rfl), rfl, (zt_in (j := 1) (k := 16) rfl rfl), (zt_in (j := 3) (k := 175) rfl rfl), Or.inr (zt_in (j := 0) (k := 14) rfl rfl), by decide +kernel, by decide, fun h => absurd h (by decide)⟩
set_option maxRecDepth 100000 in
theorem zt_m_74 : zt_mOK (⟨"ColumnVault$FilterReader", "readBrackets", "(I)LColumnVault$Node;"⟩, prog_3_method_8_code, 3, some (.object "ColumnVault$Node"), [], 3, 1, 0, 0, 0, 0) := ⟨(zt_in (j := 3) (k := 180) rfl rfl), rfl, (zt_in (j := 1) (k := 16) rfl rfl), (zt_in (j := 3) (k := 179) rfl rfl), Or.inr (zt_in (j := 0) (k := 15) rfl rfl), by decide +kernel, by decide, fun h => absurd h (by decide)⟩
set_option maxRecDepth 100000 in
theorem zt_m_75 : zt_mOK (⟨"ColumnVault$FilterReader", "readTest", "()LColumnVault$Node;"⟩, prog_3_method_9_code, 3, some (.object "ColumnVault$Node"), [], 3, 0, 0, 0, 0, 0) := ⟨(zt_in (j := 3) (k := 184) rfl rfl), rfl, (zt_in (j := 1) (k := 16) rfl rfl), (zt_in (j := 3) (k := 183) rfl rfl), Or.inr (zt_in (j := 0) (k := 16) rfl rfl), by decide +kernel, by decide, fun h => absurd h (by decide)⟩
set_option maxRecDepth 100000 in
theorem zt_m_76 : zt_mOK (⟨"ColumnVault$Tokens", "valueAt", "(I)J"⟩, prog_11_method_9_code, 2, some (.long), [], 11, 1, 0, 0, 0, 0) := ⟨(zt_in (j := 3) (k := 188) rfl rfl), rfl, (zt_in (j := 1) (k := 5) rfl rfl), (zt_in (j := 3) (k := 186) rfl rfl), Or.inr (zt_in (j := 3) (k := 187) rfl rfl), by decide +kernel, by decide, fun h => absurd h (by decide)⟩
set_option maxRecDepth 100000 in
theorem zt_m_77 : zt_mOK (⟨"ColumnVault$FilterReader", "askedBy", "(I)I"⟩, prog_3_method_10_code, 5, some (.int), [], 3, 1, 0, 0, 0, 0) := ⟨(zt_in (j := 3) (k := 193) rfl rfl), rfl, (zt_in (j := 1) (k := 16) rfl rfl), (zt_in (j := 3) (k := 192) rfl rfl), Or.inr (zt_in (j := 0) (k := 17) rfl rfl), by decide +kernel, by decide, fun h => absurd h (by decide)⟩
set_option maxRecDepth 100000 in
theorem zt_m_78 : zt_mOK (⟨"ColumnVault$FilterReader", "readValues", "(II)Z"⟩, prog_3_method_11_code, 6, some (.boolean), [], 3, 2, 0, 0, 0, 0) := ⟨(zt_in (j := 3) (k := 202) rfl rfl), rfl, (zt_in (j := 1) (k := 16) rfl rfl), (zt_in (j := 3) (k := 201) rfl rfl), Or.inr (zt_in (j := 0) (k := 18) rfl rfl), by decide +kernel, by decide, fun h => absurd h (by decide)⟩
set_option maxRecDepth 100000 in
theorem zt_m_79 : zt_mOK (⟨"ColumnVault$FilterReader", "isValueNext", "()Z"⟩, prog_3_method_12_code, 2, some (.boolean), [], 3, 0, 0, 0, 0, 0) := ⟨(zt_in (j := 3) (k := 206) rfl rfl), rfl, (zt_in (j := 1) (k := 16) rfl rfl), (zt_in (j := 3) (k := 205) rfl rfl), Or.inr (zt_in (j := 0) (k := 19) rfl rfl), by decide +kernel, by decide, fun h => absurd h (by decide)⟩
set_option maxRecDepth 100000 in
theorem zt_m_80 : zt_mOK (⟨"ColumnVault$FilterReader", "readValue", "(I)Z"⟩, prog_3_method_13_code, 6, some (.boolean), [], 3, 1, 0, 0, 0, 0) := ⟨(zt_in (j := 3) (k := 210) rfl rfl), rfl, (zt_in (j := 1) (k := 16) rfl rfl), (zt_in (j := 3) (k := 209) rfl rfl), Or.inr (zt_in (j := 0) (k := 20) rfl rfl), by decide +kernel, by decide, fun h => absurd h (by decide)⟩
set_option maxRecDepth 100000 in
theorem zt_m_81 : zt_mOK (⟨"ColumnVault$FilterReader", "rowsOfTest", "(II)J"⟩, prog_3_method_14_code, 6, some (.long), [], 3, 2, 0, 0, 0, 0) := ⟨(zt_in (j := 3) (k := 216) rfl rfl), rfl, (zt_in (j := 1) (k := 16) rfl rfl), (zt_in (j := 3) (k := 215) rfl rfl), Or.inr (zt_in (j := 0) (k := 21) rfl rfl), by decide +kernel, by decide, fun h => absurd h (by decide)⟩
set_option maxRecDepth 100000 in
theorem zt_m_82 : zt_mOK (⟨"ColumnVault$Node", "turn", "(J)V"⟩, prog_8_method_2_code, 3, none, [], 8, 1, 0, 0, 0, 0) := ⟨(zt_in (j := 3) (k := 223) rfl rfl), rfl, (zt_in (j := 1) (k := 18) rfl rfl), (zt_in (j := 3) (k := 221) rfl rfl), Or.inr (zt_in (j := 3) (k := 222) rfl rfl), by decide +kernel, by decide, fun h => absurd h (by decide)⟩
set_option maxRecDepth 100000 in
theorem zt_m_83 : zt_mOK (⟨"ColumnVault$Node", "put", "(LColumnVault$Node;)V"⟩, prog_8_method_3_code, 2, none, [], 8, 1, 0, 0, 0, 0) := ⟨(zt_in (j := 3) (k := 228) rfl rfl), rfl, (zt_in (j := 1) (k := 18) rfl rfl), (zt_in (j := 3) (k := 226) rfl rfl), Or.inr (zt_in (j := 3) (k := 227) rfl rfl), by decide +kernel, by decide, fun h => absurd h (by decide)⟩
set_option maxRecDepth 100000 in
theorem zt_m_84 : zt_mOK (⟨"ColumnVault$Node", "putByCounts", "(LColumnVault$Node;)V"⟩, prog_8_method_4_code, 4, none, [], 8, 1, 0, 0, 0, 0) := ⟨(zt_in (j := 3) (k := 232) rfl rfl), rfl, (zt_in (j := 1) (k := 18) rfl rfl), (zt_in (j := 3) (k := 231) rfl rfl), Or.inr (zt_in (j := 0) (k := 22) rfl rfl), by decide +kernel, by decide, fun h => absurd h (by decide)⟩
set_option maxRecDepth 100000 in
theorem zt_m_85 : zt_mOK (⟨"ColumnVault$Node", "isFirst", "(LColumnVault$Node;LColumnVault$Node;)Z"⟩, prog_8_method_5_code, 5, some (.boolean), [], 8, 2, 0, 0, 0, 0) := ⟨(zt_in (j := 3) (k := 236) rfl rfl), rfl, (zt_in (j := 1) (k := 18) rfl rfl), (zt_in (j := 3) (k := 235) rfl rfl), Or.inr (zt_in (j := 0) (k := 23) rfl rfl), by decide +kernel, by decide, fun h => absurd h (by decide)⟩
set_option maxRecDepth 100000 in
theorem zt_m_86 : zt_mOK (⟨"ColumnVault", "count", "(I)I"⟩, prog_1_method_18_code, 2, some (.int), [], 12, 1, 0, 0, 0, 0) := ⟨(zt_in (j := 4) (k := 3) rfl rfl), rfl, (zt_in (j := 1) (k := 1) rfl rfl), (zt_in (j := 4) (k := 1) rfl rfl), Or.inr (zt_in (j := 4) (k := 2) rfl rfl), by decide +kernel, by decide, fun h => absurd h (by decide)⟩
set_option maxRecDepth 100000 in
theorem zt_m_87 : zt_mOK (⟨"ColumnVault", "join", "(IIIII)I"⟩, prog_1_method_25_code, 8, some (.int), [], 12, 5, 0, 0, 0, 0) := ⟨(zt_in (j := 4) (k := 7) rfl rfl), rfl, (zt_in (j := 1) (k := 1) rfl rfl), (zt_in (j := 4) (k := 5) rfl rfl), Or.inr (zt_in (j := 4) (k := 6) rfl rfl), by decide +kernel, by decide, fun h => absurd h (by decide)⟩
set_option maxRecDepth 100000 in
theorem zt_m_88 : zt_mOK (⟨"ColumnVault", "requireSameKind", "(II)V"⟩, prog_1_method_52_code, 2, none, [], 12, 2, 0, 1, 99999, 0) := ⟨(zt_in (j := 4) (k := 10) rfl rfl), rfl, (zt_in (j := 1) (k := 1) rfl rfl), (zt_in (j := 4) (k := 9) rfl rfl), Or.inl rfl, by decide +kernel, by decide, fun h => absurd h (by decide)⟩
set_option maxRecDepth 100000 in
theorem zt_m_89 : zt_mOK (⟨"ColumnVault$Pairs", "make", "(LColumnVault$Sheet;ILColumnVault$Sheet;II)V"⟩, prog_9_method_2_code, 11, none, [], 9, 5, 0, 0, 0, 0) := ⟨(zt_in (j := 4) (k := 16) rfl rfl), rfl, (zt_in (j := 1) (k := 6) rfl rfl), (zt_in (j := 4) (k := 14) rfl rfl), Or.inr (zt_in (j := 4) (k := 15) rfl rfl), by decide +kernel, by decide, fun h => absurd h (by decide)⟩
set_option maxRecDepth 100000 in
theorem zt_m_90 : zt_mOK (⟨"ColumnVault", "holdsRow", "(JI)Z"⟩, prog_1_method_60_code, 3, some (.boolean), [], 12, 2, 0, 1, 99999, 0) := ⟨(zt_in (j := 4) (k := 19) rfl rfl), rfl, (zt_in (j := 1) (k := 1) rfl rfl), (zt_in (j := 4) (k := 18) rfl rfl), Or.inl rfl, by decide +kernel, by decide, fun h => absurd h (by decide)⟩
set_option maxRecDepth 100000 in
theorem zt_m_91 : zt_mOK (⟨"ColumnVault$Pairs", "putRow", "(IJI)V"⟩, prog_9_method_3_code, 6, none, [], 9, 3, 0, 0, 0, 0) := ⟨(zt_in (j := 4) (k := 26) rfl rfl), rfl, (zt_in (j := 1) (k := 6) rfl rfl), (zt_in (j := 4) (k := 25) rfl rfl), Or.inr (zt_in (j := 0) (k := 24) rfl rfl), by decide +kernel, by decide, fun h => absurd h (by decide)⟩
set_option maxRecDepth 100000 in
theorem zt_m_92 : zt_mOK (⟨"ColumnVault$Pairs", "put", "(II)V"⟩, prog_9_method_4_code, 3, none, [], 9, 2, 0, 0, 0, 0) := ⟨(zt_in (j := 4) (k := 30) rfl rfl), rfl, (zt_in (j := 1) (k := 6) rfl rfl), (zt_in (j := 4) (k := 29) rfl rfl), Or.inr (zt_in (j := 0) (k := 25) rfl rfl), by decide +kernel, by decide, fun h => absurd h (by decide)⟩
set_option maxRecDepth 100000 in
theorem zt_m_93 : zt_mOK (⟨"ColumnVault", "pairAt", "(IZ)I"⟩, prog_1_method_26_code, 3, some (.int), [], 12, 2, 0, 0, 0, 0) := ⟨(zt_in (j := 4) (k := 34) rfl rfl), rfl, (zt_in (j := 1) (k := 1) rfl rfl), (zt_in (j := 4) (k := 32) rfl rfl), Or.inr (zt_in (j := 4) (k := 33) rfl rfl), by decide +kernel, by decide, fun h => absurd h (by decide)⟩
set_option maxRecDepth 100000 in
theorem zt_m_94 : zt_mOK (⟨"ColumnVault$Pairs", "rowOf", "(IZ)I"⟩, prog_9_method_5_code, 3, some (.int), [], 9, 2, 0, 0, 0, 0) := ⟨(zt_in (j := 4) (k := 39) rfl rfl), rfl, (zt_in (j := 1) (k := 6) rfl rfl), (zt_in (j := 4) (k := 37) rfl rfl), Or.inr (zt_in (j := 4) (k := 38) rfl rfl), by decide +kernel, by decide, fun h => absurd h (by decide)⟩
set_option maxRecDepth 100000 in
theorem zt_m_95 : zt_mOK (⟨"ColumnVault", "groupAt", "(II)J"⟩, prog_1_method_29_code, 3, some (.long), [], 12, 2, 0, 0, 0, 0) := ⟨(zt_in (j := 4) (k := 43) rfl rfl), rfl, (zt_in (j := 1) (k := 1) rfl rfl), (zt_in (j := 4) (k := 41) rfl rfl), Or.inr (zt_in (j := 4) (k := 42) rfl rfl), by decide +kernel, by decide, fun h => absurd h (by decide)⟩
set_option maxRecDepth 100000 in
theorem zt_m_96 : zt_mOK (⟨"ColumnVault", "requireGroup", "(I)V"⟩, prog_1_method_46_code, 2, none, [], 12, 1, 0, 0, 0, 0) := ⟨(zt_in (j := 4) (k := 47) rfl rfl), rfl, (zt_in (j := 1) (k := 1) rfl rfl), (zt_in (j := 4) (k := 46) rfl rfl), Or.inr (zt_in (j := 0) (k := 26) rfl rfl), by decide +kernel, by decide, fun h => absurd h (by decide)⟩
set_option maxRecDepth 100000 in
theorem zt_m_97 : zt_mOK (⟨"ColumnVault$Groups", "valueAt", "(I)J"⟩, prog_5_method_6_code, 2, some (.long), [], 5, 1, 0, 0, 0, 0) := ⟨(zt_in (j := 4) (k := 52) rfl rfl), rfl, (zt_in (j := 1) (k := 7) rfl rfl), (zt_in (j := 4) (k := 50) rfl rfl), Or.inr (zt_in (j := 4) (k := 51) rfl rfl), by decide +kernel, by decide, fun h => absurd h (by decide)⟩
set_option maxRecDepth 100000 in
theorem zt_m_98 : zt_mOK (⟨"ColumnVault$Groups", "keyOfGroup", "(I)J"⟩, prog_5_method_5_code, 2, some (.long), [], 5, 1, 0, 0, 0, 0) := ⟨(zt_in (j := 4) (k := 57) rfl rfl), rfl, (zt_in (j := 1) (k := 7) rfl rfl), (zt_in (j := 4) (k := 55) rfl rfl), Or.inr (zt_in (j := 4) (k := 56) rfl rfl), by decide +kernel, by decide, fun h => absurd h (by decide)⟩
set_option maxRecDepth 100000 in
theorem zt_m_99 : zt_mOK (⟨"ColumnVault$Groups", "rowsIn", "(I)J"⟩, prog_5_method_7_code, 2, some (.long), [], 5, 1, 0, 0, 0, 0) := ⟨(zt_in (j := 4) (k := 63) rfl rfl), rfl, (zt_in (j := 1) (k := 7) rfl rfl), (zt_in (j := 4) (k := 61) rfl rfl), Or.inr (zt_in (j := 4) (k := 62) rfl rfl), by decide +kernel, by decide, fun h => absurd h (by decide)⟩
set_option maxRecDepth 100000 in
theorem zt_m_100 : zt_mOK (⟨"ColumnVault$Sheet", "firstOf", "(J)I"⟩, prog_10_method_19_code, 4, some (.int), [], 10, 1, 0, 0, 0, 0) := ⟨(zt_in (j := 4) (k := 67) rfl rfl), rfl, (zt_in (j := 1) (k := 3) rfl rfl), (zt_in (j := 4) (k := 65) rfl rfl), Or.inr (zt_in (j := 4) (k := 66) rfl rfl), by decide +kernel, by decide, fun h => absurd h (by decide)⟩
set_option maxRecDepth 100000 in
theorem zt_m_101 : zt_mOK (⟨"ColumnVault$Sheet", "lastOf", "(J)I"⟩, prog_10_method_20_code, 4, some (.int), [], 10, 1, 0, 0, 0, 0) := ⟨(zt_in (j := 4) (k := 72) rfl rfl), rfl, (zt_in (j := 1) (k := 3) rfl rfl), (zt_in (j := 4) (k := 70) rfl rfl), Or.inr (zt_in (j := 4) (k := 71) rfl rfl), by decide +kernel, by decide, fun h => absurd h (by decide)⟩
set_option maxRecDepth 100000 in
theorem zt_m_102 : zt_mOK (⟨"ColumnVault", "total", "(III)J"⟩, prog_1_method_30_code, 5, some (.long), [], 12, 3, 0, 0, 0, 0) := ⟨(zt_in (j := 4) (k := 77) rfl rfl), rfl, (zt_in (j := 1) (k := 1) rfl rfl), (zt_in (j := 4) (k := 75) rfl rfl), Or.inr (zt_in (j := 4) (k := 76) rfl rfl), by decide +kernel, by decide, fun h => absurd h (by decide)⟩
set_option maxRecDepth 100000 in
theorem zt_m_103 : zt_mOK (⟨"ColumnVault", "totalOf", "(LColumnVault$Sheet;IJI)J"⟩, prog_1_method_62_code, 8, some (.long), [], 12, 4, 0, 1, 99999, 0) := ⟨(zt_in (j := 4) (k := 80) rfl rfl), rfl, (zt_in (j := 1) (k := 1) rfl rfl), (zt_in (j := 4) (k := 79) rfl rfl), Or.inl rfl, by decide +kernel, by decide, fun h => absurd h (by decide)⟩
set_option maxRecDepth 100000 in
theorem zt_m_104 : zt_mOK (⟨"ColumnVault$Sheet", "knownRows", "(I)J"⟩, prog_10_method_23_code, 2, some (.long), [], 10, 1, 0, 0, 0, 0) := ⟨(zt_in (j := 4) (k := 85) rfl rfl), rfl, (zt_in (j := 1) (k := 3) rfl rfl), (zt_in (j := 4) (k := 83) rfl rfl), Or.inr (zt_in (j := 4) (k := 84) rfl rfl), by decide +kernel, by decide, fun h => absurd h (by decide)⟩
set_option maxRecDepth 100000 in
theorem zt_m_105 : zt_mOK (⟨"ColumnVault$Sheet", "sumOf", "(IJ)J"⟩, prog_10_method_27_code, 9, some (.long), [], 10, 2, 0, 0, 0, 0) := ⟨(zt_in (j := 4) (k := 91) rfl rfl), rfl, (zt_in (j := 1) (k := 3) rfl rfl), (zt_in (j := 4) (k := 89) rfl rfl), Or.inr (zt_in (j := 4) (k := 90) rfl rfl), by decide +kernel, by decide, fun h => absurd h (by decide)⟩
set_option maxRecDepth 100000 in
theorem zt_m_106 : zt_mOK (⟨"ColumnVault$Sheet", "risingRows", "(IJ)[I"⟩, prog_10_method_28_code, 12, some (.array (.int)), [], 10, 2, 0, 0, 0, 0) := ⟨(zt_in (j := 4) (k := 95) rfl rfl), rfl, (zt_in (j := 1) (k := 3) rfl rfl), (zt_in (j := 4) (k := 93) rfl rfl), Or.inr (zt_in (j := 4) (k := 94) rfl rfl), by decide +kernel, by decide, fun h => absurd h (by decide)⟩
set_option maxRecDepth 100000 in
theorem zt_m_107 : zt_mOK (⟨"ColumnVault$Sheet", "differentKeys", "(I[I)I"⟩, prog_10_method_29_code, 5, some (.int), [], 10, 2, 0, 0, 0, 0) := ⟨(zt_in (j := 4) (k := 100) rfl rfl), rfl, (zt_in (j := 1) (k := 3) rfl rfl), (zt_in (j := 4) (k := 98) rfl rfl), Or.inr (zt_in (j := 4) (k := 99) rfl rfl), by decide +kernel, by decide, fun h => absurd h (by decide)⟩
set_option maxRecDepth 100000 in
theorem zt_m_108 : zt_mOK (⟨"ColumnVault", "rank", "(IIII)I"⟩, prog_1_method_33_code, 8, some (.int), [], 12, 4, 0, 0, 0, 0) := ⟨(zt_in (j := 4) (k := 120) rfl rfl), rfl, (zt_in (j := 1) (k := 1) rfl rfl), (zt_in (j := 4) (k := 118) rfl rfl), Or.inr (zt_in (j := 4) (k := 119) rfl rfl), by decide +kernel, by decide, fun h => absurd h (by decide)⟩
set_option maxRecDepth 100000 in
theorem zt_m_109 : zt_mOK (⟨"ColumnVault", "between", "(IIJJ)I"⟩, prog_1_method_35_code, 9, some (.int), [], 12, 4, 0, 0, 0, 0) := ⟨(zt_in (j := 4) (k := 128) rfl rfl), rfl, (zt_in (j := 1) (k := 1) rfl rfl), (zt_in (j := 4) (k := 126) rfl rfl), Or.inr (zt_in (j := 4) (k := 127) rfl rfl), by decide +kernel, by decide, fun h => absurd h (by decide)⟩
set_option maxRecDepth 100000 in
theorem zt_m_110 : zt_mOK (⟨"ColumnVault", "nearest", "(IIJZ)J"⟩, prog_1_method_36_code, 10, some (.long), [], 12, 4, 0, 0, 0, 0) := ⟨(zt_in (j := 4) (k := 132) rfl rfl), rfl, (zt_in (j := 1) (k := 1) rfl rfl), (zt_in (j := 4) (k := 130) rfl rfl), Or.inr (zt_in (j := 4) (k := 131) rfl rfl), by decide +kernel, by decide, fun h => absurd h (by decide)⟩
set_option maxRecDepth 100000 in
theorem zt_m_111 : zt_mOK (⟨"ColumnVault$Sheet", "nearestKey", "(IJZ)J"⟩, prog_10_method_26_code, 11, some (.long), [], 10, 3, 0, 0, 0, 0) := ⟨(zt_in (j := 4) (k := 136) rfl rfl), rfl, (zt_in (j := 1) (k := 3) rfl rfl), (zt_in (j := 4) (k := 134) rfl rfl), Or.inr (zt_in (j := 4) (k := 135) rfl rfl), by decide +kernel, by decide, fun h => absurd h (by decide)⟩
set_option maxRecDepth 100000 in
theorem zt_m_112 : zt_mOK (⟨"ColumnVault", "type", "(J)I"⟩, prog_1_method_22_code, 3, some (.int), [], 12, 1, 0, 0, 0, 0) := ⟨(zt_in (j := 4) (k := 142) rfl rfl), rfl, (zt_in (j := 1) (k := 1) rfl rfl), (zt_in (j := 4) (k := 140) rfl rfl), Or.inr (zt_in (j := 4) (k := 141) rfl rfl), by decide +kernel, by decide, fun h => absurd h (by decide)⟩
set_option maxRecDepth 100000 in
theorem zt_m_113 : zt_mOK (⟨"ColumnVault", "bytesIn", "(J)I"⟩, prog_1_method_61_code, 4, some (.int), [], 12, 1, 0, 1, 99999, 0) := ⟨(zt_in (j := 4) (k := 145) rfl rfl), rfl, (zt_in (j := 1) (k := 1) rfl rfl), (zt_in (j := 4) (k := 144) rfl rfl), Or.inl rfl, by decide +kernel, by decide, fun h => absurd h (by decide)⟩
set_option maxRecDepth 100000 in
theorem zt_m_114 : zt_mOK (⟨"ColumnVault$FilterText", "appendBytes", "(J)V"⟩, prog_4_method_4_code, 4, none, [], 4, 1, 0, 0, 0, 0) := ⟨(zt_in (j := 4) (k := 150) rfl rfl), rfl, (zt_in (j := 1) (k := 4) rfl rfl), (zt_in (j := 4) (k := 148) rfl rfl), Or.inr (zt_in (j := 4) (k := 149) rfl rfl), by decide +kernel, by decide, fun h => absurd h (by decide)⟩
set_option maxRecDepth 100000 in
theorem zt_m_115 : zt_mOK (⟨"ColumnVault$FilterText", "append", "(I)V"⟩, prog_4_method_3_code, 2, none, [], 4, 1, 0, 0, 0, 0) := ⟨(zt_in (j := 4) (k := 155) rfl rfl), rfl, (zt_in (j := 1) (k := 4) rfl rfl), (zt_in (j := 4) (k := 154) rfl rfl), Or.inr (zt_in (j := 0) (k := 27) rfl rfl), by decide +kernel, by decide, fun h => absurd h (by decide)⟩
set_option maxRecDepth 100000 in
theorem zt_m_116 : zt_mOK (⟨"ColumnVault", "alike", "(III)I"⟩, prog_1_method_37_code, 6, some (.int), [], 12, 3, 0, 0, 0, 0) := ⟨(zt_in (j := 4) (k := 159) rfl rfl), rfl, (zt_in (j := 1) (k := 1) rfl rfl), (zt_in (j := 4) (k := 157) rfl rfl), Or.inr (zt_in (j := 4) (k := 158) rfl rfl), by decide +kernel, by decide, fun h => absurd h (by decide)⟩
set_option maxRecDepth 100000 in
theorem zt_m_117 : zt_mOK (⟨"ColumnVault$Sheet", "hasKindsOf", "(LColumnVault$Sheet;)Z"⟩, prog_10_method_5_code, 4, some (.boolean), [], 10, 1, 0, 0, 0, 0) := ⟨(zt_in (j := 4) (k := 163) rfl rfl), rfl, (zt_in (j := 1) (k := 3) rfl rfl), (zt_in (j := 4) (k := 161) rfl rfl), Or.inr (zt_in (j := 4) (k := 162) rfl rfl), by decide +kernel, by decide, fun h => absurd h (by decide)⟩
set_option maxRecDepth 100000 in
theorem zt_m_118 : zt_mOK (⟨"ColumnVault$Sheet", "rowsLeftBy", "(LColumnVault$Sheet;)I"⟩, prog_10_method_34_code, 7, some (.int), [], 10, 1, 0, 0, 0, 0) := ⟨(zt_in (j := 4) (k := 168) rfl rfl), rfl, (zt_in (j := 1) (k := 3) rfl rfl), (zt_in (j := 4) (k := 166) rfl rfl), Or.inr (zt_in (j := 4) (k := 167) rfl rfl), by decide +kernel, by decide, fun h => absurd h (by decide)⟩
set_option maxRecDepth 100000 in
theorem zt_m_119 : zt_mOK (⟨"ColumnVault$Sheet", "chosenAlike", "(ILColumnVault$Sheet;)J"⟩, prog_10_method_31_code, 6, some (.long), [], 10, 2, 0, 0, 0, 0) := ⟨(zt_in (j := 4) (k := 172) rfl rfl), rfl, (zt_in (j := 1) (k := 3) rfl rfl), (zt_in (j := 4) (k := 171) rfl rfl), Or.inr (zt_in (j := 0) (k := 28) rfl rfl), by decide +kernel, by decide, fun h => absurd h (by decide)⟩
set_option maxRecDepth 100000 in
theorem zt_m_120 : zt_mOK (⟨"ColumnVault$Sheet", "isAlike", "(ILColumnVault$Sheet;I)Z"⟩, prog_10_method_30_code, 5, some (.boolean), [], 10, 3, 0, 0, 0, 0) := ⟨(zt_in (j := 4) (k := 176) rfl rfl), rfl, (zt_in (j := 1) (k := 3) rfl rfl), (zt_in (j := 4) (k := 175) rfl rfl), Or.inr (zt_in (j := 0) (k := 29) rfl rfl), by decide +kernel, by decide, fun h => absurd h (by decide)⟩
set_option maxRecDepth 100000 in
theorem zt_m_121 : zt_mOK (⟨"ColumnVault$Sheet", "differentRows", "()J"⟩, prog_10_method_32_code, 4, some (.long), [], 10, 0, 0, 0, 0, 0) := ⟨(zt_in (j := 4) (k := 181) rfl rfl), rfl, (zt_in (j := 1) (k := 3) rfl rfl), (zt_in (j := 4) (k := 179) rfl rfl), Or.inr (zt_in (j := 4) (k := 180) rfl rfl), by decide +kernel, by decide, fun h => absurd h (by decide)⟩
set_option maxRecDepth 100000 in
theorem zt_m_122 : zt_mOK (⟨"ColumnVault$Sheet", "differentRowsOnlyHere", "(LColumnVault$Sheet;)I"⟩, prog_10_method_33_code, 6, some (.int), [], 10, 1, 0, 0, 0, 0) := ⟨(zt_in (j := 4) (k := 185) rfl rfl), rfl, (zt_in (j := 1) (k := 3) rfl rfl), (zt_in (j := 4) (k := 183) rfl rfl), Or.inr (zt_in (j := 4) (k := 184) rfl rfl), by decide +kernel, by decide, fun h => absurd h (by decide)⟩
set_option maxRecDepth 100000 in
theorem zt_m_123 : zt_mOK (⟨"ColumnVault", "groupTotal", "(III)J"⟩, prog_1_method_31_code, 4, some (.long), [], 12, 3, 0, 0, 0, 0) := ⟨(zt_in (j := 4) (k := 191) rfl rfl), rfl, (zt_in (j := 1) (k := 1) rfl rfl), (zt_in (j := 4) (k := 189) rfl rfl), Or.inr (zt_in (j := 4) (k := 190) rfl rfl), by decide +kernel, by decide, fun h => absurd h (by decide)⟩
set_option maxRecDepth 100000 in
theorem zt_m_124 : zt_mOK (⟨"ColumnVault", "running", "(III)J"⟩, prog_1_method_32_code, 5, some (.long), [], 12, 3, 0, 0, 0, 0) := ⟨(zt_in (j := 4) (k := 195) rfl rfl), rfl, (zt_in (j := 1) (k := 1) rfl rfl), (zt_in (j := 4) (k := 193) rfl rfl), Or.inr (zt_in (j := 4) (k := 194) rfl rfl), by decide +kernel, by decide, fun h => absurd h (by decide)⟩
set_option maxRecDepth 100000 in
theorem zt_m_125 : zt_mOK (⟨"ColumnVault", "requireNumbers", "(LColumnVault$Sheet;I)V"⟩, prog_1_method_51_code, 2, none, [], 12, 2, 0, 1, 99999, 0) := ⟨(zt_in (j := 4) (k := 198) rfl rfl), rfl, (zt_in (j := 1) (k := 1) rfl rfl), (zt_in (j := 4) (k := 197) rfl rfl), Or.inl rfl, by decide +kernel, by decide, fun h => absurd h (by decide)⟩
set_option maxRecDepth 100000 in
theorem zt_m_126 : zt_mOK (⟨"ColumnVault$Sheet", "rowsUpTo", "(I)J"⟩, prog_10_method_21_code, 5, some (.long), [], 10, 1, 0, 0, 0, 0) := ⟨(zt_in (j := 4) (k := 203) rfl rfl), rfl, (zt_in (j := 1) (k := 3) rfl rfl), (zt_in (j := 4) (k := 201) rfl rfl), Or.inr (zt_in (j := 4) (k := 202) rfl rfl), by decide +kernel, by decide, fun h => absurd h (by decide)⟩
set_option maxRecDepth 100000 in
theorem zt_m_127 : zt_mOK (⟨"ColumnVaultLaw", "draws", "(LColumnVault;[III)V"⟩, method_10_code, 9, none, [], 17, 4, 0, 1, 99999, 0) := ⟨(zt_in (j := 4) (k := 210) rfl rfl), rfl, (zt_in (j := 1) (k := 0) rfl rfl), (zt_in (j := 4) (k := 209) rfl rfl), Or.inl rfl, by decide +kernel, by decide, fun h => absurd h (by decide)⟩
set_option maxRecDepth 100000 in
theorem zt_m_128 : zt_mOK (⟨"ColumnVault", "kind", "(II)I"⟩, prog_1_method_9_code, 3, some (.int), [], 12, 2, 0, 0, 0, 0) := ⟨(zt_in (j := 4) (k := 214) rfl rfl), rfl, (zt_in (j := 1) (k := 1) rfl rfl), (zt_in (j := 4) (k := 212) rfl rfl), Or.inr (zt_in (j := 4) (k := 213) rfl rfl), by decide +kernel, by decide, fun h => absurd h (by decide)⟩
set_option maxRecDepth 100000 in
theorem zt_m_129 : zt_mOK (⟨"ColumnVaultLaw", "value", "([II)J"⟩, method_7_code, 2, some (.long), [], 17, 2, 0, 1, 99999, 0) := ⟨(zt_in (j := 4) (k := 217) rfl rfl), rfl, (zt_in (j := 1) (k := 0) rfl rfl), (zt_in (j := 4) (k := 216) rfl rfl), Or.inl rfl, by decide +kernel, by decide, fun h => absurd h (by decide)⟩
set_option maxRecDepth 100000 in
theorem zt_m_130 : zt_mOK (⟨"ColumnVaultLaw", "text", "([I)Ljava/lang/String;"⟩, method_4_code, 3, some (.object "java/lang/String"), [], 17, 1, 0, 1, 99999, 0) := ⟨(zt_in (j := 4) (k := 220) rfl rfl), rfl, (zt_in (j := 1) (k := 0) rfl rfl), (zt_in (j := 4) (k := 219) rfl rfl), Or.inl rfl, by decide +kernel, by decide, fun h => absurd h (by decide)⟩
set_option maxRecDepth 100000 in
theorem zt_m_131 : zt_mOK (⟨"java/lang/StringBuilder", "<init>", "()V"⟩, prog_32_method_1_code, 1, none, [], 1, 0, 0, 2, 99999, 0) := ⟨(zt_in (j := 4) (k := 225) rfl rfl), rfl, (zt_in (j := 1) (k := 23) rfl rfl), (zt_in (j := 4) (k := 224) rfl rfl), Or.inl rfl, by decide +kernel, by decide, fun _ => rfl⟩
set_option maxRecDepth 100000 in
theorem zt_m_132 : zt_mOK (⟨"java/lang/AbstractStringBuilder", "<init>", "(I)V"⟩, prog_17_method_2_code, 2, none, [], 20, 1, 0, 2, 99999, 0) := ⟨(zt_in (j := 4) (k := 228) rfl rfl), rfl, (zt_in (j := 1) (k := 22) rfl rfl), (zt_in (j := 4) (k := 227) rfl rfl), Or.inl rfl, by decide +kernel, by decide, fun _ => rfl⟩
set_option maxRecDepth 100000 in
theorem zt_m_133 : zt_mOK (⟨"java/lang/StringUTF16", "newBytesFor", "(I)[B"⟩, prog_34_method_2_code, 1, some (.array (.byte)), [], 21, 1, 0, 1, 99999, 0) := ⟨(zt_in (j := 4) (k := 234) rfl rfl), rfl, (zt_in (j := 1) (k := 25) rfl rfl), (zt_in (j := 4) (k := 233) rfl rfl), Or.inl rfl, by decide +kernel, by decide, fun h => absurd h (by decide)⟩
set_option maxRecDepth 100000 in
theorem zt_m_134 : zt_mOK (⟨"java/lang/StringUTF16", "newBytesLength", "(I)I"⟩, prog_34_method_3_code, 1, some (.int), [], 21, 1, 0, 1, 99999, 0) := ⟨(zt_in (j := 4) (k := 237) rfl rfl), rfl, (zt_in (j := 1) (k := 25) rfl rfl), (zt_in (j := 4) (k := 236) rfl rfl), Or.inl rfl, by decide +kernel, by decide, fun h => absurd h (by decide)⟩
set_option maxRecDepth 100000 in
theorem zt_m_135 : zt_mOK (⟨"java/lang/StringBuilder", "append", "(C)Ljava/lang/StringBuilder;"⟩, prog_32_method_14_code, 2, some (.object "java/lang/StringBuilder"), [], 1, 1, 0, 0, 0, 0) := ⟨(zt_in (j := 5) (k := 15) rfl rfl), rfl, (zt_in (j := 1) (k := 23) rfl rfl), (zt_in (j := 5) (k := 13) rfl rfl), Or.inr (zt_in (j := 5) (k := 14) rfl rfl), by decide +kernel, by decide, fun h => absurd h (by decide)⟩
set_option maxRecDepth 100000 in
theorem zt_m_136 : zt_mOK (⟨"java/lang/AbstractStringBuilder", "append", "(C)Ljava/lang/AbstractStringBuilder;"⟩, prog_17_method_31_code, 2, some (.object "java/lang/AbstractStringBuilder"), [], 20, 1, 0, 0, 99999, 0) := ⟨(zt_in (j := 5) (k := 18) rfl rfl), rfl, (zt_in (j := 1) (k := 22) rfl rfl), (zt_in (j := 5) (k := 17) rfl rfl), Or.inl rfl, by decide +kernel, by decide, fun h => absurd h (by decide)⟩
set_option maxRecDepth 100000 in
theorem zt_m_137 : zt_mOK (⟨"java/lang/AbstractStringBuilder", "ensureCapacityInternal", "(I)V"⟩, prog_17_method_9_code, 3, none, [], 20, 1, 0, 0, 99999, 0) := ⟨(zt_in (j := 5) (k := 22) rfl rfl), rfl, (zt_in (j := 1) (k := 22) rfl rfl), (zt_in (j := 5) (k := 21) rfl rfl), Or.inl rfl, by decide +kernel, by decide, fun h => absurd h (by decide)⟩
set_option maxRecDepth 100000 in
theorem zt_m_138 : zt_mOK (⟨"java/lang/AbstractStringBuilder", "newCapacity", "(I)I"⟩, prog_17_method_10_code, 6, some (.int), [], 20, 1, 0, 0, 99999, 0) := ⟨(zt_in (j := 5) (k := 26) rfl rfl), rfl, (zt_in (j := 1) (k := 22) rfl rfl), (zt_in (j := 5) (k := 25) rfl rfl), Or.inl rfl, by decide +kernel, by decide, fun h => absurd h (by decide)⟩
set_option maxRecDepth 100000 in
theorem zt_m_139 : zt_mOK (⟨"jdk/internal/util/ArraysSupport", "newLength", "(III)I"⟩, prog_43_method_27_code, 4, some (.int), [], 22, 3, 0, 1, 99999, 0) := ⟨(zt_in (j := 5) (k := 29) rfl rfl), rfl, (zt_in (j := 1) (k := 26) rfl rfl), (zt_in (j := 5) (k := 28) rfl rfl), Or.inl rfl, by decide +kernel, by decide, fun h => absurd h (by decide)⟩
set_option maxRecDepth 100000 in
theorem zt_m_140 : zt_mOK (⟨"jdk/internal/util/ArraysSupport", "hugeLength", "(II)I"⟩, prog_43_method_28_code, 3, some (.int), [], 22, 2, 0, 1, 99999, 0) := ⟨(zt_in (j := 5) (k := 34) rfl rfl), rfl, (zt_in (j := 1) (k := 26) rfl rfl), (zt_in (j := 5) (k := 33) rfl rfl), Or.inl rfl, by decide +kernel, by decide, fun h => absurd h (by decide)⟩
set_option maxRecDepth 100000 in
theorem zt_m_141 : zt_mOK (⟨"java/util/Arrays", "copyOf", "([BI)[B"⟩, prog_39_method_121_code, 3, some (.array (.byte)), [], 23, 2, 0, 1, 99999, 0) := ⟨(zt_in (j := 5) (k := 38) rfl rfl), rfl, (zt_in (j := 1) (k := 27) rfl rfl), (zt_in (j := 5) (k := 37) rfl rfl), Or.inl rfl, by decide +kernel, by decide, fun h => absurd h (by decide)⟩
set_option maxRecDepth 100000 in
theorem zt_m_142 : zt_mOK (⟨"java/lang/Math", "min", "(II)I"⟩, prog_28_method_69_code, 2, some (.int), [], 19, 2, 0, 1, 99999, 0) := ⟨(zt_in (j := 5) (k := 48) rfl rfl), rfl, (zt_in (j := 1) (k := 17) rfl rfl), (zt_in (j := 5) (k := 47) rfl rfl), Or.inl rfl, by decide +kernel, by decide, fun h => absurd h (by decide)⟩
set_option maxRecDepth 100000 in
theorem zt_m_143 : zt_mOK (⟨"java/lang/AbstractStringBuilder", "isLatin1", "()Z"⟩, prog_17_method_68_code, 1, some (.boolean), [], 20, 0, 0, 0, 99999, 0) := ⟨(zt_in (j := 5) (k := 54) rfl rfl), rfl, (zt_in (j := 1) (k := 22) rfl rfl), (zt_in (j := 5) (k := 51) rfl rfl), Or.inl rfl, by decide +kernel, by decide, fun h => absurd h (by decide)⟩
set_option maxRecDepth 100000 in
theorem zt_m_144 : zt_mOK (⟨"java/lang/StringLatin1", "canEncode", "(C)Z"⟩, prog_33_method_3_code, 1, some (.boolean), [], 24, 1, 0, 1, 99999, 0) := ⟨(zt_in (j := 5) (k := 57) rfl rfl), rfl, (zt_in (j := 1) (k := 28) rfl rfl), (zt_in (j := 5) (k := 56) rfl rfl), Or.inl rfl, by decide +kernel, by decide, fun h => absurd h (by decide)⟩
set_option maxRecDepth 100000 in
theorem zt_m_145 : zt_mOK (⟨"java/lang/AbstractStringBuilder", "inflate", "()V"⟩, prog_17_method_11_code, 2, none, [], 20, 0, 0, 0, 99999, 0) := ⟨(zt_in (j := 5) (k := 61) rfl rfl), rfl, (zt_in (j := 1) (k := 22) rfl rfl), (zt_in (j := 5) (k := 60) rfl rfl), Or.inl rfl, by decide +kernel, by decide, fun h => absurd h (by decide)⟩
set_option maxRecDepth 100000 in
theorem zt_m_146 : zt_mOK (⟨"java/lang/StringLatin1", "inflate", "([BI[BII)V"⟩, prog_33_method_50_code, 5, none, [], 24, 5, 0, 1, 99999, 0) := ⟨(zt_in (j := 5) (k := 64) rfl rfl), rfl, (zt_in (j := 1) (k := 28) rfl rfl), (zt_in (j := 5) (k := 63) rfl rfl), Or.inl rfl, by decide +kernel, by decide, fun h => absurd h (by decide)⟩
set_option maxRecDepth 100000 in
theorem zt_m_147 : zt_mOK (⟨"java/lang/StringUTF16", "inflate", "([BI[BII)V"⟩, prog_34_method_86_code, 6, none, [], 21, 5, 0, 1, 99999, 0) := ⟨(zt_in (j := 5) (k := 67) rfl rfl), rfl, (zt_in (j := 1) (k := 25) rfl rfl), (zt_in (j := 5) (k := 66) rfl rfl), Or.inl rfl, by decide +kernel, by decide, fun h => absurd h (by decide)⟩
set_option maxRecDepth 100000 in
theorem zt_m_148 : zt_mOK (⟨"java/lang/StringUTF16", "checkBoundsOffCount", "(II[B)V"⟩, prog_34_method_94_code, 3, none, [], 21, 3, 0, 1, 99999, 0) := ⟨(zt_in (j := 5) (k := 70) rfl rfl), rfl, (zt_in (j := 1) (k := 25) rfl rfl), (zt_in (j := 5) (k := 69) rfl rfl), Or.inl rfl, by decide +kernel, by decide, fun h => absurd h (by decide)⟩
set_option maxRecDepth 100000 in
theorem zt_m_149 : zt_mOK (⟨"java/lang/StringUTF16", "length", "([B)I"⟩, prog_34_method_6_code, 1, some (.int), [], 21, 1, 0, 1, 99999, 0) := ⟨(zt_in (j := 5) (k := 73) rfl rfl), rfl, (zt_in (j := 1) (k := 25) rfl rfl), (zt_in (j := 5) (k := 72) rfl rfl), Or.inl rfl, by decide +kernel, by decide, fun h => absurd h (by decide)⟩
set_option maxRecDepth 100000 in
theorem zt_m_150 : zt_mOK (⟨"java/lang/String", "checkBoundsOffCount", "(III)I"⟩, prog_31_method_157_code, 3, some (.int), [], 0, 3, 0, 1, 99999, 0) := ⟨(zt_in (j := 5) (k := 76) rfl rfl), rfl, (zt_in (j := 1) (k := 24) rfl rfl), (zt_in (j := 5) (k := 75) rfl rfl), Or.inl rfl, by decide +kernel, by decide, fun h => absurd h (by decide)⟩
set_option maxRecDepth 100000 in
theorem zt_m_151 : zt_mOK (⟨"jdk/internal/util/Preconditions", "checkFromIndexSize", "(IIILjava/util/function/BiFunction;)I"⟩, prog_44_method_13_code, 4, some (.int), [], 25, 4, 0, 1, 99999, 0) := ⟨(zt_in (j := 5) (k := 81) rfl rfl), rfl, (zt_in (j := 1) (k := 29) rfl rfl), (zt_in (j := 5) (k := 80) rfl rfl), Or.inl rfl, by decide +kernel, by decide, fun h => absurd h (by decide)⟩
set_option maxRecDepth 100000 in
theorem zt_m_152 : zt_mOK (⟨"java/lang/StringUTF16", "putChar", "([BII)V"⟩, prog_34_method_4_code, 3, none, [], 21, 3, 0, 1, 99999, 0) := ⟨(zt_in (j := 5) (k := 84) rfl rfl), rfl, (zt_in (j := 1) (k := 25) rfl rfl), (zt_in (j := 5) (k := 83) rfl rfl), Or.inl rfl, by decide +kernel, by decide, fun h => absurd h (by decide)⟩
set_option maxRecDepth 100000 in
theorem zt_m_153 : zt_mOK (⟨"java/lang/StringUTF16", "putCharSB", "([BII)V"⟩, prog_34_method_71_code, 3, none, [], 21, 3, 0, 1, 99999, 0) := ⟨(zt_in (j := 5) (k := 93) rfl rfl), rfl, (zt_in (j := 1) (k := 25) rfl rfl), (zt_in (j := 5) (k := 92) rfl rfl), Or.inl rfl, by decide +kernel, by decide, fun h => absurd h (by decide)⟩
set_option maxRecDepth 100000 in
theorem zt_m_154 : zt_mOK (⟨"java/lang/StringUTF16", "checkIndex", "(I[B)V"⟩, prog_34_method_91_code, 2, none, [], 21, 2, 0, 1, 99999, 0) := ⟨(zt_in (j := 5) (k := 96) rfl rfl), rfl, (zt_in (j := 1) (k := 25) rfl rfl), (zt_in (j := 5) (k := 95) rfl rfl), Or.inl rfl, by decide +kernel, by decide, fun h => absurd h (by decide)⟩
set_option maxRecDepth 100000 in
theorem zt_m_155 : zt_mOK (⟨"java/lang/String", "checkIndex", "(II)V"⟩, prog_31_method_155_code, 2, none, [], 0, 2, 0, 1, 99999, 0) := ⟨(zt_in (j := 5) (k := 99) rfl rfl), rfl, (zt_in (j := 1) (k := 24) rfl rfl), (zt_in (j := 5) (k := 98) rfl rfl), Or.inl rfl, by decide +kernel, by decide, fun h => absurd h (by decide)⟩
set_option maxRecDepth 100000 in
theorem zt_m_156 : zt_mOK (⟨"jdk/internal/util/Preconditions", "checkIndex", "(IILjava/util/function/BiFunction;)I"⟩, prog_44_method_11_code, 3, some (.int), [], 25, 3, 0, 1, 99999, 0) := ⟨(zt_in (j := 5) (k := 102) rfl rfl), rfl, (zt_in (j := 1) (k := 29) rfl rfl), (zt_in (j := 5) (k := 101) rfl rfl), Or.inl rfl, by decide +kernel, by decide, fun h => absurd h (by decide)⟩
set_option maxRecDepth 100000 in
theorem zt_m_157 : zt_mOK (⟨"java/lang/StringBuilder", "toString", "()Ljava/lang/String;"⟩, prog_32_method_42_code, 1, some (.object "java/lang/String"), [], 1, 0, 0, 0, 0, 0) := ⟨(zt_in (j := 5) (k := 106) rfl rfl), rfl, (zt_in (j := 1) (k := 23) rfl rfl), (zt_in (j := 5) (k := 104) rfl rfl), Or.inr (zt_in (j := 5) (k := 105) rfl rfl), by decide +kernel, by decide, fun h => absurd h (by decide)⟩
set_option maxRecDepth 100000 in
theorem zt_m_158 : zt_mOK (⟨"java/lang/String", "<init>", "(Ljava/lang/StringBuilder;)V"⟩, prog_31_method_53_code, 2, none, [], 0, 1, 0, 2, 99999, 0) := ⟨(zt_in (j := 5) (k := 111) rfl rfl), rfl, (zt_in (j := 1) (k := 24) rfl rfl), (zt_in (j := 5) (k := 110) rfl rfl), Or.inl rfl, by decide +kernel, by decide, fun _ => rfl⟩
set_option maxRecDepth 100000 in
theorem zt_m_159 : zt_mOK (⟨"java/lang/String", "<init>", "(Ljava/lang/AbstractStringBuilder;Ljava/lang/Void;)V"⟩, prog_31_method_150_code, 5, none, [], 0, 2, 0, 2, 99999, 0) := ⟨(zt_in (j := 5) (k := 114) rfl rfl), rfl, (zt_in (j := 1) (k := 24) rfl rfl), (zt_in (j := 5) (k := 113) rfl rfl), Or.inl rfl, by decide +kernel, by decide, fun _ => rfl⟩
set_option maxRecDepth 100000 in
theorem zt_m_160 : zt_mOK (⟨"java/lang/AbstractStringBuilder", "getValue", "()[B"⟩, prog_17_method_64_code, 1, some (.array (.byte)), [], 20, 0, 0, 0, 99999, 0) := ⟨(zt_in (j := 5) (k := 120) rfl rfl), rfl, (zt_in (j := 1) (k := 22) rfl rfl), (zt_in (j := 5) (k := 117) rfl rfl), Or.inl rfl, by decide +kernel, by decide, fun h => absurd h (by decide)⟩
set_option maxRecDepth 100000 in
theorem zt_m_161 : zt_mOK (⟨"java/lang/StringBuilder", "length", "()I"⟩, prog_32_method_93_code, 1, some (.int), [], 1, 0, 0, 0, 0, 0) := ⟨(zt_in (j := 5) (k := 126) rfl rfl), rfl, (zt_in (j := 1) (k := 23) rfl rfl), (zt_in (j := 5) (k := 125) rfl rfl), Or.inr (zt_in (j := 8) (k := 193) rfl rfl), by decide +kernel, by decide, fun h => absurd h (by decide)⟩
set_option maxRecDepth 100000 in
theorem zt_m_162 : zt_mOK (⟨"java/lang/AbstractStringBuilder", "length", "()I"⟩, prog_17_method_6_code, 1, some (.int), [], 20, 0, 0, 0, 99999, 0) := ⟨(zt_in (j := 5) (k := 128) rfl rfl), rfl, (zt_in (j := 1) (k := 22) rfl rfl), (zt_in (j := 5) (k := 122) rfl rfl), Or.inl rfl, by decide +kernel, by decide, fun h => absurd h (by decide)⟩
set_option maxRecDepth 100000 in
theorem zt_m_163 : zt_mOK (⟨"java/util/Arrays", "copyOfRange", "([BII)[B"⟩, prog_39_method_132_code, 3, some (.array (.byte)), [], 23, 3, 0, 1, 99999, 0) := ⟨(zt_in (j := 5) (k := 132) rfl rfl), rfl, (zt_in (j := 1) (k := 27) rfl rfl), (zt_in (j := 5) (k := 131) rfl rfl), Or.inl rfl, by decide +kernel, by decide, fun h => absurd h (by decide)⟩
set_option maxRecDepth 100000 in
theorem zt_m_164 : zt_mOK (⟨"java/util/Arrays", "copyOfRangeByte", "([BII)[B"⟩, prog_39_method_133_code, 5, some (.array (.byte)), [], 23, 3, 0, 1, 99999, 0) := ⟨(zt_in (j := 5) (k := 135) rfl rfl), rfl, (zt_in (j := 1) (k := 27) rfl rfl), (zt_in (j := 5) (k := 134) rfl rfl), Or.inl rfl, by decide +kernel, by decide, fun h => absurd h (by decide)⟩
set_option maxRecDepth 100000 in
theorem zt_m_165 : zt_mOK (⟨"java/util/Arrays", "checkLength", "(II)V"⟩, prog_39_method_131_code, 2, none, [], 23, 2, 0, 1, 99999, 0) := ⟨(zt_in (j := 5) (k := 138) rfl rfl), rfl, (zt_in (j := 1) (k := 27) rfl rfl), (zt_in (j := 5) (k := 137) rfl rfl), Or.inl rfl, by decide +kernel, by decide, fun h => absurd h (by decide)⟩
set_option maxRecDepth 100000 in
theorem zt_m_166 : zt_mOK (⟨"java/lang/StringBuilder", "append", "(I)Ljava/lang/StringBuilder;"⟩, prog_32_method_15_code, 2, some (.object "java/lang/StringBuilder"), [], 1, 1, 0, 0, 0, 0) := ⟨(zt_in (j := 5) (k := 145) rfl rfl), rfl, (zt_in (j := 1) (k := 23) rfl rfl), (zt_in (j := 5) (k := 143) rfl rfl), Or.inr (zt_in (j := 5) (k := 144) rfl rfl), by decide +kernel, by decide, fun h => absurd h (by decide)⟩
set_option maxRecDepth 100000 in
theorem zt_m_167 : zt_mOK (⟨"java/lang/AbstractStringBuilder", "append", "(I)Ljava/lang/AbstractStringBuilder;"⟩, prog_17_method_32_code, 4, some (.object "java/lang/AbstractStringBuilder"), [], 20, 1, 0, 0, 99999, 0) := ⟨(zt_in (j := 5) (k := 148) rfl rfl), rfl, (zt_in (j := 1) (k := 22) rfl rfl), (zt_in (j := 5) (k := 147) rfl rfl), Or.inl rfl, by decide +kernel, by decide, fun h => absurd h (by decide)⟩
set_option maxRecDepth 100000 in
theorem zt_m_168 : zt_mOK (⟨"java/lang/Integer", "stringSize", "(I)I"⟩, prog_26_method_13_code, 4, some (.int), [], 26, 1, 0, 1, 99999, 0) := ⟨(zt_in (j := 5) (k := 151) rfl rfl), rfl, (zt_in (j := 1) (k := 30) rfl rfl), (zt_in (j := 5) (k := 150) rfl rfl), Or.inl rfl, by decide +kernel, by decide, fun h => absurd h (by decide)⟩
set_option maxRecDepth 100000 in
theorem zt_m_169 : zt_mOK (⟨"java/lang/Integer", "getChars", "(II[B)I"⟩, prog_26_method_12_code, 7, some (.int), [], 26, 3, 0, 1, 99999, 0) := ⟨(zt_in (j := 5) (k := 154) rfl rfl), rfl, (zt_in (j := 1) (k := 30) rfl rfl), (zt_in (j := 5) (k := 153) rfl rfl), Or.inl rfl, by decide +kernel, by decide, fun h => absurd h (by decide)⟩
set_option maxRecDepth 100000 in
theorem zt_m_170 : zt_mOK (⟨"java/lang/StringUTF16", "getChars", "(III[B)I"⟩, prog_34_method_77_code, 5, some (.int), [], 21, 4, 0, 1, 99999, 0) := ⟨(zt_in (j := 5) (k := 161) rfl rfl), rfl, (zt_in (j := 1) (k := 25) rfl rfl), (zt_in (j := 5) (k := 160) rfl rfl), Or.inl rfl, by decide +kernel, by decide, fun h => absurd h (by decide)⟩
set_option maxRecDepth 100000 in
theorem zt_m_171 : zt_mOK (⟨"java/lang/StringUTF16", "checkBoundsBeginEnd", "(II[B)V"⟩, prog_34_method_93_code, 3, none, [], 21, 3, 0, 1, 99999, 0) := ⟨(zt_in (j := 5) (k := 164) rfl rfl), rfl, (zt_in (j := 1) (k := 25) rfl rfl), (zt_in (j := 5) (k := 163) rfl rfl), Or.inl rfl, by decide +kernel, by decide, fun h => absurd h (by decide)⟩
set_option maxRecDepth 100000 in
theorem zt_m_172 : zt_mOK (⟨"java/lang/String", "checkBoundsBeginEnd", "(III)V"⟩, prog_31_method_158_code, 3, none, [], 0, 3, 0, 1, 99999, 0) := ⟨(zt_in (j := 5) (k := 167) rfl rfl), rfl, (zt_in (j := 1) (k := 24) rfl rfl), (zt_in (j := 5) (k := 166) rfl rfl), Or.inl rfl, by decide +kernel, by decide, fun h => absurd h (by decide)⟩
set_option maxRecDepth 100000 in
theorem zt_m_173 : zt_mOK (⟨"jdk/internal/util/Preconditions", "checkFromToIndex", "(IIILjava/util/function/BiFunction;)I"⟩, prog_44_method_12_code, 4, some (.int), [], 25, 4, 0, 1, 99999, 0) := ⟨(zt_in (j := 5) (k := 170) rfl rfl), rfl, (zt_in (j := 1) (k := 29) rfl rfl), (zt_in (j := 5) (k := 169) rfl rfl), Or.inl rfl, by decide +kernel, by decide, fun h => absurd h (by decide)⟩
set_option maxRecDepth 100000 in
theorem zt_m_174 : zt_mOK (⟨"java/lang/StringUTF16", "getChars", "(II[B)I"⟩, prog_34_method_89_code, 7, some (.int), [], 21, 3, 0, 1, 99999, 0) := ⟨(zt_in (j := 5) (k := 173) rfl rfl), rfl, (zt_in (j := 1) (k := 25) rfl rfl), (zt_in (j := 5) (k := 172) rfl rfl), Or.inl rfl, by decide +kernel, by decide, fun h => absurd h (by decide)⟩
set_option maxRecDepth 100000 in
theorem zt_m_175 : zt_mOK (⟨"java/lang/StringBuilder", "append", "(Ljava/lang/String;)Ljava/lang/StringBuilder;"⟩, prog_32_method_7_code, 2, some (.object "java/lang/StringBuilder"), [], 1, 1, 0, 0, 0, 0) := ⟨(zt_in (j := 5) (k := 180) rfl rfl), rfl, (zt_in (j := 1) (k := 23) rfl rfl), (zt_in (j := 5) (k := 178) rfl rfl), Or.inr (zt_in (j := 5) (k := 179) rfl rfl), by decide +kernel, by decide, fun h => absurd h (by decide)⟩
set_option maxRecDepth 100000 in
theorem zt_m_176 : zt_mOK (⟨"java/lang/AbstractStringBuilder", "append", "(Ljava/lang/String;)Ljava/lang/AbstractStringBuilder;"⟩, prog_17_method_22_code, 3, some (.object "java/lang/AbstractStringBuilder"), [], 20, 1, 0, 0, 99999, 0) := ⟨(zt_in (j := 5) (k := 183) rfl rfl), rfl, (zt_in (j := 1) (k := 22) rfl rfl), (zt_in (j := 5) (k := 182) rfl rfl), Or.inl rfl, by decide +kernel, by decide, fun h => absurd h (by decide)⟩
set_option maxRecDepth 100000 in
theorem zt_m_177 : zt_mOK (⟨"java/lang/AbstractStringBuilder", "appendNull", "()Ljava/lang/AbstractStringBuilder;"⟩, prog_17_method_26_code, 3, some (.object "java/lang/AbstractStringBuilder"), [], 20, 0, 0, 0, 99999, 0) := ⟨(zt_in (j := 5) (k := 187) rfl rfl), rfl, (zt_in (j := 1) (k := 22) rfl rfl), (zt_in (j := 5) (k := 186) rfl rfl), Or.inl rfl, by decide +kernel, by decide, fun h => absurd h (by decide)⟩
set_option maxRecDepth 100000 in
theorem zt_m_178 : zt_mOK (⟨"java/lang/StringUTF16", "putCharsAt", "([BICCCC)I"⟩, prog_34_method_81_code, 7, some (.int), [], 21, 6, 0, 1, 99999, 0) := ⟨(zt_in (j := 5) (k := 190) rfl rfl), rfl, (zt_in (j := 1) (k := 25) rfl rfl), (zt_in (j := 5) (k := 189) rfl rfl), Or.inl rfl, by decide +kernel, by decide, fun h => absurd h (by decide)⟩
set_option maxRecDepth 100000 in
theorem zt_m_179 : zt_mOK (⟨"java/lang/String", "length", "()I"⟩, prog_31_method_54_code, 1, some (.int), [], 0, 0, 0, 0, 0, 0) := ⟨(zt_in (j := 5) (k := 194) rfl rfl), rfl, (zt_in (j := 1) (k := 24) rfl rfl), (zt_in (j := 5) (k := 192) rfl rfl), Or.inr (zt_in (j := 5) (k := 193) rfl rfl), by decide +kernel, by decide, fun h => absurd h (by decide)⟩
set_option maxRecDepth 100000 in
theorem zt_m_180 : zt_mOK (⟨"java/lang/String", "coder", "()B"⟩, prog_31_method_152_code, 1, some (.byte), [], 0, 0, 0, 0, 0, 0) := ⟨(zt_in (j := 5) (k := 198) rfl rfl), rfl, (zt_in (j := 1) (k := 24) rfl rfl), (zt_in (j := 5) (k := 196) rfl rfl), Or.inr (zt_in (j := 5) (k := 197) rfl rfl), by decide +kernel, by decide, fun h => absurd h (by decide)⟩
set_option maxRecDepth 100000 in
theorem zt_m_181 : zt_mOK (⟨"java/lang/AbstractStringBuilder", "putStringAt", "(ILjava/lang/String;)V"⟩, prog_17_method_73_code, 3, none, [], 20, 2, 0, 0, 99999, 0) := ⟨(zt_in (j := 5) (k := 203) rfl rfl), rfl, (zt_in (j := 1) (k := 22) rfl rfl), (zt_in (j := 5) (k := 202) rfl rfl), Or.inl rfl, by decide +kernel, by decide, fun h => absurd h (by decide)⟩
set_option maxRecDepth 100000 in
theorem zt_m_182 : zt_mOK (⟨"java/lang/AbstractStringBuilder", "inflateIfNeededFor", "(Ljava/lang/String;)V"⟩, prog_17_method_71_code, 2, none, [], 20, 1, 0, 0, 99999, 0) := ⟨(zt_in (j := 5) (k := 207) rfl rfl), rfl, (zt_in (j := 1) (k := 22) rfl rfl), (zt_in (j := 5) (k := 206) rfl rfl), Or.inl rfl, by decide +kernel, by decide, fun h => absurd h (by decide)⟩
set_option maxRecDepth 100000 in
theorem zt_m_183 : zt_mOK (⟨"java/lang/String", "getBytes", "([BIB)V"⟩, prog_31_method_147_code, 4, none, [], 0, 3, 0, 0, 0, 0) := ⟨(zt_in (j := 5) (k := 212) rfl rfl), rfl, (zt_in (j := 1) (k := 24) rfl rfl), (zt_in (j := 5) (k := 210) rfl rfl), Or.inr (zt_in (j := 5) (k := 211) rfl rfl), by decide +kernel, by decide, fun h => absurd h (by decide)⟩
set_option maxRecDepth 100000 in
theorem zt_m_184 : zt_mOK (⟨"java/lang/StringUTF16", "compress", "([BII)[B"⟩, prog_34_method_17_code, 6, some (.array (.byte)), [], 21, 3, 0, 1, 99999, 0) := ⟨(zt_in (j := 5) (k := 219) rfl rfl), rfl, (zt_in (j := 1) (k := 25) rfl rfl), (zt_in (j := 5) (k := 218) rfl rfl), Or.inl rfl, by decide +kernel, by decide, fun h => absurd h (by decide)⟩
set_option maxRecDepth 100000 in
theorem zt_m_185 : zt_mOK (⟨"java/lang/StringUTF16", "compress", "([BI[BII)I"⟩, prog_34_method_22_code, 7, some (.int), [], 21, 5, 0, 1, 99999, 0) := ⟨(zt_in (j := 5) (k := 222) rfl rfl), rfl, (zt_in (j := 1) (k := 25) rfl rfl), (zt_in (j := 5) (k := 221) rfl rfl), Or.inl rfl, by decide +kernel, by decide, fun h => absurd h (by decide)⟩
set_option maxRecDepth 100000 in
theorem zt_m_186 : zt_mOK (⟨"java/lang/StringUTF16", "getChar", "([BI)C"⟩, prog_34_method_5_code, 2, some (.char), [], 21, 2, 0, 1, 99999, 0) := ⟨(zt_in (j := 5) (k := 225) rfl rfl), rfl, (zt_in (j := 1) (k := 25) rfl rfl), (zt_in (j := 5) (k := 224) rfl rfl), Or.inl rfl, by decide +kernel, by decide, fun h => absurd h (by decide)⟩
set_option maxRecDepth 100000 in
theorem zt_m_187 : zt_mOK (⟨"java/lang/StringUTF16", "coderFromArrayLen", "([BI)B"⟩, prog_34_method_15_code, 2, some (.byte), [], 21, 2, 0, 1, 99999, 0) := ⟨(zt_in (j := 5) (k := 229) rfl rfl), rfl, (zt_in (j := 1) (k := 25) rfl rfl), (zt_in (j := 5) (k := 228) rfl rfl), Or.inl rfl, by decide +kernel, by decide, fun h => absurd h (by decide)⟩
set_option maxRecDepth 100000 in
theorem zt_m_188 : zt_mOK (⟨"ColumnVaultLaw", "code", "(Ljava/lang/String;)J"⟩, method_5_code, 4, some (.long), [], 17, 1, 0, 1, 99999, 0) := ⟨(zt_in (j := 6) (k := 5) rfl rfl), rfl, (zt_in (j := 1) (k := 0) rfl rfl), (zt_in (j := 6) (k := 4) rfl rfl), Or.inl rfl, by decide +kernel, by decide, fun h => absurd h (by decide)⟩
set_option maxRecDepth 100000 in
theorem zt_m_189 : zt_mOK (⟨"java/lang/String", "charAt", "(I)C"⟩, prog_31_method_56_code, 2, some (.char), [], 0, 1, 0, 0, 0, 0) := ⟨(zt_in (j := 6) (k := 11) rfl rfl), rfl, (zt_in (j := 1) (k := 24) rfl rfl), (zt_in (j := 6) (k := 9) rfl rfl), Or.inr (zt_in (j := 6) (k := 10) rfl rfl), by decide +kernel, by decide, fun h => absurd h (by decide)⟩
set_option maxRecDepth 100000 in
theorem zt_m_190 : zt_mOK (⟨"java/lang/String", "isLatin1", "()Z"⟩, prog_31_method_154_code, 1, some (.boolean), [], 0, 0, 0, 0, 0, 0) := ⟨(zt_in (j := 6) (k := 15) rfl rfl), rfl, (zt_in (j := 1) (k := 24) rfl rfl), (zt_in (j := 6) (k := 13) rfl rfl), Or.inr (zt_in (j := 6) (k := 14) rfl rfl), by decide +kernel, by decide, fun h => absurd h (by decide)⟩
set_option maxRecDepth 100000 in
theorem zt_m_191 : zt_mOK (⟨"java/lang/StringLatin1", "charAt", "([BI)C"⟩, prog_33_method_2_code, 2, some (.char), [], 24, 2, 0, 1, 99999, 0) := ⟨(zt_in (j := 6) (k := 18) rfl rfl), rfl, (zt_in (j := 1) (k := 28) rfl rfl), (zt_in (j := 6) (k := 17) rfl rfl), Or.inl rfl, by decide +kernel, by decide, fun h => absurd h (by decide)⟩
set_option maxRecDepth 100000 in
theorem zt_m_192 : zt_mOK (⟨"java/lang/StringUTF16", "charAt", "([BI)C"⟩, prog_34_method_83_code, 2, some (.char), [], 21, 2, 0, 1, 99999, 0) := ⟨(zt_in (j := 6) (k := 22) rfl rfl), rfl, (zt_in (j := 1) (k := 25) rfl rfl), (zt_in (j := 6) (k := 21) rfl rfl), Or.inl rfl, by decide +kernel, by decide, fun h => absurd h (by decide)⟩
set_option maxRecDepth 100000 in
theorem zt_m_193 : zt_mOK (⟨"ColumnVault", "remove", "(II)I"⟩, prog_1_method_6_code, 4, some (.int), [], 12, 2, 0, 0, 0, 0) := ⟨(zt_in (j := 6) (k := 28) rfl rfl), rfl, (zt_in (j := 1) (k := 1) rfl rfl), (zt_in (j := 6) (k := 26) rfl rfl), Or.inr (zt_in (j := 6) (k := 27) rfl rfl), by decide +kernel, by decide, fun h => absurd h (by decide)⟩
set_option maxRecDepth 100000 in
theorem zt_m_194 : zt_mOK (⟨"ColumnVault$Sheet", "dropRow", "(I)V"⟩, prog_10_method_13_code, 4, none, [], 10, 1, 0, 0, 0, 0) := ⟨(zt_in (j := 6) (k := 32) rfl rfl), rfl, (zt_in (j := 1) (k := 3) rfl rfl), (zt_in (j := 6) (k := 30) rfl rfl), Or.inr (zt_in (j := 6) (k := 31) rfl rfl), by decide +kernel, by decide, fun h => absurd h (by decide)⟩
set_option maxRecDepth 100000 in
theorem zt_m_195 : zt_mOK (⟨"ColumnVault$Sheet", "dropFromOrder", "(I)V"⟩, prog_10_method_14_code, 5, none, [], 10, 1, 0, 0, 0, 0) := ⟨(zt_in (j := 6) (k := 36) rfl rfl), rfl, (zt_in (j := 1) (k := 3) rfl rfl), (zt_in (j := 6) (k := 35) rfl rfl), Or.inr (zt_in (j := 0) (k := 30) rfl rfl), by decide +kernel, by decide, fun h => absurd h (by decide)⟩
set_option maxRecDepth 100000 in
theorem zt_m_196 : zt_mOK (⟨"ColumnVaultLaw", "isRemoved", "(LColumnVault;[II)Z"⟩, method_16_code, 13, some (.boolean), [], 17, 3, 0, 1, 99999, 0) := ⟨(zt_in (j := 6) (k := 39) rfl rfl), rfl, (zt_in (j := 1) (k := 0) rfl rfl), (zt_in (j := 6) (k := 38) rfl rfl), Or.inl rfl, by decide +kernel, by decide, fun h => absurd h (by decide)⟩
set_option maxRecDepth 100000 in
theorem zt_m_197 : zt_mOK (⟨"ColumnVaultLaw", "order", "(LColumnVault;I)[I"⟩, method_12_code, 4, some (.array (.int)), [], 17, 2, 0, 1, 99999, 0) := ⟨(zt_in (j := 6) (k := 42) rfl rfl), rfl, (zt_in (j := 1) (k := 0) rfl rfl), (zt_in (j := 6) (k := 41) rfl rfl), Or.inl rfl, by decide +kernel, by decide, fun h => absurd h (by decide)⟩
set_option maxRecDepth 100000 in
theorem zt_m_198 : zt_mOK (⟨"ColumnVaultLaw", "choice", "(LColumnVault;I)[Z"⟩, method_13_code, 4, some (.array (.boolean)), [], 17, 2, 0, 1, 99999, 0) := ⟨(zt_in (j := 6) (k := 45) rfl rfl), rfl, (zt_in (j := 1) (k := 0) rfl rfl), (zt_in (j := 6) (k := 44) rfl rfl), Or.inl rfl, by decide +kernel, by decide, fun h => absurd h (by decide)⟩
set_option maxRecDepth 100000 in
theorem zt_m_199 : zt_mOK (⟨"ColumnVault", "isChosen", "(II)Z"⟩, prog_1_method_15_code, 4, some (.boolean), [], 12, 2, 0, 0, 0, 0) := ⟨(zt_in (j := 6) (k := 49) rfl rfl), rfl, (zt_in (j := 1) (k := 1) rfl rfl), (zt_in (j := 6) (k := 47) rfl rfl), Or.inr (zt_in (j := 6) (k := 48) rfl rfl), by decide +kernel, by decide, fun h => absurd h (by decide)⟩
set_option maxRecDepth 100000 in
theorem zt_m_200 : zt_mOK (⟨"ColumnVaultLaw", "rows", "(LColumnVault;I)[[J"⟩, method_11_code, 5, some (.array (.array (.long))), [], 17, 2, 0, 1, 99999, 0) := ⟨(zt_in (j := 6) (k := 53) rfl rfl), rfl, (zt_in (j := 1) (k := 0) rfl rfl), (zt_in (j := 6) (k := 52) rfl rfl), Or.inl rfl, by decide +kernel, by decide, fun h => absurd h (by decide)⟩
set_option maxRecDepth 100000 in
theorem zt_m_201 : zt_mOK (⟨"ColumnVault", "placeOf", "(II)I"⟩, prog_1_method_14_code, 4, some (.int), [], 12, 2, 0, 0, 0, 0) := ⟨(zt_in (j := 6) (k := 59) rfl rfl), rfl, (zt_in (j := 1) (k := 1) rfl rfl), (zt_in (j := 6) (k := 57) rfl rfl), Or.inr (zt_in (j := 6) (k := 58) rfl rfl), by decide +kernel, by decide, fun h => absurd h (by decide)⟩
set_option maxRecDepth 100000 in
theorem zt_m_202 : zt_mOK (⟨"ColumnVault$Sheet", "placeInOrder", "(I)I"⟩, prog_10_method_16_code, 3, some (.int), [], 10, 1, 0, 0, 0, 0) := ⟨(zt_in (j := 6) (k := 63) rfl rfl), rfl, (zt_in (j := 1) (k := 3) rfl rfl), (zt_in (j := 6) (k := 61) rfl rfl), Or.inr (zt_in (j := 6) (k := 62) rfl rfl), by decide +kernel, by decide, fun h => absurd h (by decide)⟩
set_option maxRecDepth 100000 in
theorem zt_m_203 : zt_mOK (⟨"ColumnVaultLaw", "isSorted", "(LColumnVault;[II)Z"⟩, method_17_code, 19, some (.boolean), [], 17, 3, 0, 1, 99999, 0) := ⟨(zt_in (j := 6) (k := 68) rfl rfl), rfl, (zt_in (j := 1) (k := 0) rfl rfl), (zt_in (j := 6) (k := 67) rfl rfl), Or.inl rfl, by decide +kernel, by decide, fun h => absurd h (by decide)⟩
set_option maxRecDepth 100000 in
theorem zt_m_204 : zt_mOK (⟨"ColumnVault", "sort", "(IIZZ)I"⟩, prog_1_method_12_code, 7, some (.int), [], 12, 4, 0, 0, 0, 0) := ⟨(zt_in (j := 6) (k := 72) rfl rfl), rfl, (zt_in (j := 1) (k := 1) rfl rfl), (zt_in (j := 6) (k := 70) rfl rfl), Or.inr (zt_in (j := 6) (k := 71) rfl rfl), by decide +kernel, by decide, fun h => absurd h (by decide)⟩
set_option maxRecDepth 100000 in
theorem zt_m_205 : zt_mOK (⟨"ColumnVault$Sheet", "orderBy", "(IZZ)V"⟩, prog_10_method_18_code, 9, none, [], 10, 3, 0, 0, 0, 0) := ⟨(zt_in (j := 6) (k := 76) rfl rfl), rfl, (zt_in (j := 1) (k := 3) rfl rfl), (zt_in (j := 6) (k := 74) rfl rfl), Or.inr (zt_in (j := 6) (k := 75) rfl rfl), by decide +kernel, by decide, fun h => absurd h (by decide)⟩
set_option maxRecDepth 100000 in
theorem zt_m_206 : zt_mOK (⟨"ColumnVault", "isAhead", "(JJZZ)Z"⟩, prog_1_method_59_code, 6, some (.boolean), [], 12, 4, 0, 1, 99999, 0) := ⟨(zt_in (j := 6) (k := 79) rfl rfl), rfl, (zt_in (j := 1) (k := 1) rfl rfl), (zt_in (j := 6) (k := 78) rfl rfl), Or.inl rfl, by decide +kernel, by decide, fun h => absurd h (by decide)⟩
set_option maxRecDepth 100000 in
theorem zt_m_207 : zt_mOK (⟨"ColumnVault$Sheet", "placesUnlike", "(LColumnVault$Sheet;)I"⟩, prog_10_method_17_code, 4, some (.int), [], 10, 1, 0, 0, 0, 0) := ⟨(zt_in (j := 6) (k := 83) rfl rfl), rfl, (zt_in (j := 1) (k := 3) rfl rfl), (zt_in (j := 6) (k := 81) rfl rfl), Or.inr (zt_in (j := 6) (k := 82) rfl rfl), by decide +kernel, by decide, fun h => absurd h (by decide)⟩
set_option maxRecDepth 100000 in
theorem zt_m_208 : zt_mOK (⟨"ColumnVaultLaw", "than", "(IJJ)I"⟩, method_8_code, 5, some (.int), [], 17, 3, 0, 1, 99999, 0) := ⟨(zt_in (j := 6) (k := 87) rfl rfl), rfl, (zt_in (j := 1) (k := 0) rfl rfl), (zt_in (j := 6) (k := 86) rfl rfl), Or.inl rfl, by decide +kernel, by decide, fun h => absurd h (by decide)⟩
set_option maxRecDepth 100000 in
theorem zt_m_209 : zt_mOK (⟨"ColumnVaultLaw", "word", "(J)Ljava/lang/String;"⟩, method_6_code, 5, some (.object "java/lang/String"), [], 17, 1, 0, 1, 99999, 0) := ⟨(zt_in (j := 6) (k := 90) rfl rfl), rfl, (zt_in (j := 1) (k := 0) rfl rfl), (zt_in (j := 6) (k := 89) rfl rfl), Or.inl rfl, by decide +kernel, by decide, fun h => absurd h (by decide)⟩
set_option maxRecDepth 100000 in
theorem zt_m_210 : zt_mOK (⟨"java/lang/StringBuilder", "insert", "(IC)Ljava/lang/StringBuilder;"⟩, prog_32_method_30_code, 3, some (.object "java/lang/StringBuilder"), [], 1, 2, 0, 0, 0, 0) := ⟨(zt_in (j := 6) (k := 94) rfl rfl), rfl, (zt_in (j := 1) (k := 23) rfl rfl), (zt_in (j := 6) (k := 92) rfl rfl), Or.inr (zt_in (j := 6) (k := 93) rfl rfl), by decide +kernel, by decide, fun h => absurd h (by decide)⟩
set_option maxRecDepth 100000 in
theorem zt_m_211 : zt_mOK (⟨"java/lang/AbstractStringBuilder", "insert", "(IC)Ljava/lang/AbstractStringBuilder;"⟩, prog_17_method_51_code, 3, some (.object "java/lang/AbstractStringBuilder"), [], 20, 2, 0, 0, 99999, 0) := ⟨(zt_in (j := 6) (k := 97) rfl rfl), rfl, (zt_in (j := 1) (k := 22) rfl rfl), (zt_in (j := 6) (k := 96) rfl rfl), Or.inl rfl, by decide +kernel, by decide, fun h => absurd h (by decide)⟩
set_option maxRecDepth 100000 in
theorem zt_m_212 : zt_mOK (⟨"java/lang/String", "checkOffset", "(II)V"⟩, prog_31_method_156_code, 2, none, [], 0, 2, 0, 1, 99999, 0) := ⟨(zt_in (j := 6) (k := 100) rfl rfl), rfl, (zt_in (j := 1) (k := 24) rfl rfl), (zt_in (j := 6) (k := 99) rfl rfl), Or.inl rfl, by decide +kernel, by decide, fun h => absurd h (by decide)⟩
set_option maxRecDepth 100000 in
theorem zt_m_213 : zt_mOK (⟨"java/lang/AbstractStringBuilder", "shift", "(II)V"⟩, prog_17_method_43_code, 3, none, [], 20, 2, 0, 0, 99999, 0) := ⟨(zt_in (j := 6) (k := 104) rfl rfl), rfl, (zt_in (j := 1) (k := 22) rfl rfl), (zt_in (j := 6) (k := 103) rfl rfl), Or.inl rfl, by decide +kernel, by decide, fun h => absurd h (by decide)⟩
set_option maxRecDepth 100000 in
theorem zt_m_214 : zt_mOK (⟨"java/lang/String", "compareTo", "(Ljava/lang/String;)I"⟩, prog_31_method_71_code, 5, some (.int), [], 0, 1, 0, 0, 0, 0) := ⟨(zt_in (j := 6) (k := 109) rfl rfl), rfl, (zt_in (j := 1) (k := 24) rfl rfl), (zt_in (j := 6) (k := 107) rfl rfl), Or.inr (zt_in (j := 6) (k := 108) rfl rfl), by decide +kernel, by decide, fun h => absurd h (by decide)⟩
set_option maxRecDepth 100000 in
theorem zt_m_215 : zt_mOK (⟨"java/lang/StringLatin1", "compareTo", "([B[B)I"⟩, prog_33_method_14_code, 4, some (.int), [], 24, 2, 0, 1, 99999, 0) := ⟨(zt_in (j := 6) (k := 112) rfl rfl), rfl, (zt_in (j := 1) (k := 28) rfl rfl), (zt_in (j := 6) (k := 111) rfl rfl), Or.inl rfl, by decide +kernel, by decide, fun h => absurd h (by decide)⟩
set_option maxRecDepth 100000 in
theorem zt_m_216 : zt_mOK (⟨"java/lang/StringLatin1", "compareTo", "([B[BII)I"⟩, prog_33_method_15_code, 6, some (.int), [], 24, 4, 0, 1, 99999, 0) := ⟨(zt_in (j := 6) (k := 115) rfl rfl), rfl, (zt_in (j := 1) (k := 28) rfl rfl), (zt_in (j := 6) (k := 114) rfl rfl), Or.inl rfl, by decide +kernel, by decide, fun h => absurd h (by decide)⟩
set_option maxRecDepth 100000 in
theorem zt_m_217 : zt_mOK (⟨"jdk/internal/util/ArraysSupport", "mismatch", "([B[BI)I"⟩, prog_43_method_13_code, 4, some (.int), [], 22, 3, 0, 1, 99999, 0) := ⟨(zt_in (j := 6) (k := 119) rfl rfl), rfl, (zt_in (j := 1) (k := 26) rfl rfl), (zt_in (j := 6) (k := 118) rfl rfl), Or.inl rfl, by decide +kernel, by decide, fun h => absurd h (by decide)⟩
set_option maxRecDepth 100000 in
theorem zt_m_218 : zt_mOK (⟨"jdk/internal/util/ArraysSupport", "vectorizedMismatch", "(Ljava/lang/Object;JLjava/lang/Object;JII)I"⟩, prog_43_method_3_code, 19, some (.int), [], 22, 6, 0, 1, 99999, 0) := ⟨(zt_in (j := 6) (k := 126) rfl rfl), rfl, (zt_in (j := 1) (k := 26) rfl rfl), (zt_in (j := 6) (k := 125) rfl rfl), Or.inl rfl, by decide +kernel, by decide, fun h => absurd h (by decide)⟩
set_option maxRecDepth 100000 in
theorem zt_m_219 : zt_mOK (⟨"jdk/internal/misc/Unsafe", "getLongUnaligned", "(Ljava/lang/Object;J)J"⟩, prog_41_method_334_code, 4, some (.long), [], 27, 2, 0, 0, 0, 0) := ⟨(zt_in (j := 6) (k := 134) rfl rfl), rfl, (zt_in (j := 1) (k := 31) rfl rfl), (zt_in (j := 6) (k := 132) rfl rfl), Or.inr (zt_in (j := 6) (k := 133) rfl rfl), by decide +kernel, by decide, fun h => absurd h (by decide)⟩
set_option maxRecDepth 100000 in
theorem zt_m_220 : zt_mOK (⟨"jdk/internal/misc/Unsafe", "makeLong", "(II)J"⟩, prog_41_method_353_code, 2, some (.long), [], 27, 2, 0, 1, 99999, 0) := ⟨(zt_in (j := 6) (k := 148) rfl rfl), rfl, (zt_in (j := 1) (k := 31) rfl rfl), (zt_in (j := 6) (k := 147) rfl rfl), Or.inl rfl, by decide +kernel, by decide, fun h => absurd h (by decide)⟩
set_option maxRecDepth 100000 in
theorem zt_m_221 : zt_mOK (⟨"jdk/internal/misc/Unsafe", "toUnsignedLong", "(I)J"⟩, prog_41_method_370_code, 1, some (.long), [], 27, 1, 0, 1, 99999, 0) := ⟨(zt_in (j := 6) (k := 151) rfl rfl), rfl, (zt_in (j := 1) (k := 31) rfl rfl), (zt_in (j := 6) (k := 150) rfl rfl), Or.inl rfl, by decide +kernel, by decide, fun h => absurd h (by decide)⟩
set_option maxRecDepth 100000 in
theorem zt_m_222 : zt_mOK (⟨"jdk/internal/misc/Unsafe", "pickPos", "(II)I"⟩, prog_41_method_350_code, 2, some (.int), [], 27, 2, 0, 1, 99999, 0) := ⟨(zt_in (j := 6) (k := 155) rfl rfl), rfl, (zt_in (j := 1) (k := 31) rfl rfl), (zt_in (j := 6) (k := 154) rfl rfl), Or.inl rfl, by decide +kernel, by decide, fun h => absurd h (by decide)⟩
set_option maxRecDepth 100000 in
theorem zt_m_223 : zt_mOK (⟨"jdk/internal/misc/Unsafe", "makeLong", "(SSSS)J"⟩, prog_41_method_352_code, 4, some (.long), [], 27, 4, 0, 1, 99999, 0) := ⟨(zt_in (j := 6) (k := 166) rfl rfl), rfl, (zt_in (j := 1) (k := 31) rfl rfl), (zt_in (j := 6) (k := 165) rfl rfl), Or.inl rfl, by decide +kernel, by decide, fun h => absurd h (by decide)⟩
set_option maxRecDepth 100000 in
theorem zt_m_224 : zt_mOK (⟨"jdk/internal/misc/Unsafe", "toUnsignedLong", "(S)J"⟩, prog_41_method_369_code, 1, some (.long), [], 27, 1, 0, 1, 99999, 0) := ⟨(zt_in (j := 6) (k := 169) rfl rfl), rfl, (zt_in (j := 1) (k := 31) rfl rfl), (zt_in (j := 6) (k := 168) rfl rfl), Or.inl rfl, by decide +kernel, by decide, fun h => absurd h (by decide)⟩
set_option maxRecDepth 100000 in
theorem zt_m_225 : zt_mOK (⟨"jdk/internal/misc/Unsafe", "makeLong", "(BBBBBBBB)J"⟩, prog_41_method_351_code, 8, some (.long), [], 27, 8, 0, 1, 99999, 0) := ⟨(zt_in (j := 6) (k := 178) rfl rfl), rfl, (zt_in (j := 1) (k := 31) rfl rfl), (zt_in (j := 6) (k := 177) rfl rfl), Or.inl rfl, by decide +kernel, by decide, fun h => absurd h (by decide)⟩
set_option maxRecDepth 100000 in
theorem zt_m_226 : zt_mOK (⟨"jdk/internal/misc/Unsafe", "toUnsignedLong", "(B)J"⟩, prog_41_method_368_code, 1, some (.long), [], 27, 1, 0, 1, 99999, 0) := ⟨(zt_in (j := 6) (k := 181) rfl rfl), rfl, (zt_in (j := 1) (k := 31) rfl rfl), (zt_in (j := 6) (k := 180) rfl rfl), Or.inl rfl, by decide +kernel, by decide, fun h => absurd h (by decide)⟩
set_option maxRecDepth 100000 in
theorem zt_m_227 : zt_mOK (⟨"java/lang/Long", "numberOfLeadingZeros", "(J)I"⟩, prog_27_method_48_code, 3, some (.int), [], 18, 1, 0, 1, 99999, 0) := ⟨(zt_in (j := 6) (k := 187) rfl rfl), rfl, (zt_in (j := 1) (k := 20) rfl rfl), (zt_in (j := 6) (k := 186) rfl rfl), Or.inl rfl, by decide +kernel, by decide, fun h => absurd h (by decide)⟩
set_option maxRecDepth 100000 in
theorem zt_m_228 : zt_mOK (⟨"java/lang/Integer", "numberOfLeadingZeros", "(I)I"⟩, prog_26_method_47_code, 2, some (.int), [], 26, 1, 0, 1, 99999, 0) := ⟨(zt_in (j := 6) (k := 190) rfl rfl), rfl, (zt_in (j := 1) (k := 30) rfl rfl), (zt_in (j := 6) (k := 189) rfl rfl), Or.inl rfl, by decide +kernel, by decide, fun h => absurd h (by decide)⟩
set_option maxRecDepth 100000 in
theorem zt_m_229 : zt_mOK (⟨"java/lang/Long", "numberOfTrailingZeros", "(J)I"⟩, prog_27_method_49_code, 3, some (.int), [], 18, 1, 0, 1, 99999, 0) := ⟨(zt_in (j := 6) (k := 196) rfl rfl), rfl, (zt_in (j := 1) (k := 20) rfl rfl), (zt_in (j := 6) (k := 195) rfl rfl), Or.inl rfl, by decide +kernel, by decide, fun h => absurd h (by decide)⟩
set_option maxRecDepth 100000 in
theorem zt_m_230 : zt_mOK (⟨"java/lang/Integer", "numberOfTrailingZeros", "(I)I"⟩, prog_26_method_48_code, 2, some (.int), [], 26, 1, 0, 1, 99999, 0) := ⟨(zt_in (j := 6) (k := 199) rfl rfl), rfl, (zt_in (j := 1) (k := 30) rfl rfl), (zt_in (j := 6) (k := 198) rfl rfl), Or.inl rfl, by decide +kernel, by decide, fun h => absurd h (by decide)⟩
set_option maxRecDepth 100000 in
theorem zt_m_231 : zt_mOK (⟨"jdk/internal/misc/Unsafe", "getIntUnaligned", "(Ljava/lang/Object;J)I"⟩, prog_41_method_336_code, 4, some (.int), [], 27, 2, 0, 0, 0, 0) := ⟨(zt_in (j := 6) (k := 205) rfl rfl), rfl, (zt_in (j := 1) (k := 31) rfl rfl), (zt_in (j := 6) (k := 203) rfl rfl), Or.inr (zt_in (j := 6) (k := 204) rfl rfl), by decide +kernel, by decide, fun h => absurd h (by decide)⟩
set_option maxRecDepth 100000 in
theorem zt_m_232 : zt_mOK (⟨"jdk/internal/misc/Unsafe", "makeInt", "(SS)I"⟩, prog_41_method_354_code, 2, some (.int), [], 27, 2, 0, 1, 99999, 0) := ⟨(zt_in (j := 6) (k := 208) rfl rfl), rfl, (zt_in (j := 1) (k := 31) rfl rfl), (zt_in (j := 6) (k := 207) rfl rfl), Or.inl rfl, by decide +kernel, by decide, fun h => absurd h (by decide)⟩
set_option maxRecDepth 100000 in
theorem zt_m_233 : zt_mOK (⟨"jdk/internal/misc/Unsafe", "toUnsignedInt", "(S)I"⟩, prog_41_method_367_code, 1, some (.int), [], 27, 1, 0, 1, 99999, 0) := ⟨(zt_in (j := 6) (k := 211) rfl rfl), rfl, (zt_in (j := 1) (k := 31) rfl rfl), (zt_in (j := 6) (k := 210) rfl rfl), Or.inl rfl, by decide +kernel, by decide, fun h => absurd h (by decide)⟩
set_option maxRecDepth 100000 in
theorem zt_m_234 : zt_mOK (⟨"jdk/internal/misc/Unsafe", "makeInt", "(BBBB)I"⟩, prog_41_method_355_code, 4, some (.int), [], 27, 4, 0, 1, 99999, 0) := ⟨(zt_in (j := 6) (k := 215) rfl rfl), rfl, (zt_in (j := 1) (k := 31) rfl rfl), (zt_in (j := 6) (k := 214) rfl rfl), Or.inl rfl, by decide +kernel, by decide, fun h => absurd h (by decide)⟩
set_option maxRecDepth 100000 in
theorem zt_m_235 : zt_mOK (⟨"jdk/internal/misc/Unsafe", "toUnsignedInt", "(B)I"⟩, prog_41_method_366_code, 1, some (.int), [], 27, 1, 0, 1, 99999, 0) := ⟨(zt_in (j := 6) (k := 218) rfl rfl), rfl, (zt_in (j := 1) (k := 31) rfl rfl), (zt_in (j := 6) (k := 217) rfl rfl), Or.inl rfl, by decide +kernel, by decide, fun h => absurd h (by decide)⟩
set_option maxRecDepth 100000 in
theorem zt_m_236 : zt_mOK (⟨"java/lang/StringLatin1", "getChar", "([BI)C"⟩, prog_33_method_44_code, 2, some (.char), [], 24, 2, 0, 1, 99999, 0) := ⟨(zt_in (j := 6) (k := 223) rfl rfl), rfl, (zt_in (j := 1) (k := 28) rfl rfl), (zt_in (j := 6) (k := 222) rfl rfl), Or.inl rfl, by decide +kernel, by decide, fun h => absurd h (by decide)⟩
set_option maxRecDepth 100000 in
theorem zt_m_237 : zt_mOK (⟨"java/lang/StringUTF16", "compareTo", "([B[B)I"⟩, prog_34_method_29_code, 4, some (.int), [], 21, 2, 0, 1, 99999, 0) := ⟨(zt_in (j := 6) (k := 226) rfl rfl), rfl, (zt_in (j := 1) (k := 25) rfl rfl), (zt_in (j := 6) (k := 225) rfl rfl), Or.inl rfl, by decide +kernel, by decide, fun h => absurd h (by decide)⟩
set_option maxRecDepth 100000 in
theorem zt_m_238 : zt_mOK (⟨"java/lang/StringUTF16", "compareValues", "([B[BII)I"⟩, prog_34_method_31_code, 8, some (.int), [], 21, 4, 0, 1, 99999, 0) := ⟨(zt_in (j := 6) (k := 229) rfl rfl), rfl, (zt_in (j := 1) (k := 25) rfl rfl), (zt_in (j := 6) (k := 228) rfl rfl), Or.inl rfl, by decide +kernel, by decide, fun h => absurd h (by decide)⟩
set_option maxRecDepth 100000 in
theorem zt_m_239 : zt_mOK (⟨"java/lang/StringLatin1", "compareToUTF16", "([B[B)I"⟩, prog_33_method_16_code, 4, some (.int), [], 24, 2, 0, 1, 99999, 0) := ⟨(zt_in (j := 6) (k := 233) rfl rfl), rfl, (zt_in (j := 1) (k := 28) rfl rfl), (zt_in (j := 6) (k := 232) rfl rfl), Or.inl rfl, by decide +kernel, by decide, fun h => absurd h (by decide)⟩
set_option maxRecDepth 100000 in
theorem zt_m_240 : zt_mOK (⟨"java/lang/StringLatin1", "length", "([B)I"⟩, prog_33_method_5_code, 1, some (.int), [], 24, 1, 0, 1, 99999, 0) := ⟨(zt_in (j := 6) (k := 236) rfl rfl), rfl, (zt_in (j := 1) (k := 28) rfl rfl), (zt_in (j := 6) (k := 235) rfl rfl), Or.inl rfl, by decide +kernel, by decide, fun h => absurd h (by decide)⟩
set_option maxRecDepth 100000 in
theorem zt_m_241 : zt_mOK (⟨"java/lang/StringLatin1", "compareToUTF16Values", "([B[BII)I"⟩, prog_33_method_18_code, 8, some (.int), [], 24, 4, 0, 1, 99999, 0) := ⟨(zt_in (j := 7) (k := 0) rfl rfl), rfl, (zt_in (j := 1) (k := 28) rfl rfl), (zt_in (j := 6) (k := 239) rfl rfl), Or.inl rfl, by decide +kernel, by decide, fun h => absurd h (by decide)⟩
set_option maxRecDepth 100000 in
theorem zt_m_242 : zt_mOK (⟨"java/lang/StringUTF16", "compareToLatin1", "([B[B)I"⟩, prog_34_method_32_code, 2, some (.int), [], 21, 2, 0, 1, 99999, 0) := ⟨(zt_in (j := 7) (k := 4) rfl rfl), rfl, (zt_in (j := 1) (k := 25) rfl rfl), (zt_in (j := 7) (k := 3) rfl rfl), Or.inl rfl, by decide +kernel, by decide, fun h => absurd h (by decide)⟩
set_option maxRecDepth 100000 in
theorem zt_m_243 : zt_mOK (⟨"java/lang/Integer", "signum", "(I)I"⟩, prog_26_method_56_code, 1, some (.int), [], 26, 1, 0, 1, 99999, 0) := ⟨(zt_in (j := 7) (k := 8) rfl rfl), rfl, (zt_in (j := 1) (k := 30) rfl rfl), (zt_in (j := 7) (k := 7) rfl rfl), Or.inl rfl, by decide +kernel, by decide, fun h => absurd h (by decide)⟩
set_option maxRecDepth 100000 in
theorem zt_m_244 : zt_mOK (⟨"java/lang/Long", "compare", "(JJ)I"⟩, prog_27_method_42_code, 4, some (.int), [], 18, 2, 0, 1, 99999, 0) := ⟨(zt_in (j := 7) (k := 11) rfl rfl), rfl, (zt_in (j := 1) (k := 20) rfl rfl), (zt_in (j := 7) (k := 10) rfl rfl), Or.inl rfl, by decide +kernel, by decide, fun h => absurd h (by decide)⟩
set_option maxRecDepth 100000 in
theorem zt_m_245 : zt_mOK (⟨"ColumnVault", "errors", "(I)I"⟩, prog_1_method_38_code, 2, some (.int), [], 12, 1, 0, 0, 0, 0) := ⟨(zt_in (j := 7) (k := 15) rfl rfl), rfl, (zt_in (j := 1) (k := 1) rfl rfl), (zt_in (j := 7) (k := 13) rfl rfl), Or.inr (zt_in (j := 7) (k := 14) rfl rfl), by decide +kernel, by decide, fun h => absurd h (by decide)⟩
set_option maxRecDepth 100000 in
theorem zt_m_246 : zt_mOK (⟨"ColumnVault$Checks", "failuresOf", "(LColumnVault$Sheet;)I"⟩, prog_2_method_2_code, 5, some (.int), [], 2, 1, 0, 0, 0, 0) := ⟨(zt_in (j := 7) (k := 19) rfl rfl), rfl, (zt_in (j := 1) (k := 8) rfl rfl), (zt_in (j := 7) (k := 17) rfl rfl), Or.inr (zt_in (j := 7) (k := 18) rfl rfl), by decide +kernel, by decide, fun h => absurd h (by decide)⟩
set_option maxRecDepth 100000 in
theorem zt_m_247 : zt_mOK (⟨"ColumnVault$Checks", "isInBothOrders", "(LColumnVault$Sheet;II)Z"⟩, prog_2_method_3_code, 5, some (.boolean), [], 2, 3, 0, 0, 0, 0) := ⟨(zt_in (j := 7) (k := 23) rfl rfl), rfl, (zt_in (j := 1) (k := 8) rfl rfl), (zt_in (j := 7) (k := 22) rfl rfl), Or.inr (zt_in (j := 0) (k := 31) rfl rfl), by decide +kernel, by decide, fun h => absurd h (by decide)⟩
set_option maxRecDepth 100000 in
theorem zt_m_248 : zt_mOK (⟨"ColumnVault$Checks", "standsAhead", "(LColumnVault$Sheet;IIII)Z"⟩, prog_2_method_4_code, 10, some (.boolean), [], 2, 5, 0, 0, 0, 0) := ⟨(zt_in (j := 7) (k := 30) rfl rfl), rfl, (zt_in (j := 1) (k := 8) rfl rfl), (zt_in (j := 7) (k := 29) rfl rfl), Or.inr (zt_in (j := 0) (k := 32) rfl rfl), by decide +kernel, by decide, fun h => absurd h (by decide)⟩
set_option maxRecDepth 100000 in
theorem zt_m_249 : zt_mOK (⟨"ColumnVault$Checks", "groupFailures", "(LColumnVault$Sheet;I)I"⟩, prog_2_method_5_code, 6, some (.int), [], 2, 2, 0, 0, 0, 0) := ⟨(zt_in (j := 7) (k := 39) rfl rfl), rfl, (zt_in (j := 1) (k := 8) rfl rfl), (zt_in (j := 7) (k := 38) rfl rfl), Or.inr (zt_in (j := 0) (k := 33) rfl rfl), by decide +kernel, by decide, fun h => absurd h (by decide)⟩
set_option maxRecDepth 100000 in
theorem zt_m_250 : zt_mOK (⟨"ColumnVault$Groups", "make", "(LColumnVault$Sheet;I)V"⟩, prog_5_method_2_code, 4, none, [], 5, 2, 0, 0, 0, 0) := ⟨(zt_in (j := 7) (k := 43) rfl rfl), rfl, (zt_in (j := 1) (k := 7) rfl rfl), (zt_in (j := 7) (k := 41) rfl rfl), Or.inr (zt_in (j := 7) (k := 42) rfl rfl), by decide +kernel, by decide, fun h => absurd h (by decide)⟩
set_option maxRecDepth 100000 in
theorem zt_m_251 : zt_mOK (⟨"ColumnVault$Groups", "put", "(I)V"⟩, prog_5_method_3_code, 5, none, [], 5, 1, 0, 0, 0, 0) := ⟨(zt_in (j := 7) (k := 49) rfl rfl), rfl, (zt_in (j := 1) (k := 7) rfl rfl), (zt_in (j := 7) (k := 48) rfl rfl), Or.inr (zt_in (j := 0) (k := 34) rfl rfl), by decide +kernel, by decide, fun h => absurd h (by decide)⟩
set_option maxRecDepth 100000 in
theorem zt_m_252 : zt_mOK (⟨"ColumnVault$Groups", "open", "(IJ)V"⟩, prog_5_method_4_code, 5, none, [], 5, 2, 0, 0, 0, 0) := ⟨(zt_in (j := 7) (k := 55) rfl rfl), rfl, (zt_in (j := 1) (k := 7) rfl rfl), (zt_in (j := 7) (k := 54) rfl rfl), Or.inr (zt_in (j := 0) (k := 35) rfl rfl), by decide +kernel, by decide, fun h => absurd h (by decide)⟩
set_option maxRecDepth 100000 in
theorem zt_m_253 : zt_mOK (⟨"ColumnVault$Checks", "sumOfGroups", "(I)J"⟩, prog_2_method_6_code, 5, some (.long), [], 2, 1, 0, 0, 0, 0) := ⟨(zt_in (j := 7) (k := 62) rfl rfl), rfl, (zt_in (j := 1) (k := 8) rfl rfl), (zt_in (j := 7) (k := 61) rfl rfl), Or.inr (zt_in (j := 0) (k := 36) rfl rfl), by decide +kernel, by decide, fun h => absurd h (by decide)⟩
set_option maxRecDepth 100000 in
theorem zt_m_254 : zt_mOK (⟨"ColumnVault$Checks", "rangeFailures", "(LColumnVault$Sheet;I)I"⟩, prog_2_method_7_code, 5, some (.int), [], 2, 2, 0, 0, 0, 0) := ⟨(zt_in (j := 7) (k := 67) rfl rfl), rfl, (zt_in (j := 1) (k := 8) rfl rfl), (zt_in (j := 7) (k := 66) rfl rfl), Or.inr (zt_in (j := 0) (k := 37) rfl rfl), by decide +kernel, by decide, fun h => absurd h (by decide)⟩
set_option maxRecDepth 100000 in
theorem zt_m_255 : zt_mOK (⟨"ColumnVault$Checks", "failuresFrom", "(IJ)I"⟩, prog_2_method_8_code, 7, some (.int), [], 2, 2, 0, 0, 0, 0) := ⟨(zt_in (j := 7) (k := 76) rfl rfl), rfl, (zt_in (j := 1) (k := 8) rfl rfl), (zt_in (j := 7) (k := 75) rfl rfl), Or.inr (zt_in (j := 0) (k := 38) rfl rfl), by decide +kernel, by decide, fun h => absurd h (by decide)⟩
set_option maxRecDepth 100000 in
theorem zt_m_256 : zt_mOK (⟨"ColumnVaultLaw", "isFilter", "(LColumnVault;[II)Z"⟩, method_23_code, 12, some (.boolean), [], 17, 3, 0, 1, 99999, 0) := ⟨(zt_in (j := 7) (k := 79) rfl rfl), rfl, (zt_in (j := 1) (k := 0) rfl rfl), (zt_in (j := 7) (k := 78) rfl rfl), Or.inl rfl, by decide +kernel, by decide, fun h => absurd h (by decide)⟩
set_option maxRecDepth 100000 in
theorem zt_m_257 : zt_mOK (⟨"java/lang/StringBuilder", "<init>", "(Ljava/lang/String;)V"⟩, prog_32_method_3_code, 2, none, [], 1, 1, 0, 2, 99999, 0) := ⟨(zt_in (j := 7) (k := 84) rfl rfl), rfl, (zt_in (j := 1) (k := 23) rfl rfl), (zt_in (j := 7) (k := 83) rfl rfl), Or.inl rfl, by decide +kernel, by decide, fun _ => rfl⟩
set_option maxRecDepth 100000 in
theorem zt_m_258 : zt_mOK (⟨"java/lang/AbstractStringBuilder", "<init>", "(Ljava/lang/String;)V"⟩, prog_17_method_3_code, 5, none, [], 20, 1, 0, 2, 99999, 0) := ⟨(zt_in (j := 7) (k := 87) rfl rfl), rfl, (zt_in (j := 1) (k := 22) rfl rfl), (zt_in (j := 7) (k := 86) rfl rfl), Or.inl rfl, by decide +kernel, by decide, fun _ => rfl⟩
set_option maxRecDepth 100000 in
theorem zt_m_259 : zt_mOK (⟨"java/lang/StringBuilder", "append", "(Ljava/lang/String;)Ljava/lang/AbstractStringBuilder;"⟩, prog_32_method_80_code, 2, some (.object "java/lang/AbstractStringBuilder"), [], 1, 1, 0, 0, 99999, 0) := ⟨(zt_in (j := 7) (k := 91) rfl rfl), rfl, (zt_in (j := 1) (k := 23) rfl rfl), (zt_in (j := 7) (k := 90) rfl rfl), Or.inl rfl, by decide +kernel, by decide, fun h => absurd h (by decide)⟩
set_option maxRecDepth 100000 in
theorem zt_m_260 : zt_mOK (⟨"ColumnVaultLaw", "filter", "([ILColumnVault;ILjava/lang/StringBuilder;I[I)[Z"⟩, method_20_code, 13, some (.array (.boolean)), [], 17, 6, 0, 1, 99999, 0) := ⟨(zt_in (j := 7) (k := 95) rfl rfl), rfl, (zt_in (j := 1) (k := 0) rfl rfl), (zt_in (j := 7) (k := 94) rfl rfl), Or.inl rfl, by decide +kernel, by decide, fun h => absurd h (by decide)⟩
set_option maxRecDepth 100000 in
theorem zt_m_261 : zt_mOK (⟨"ColumnVaultLaw", "piece", "([ILColumnVault;ILjava/lang/StringBuilder;I[I)[Z"⟩, method_19_code, 10, some (.array (.boolean)), [], 17, 6, 0, 1, 99999, 0) := ⟨(zt_in (j := 7) (k := 101) rfl rfl), rfl, (zt_in (j := 1) (k := 0) rfl rfl), (zt_in (j := 7) (k := 100) rfl rfl), Or.inl rfl, by decide +kernel, by decide, fun h => absurd h (by decide)⟩
set_option maxRecDepth 100000 in
theorem zt_m_262 : zt_mOK (⟨"ColumnVaultLaw", "test", "([ILColumnVault;ILjava/lang/StringBuilder;[I)[Z"⟩, method_18_code, 16, some (.array (.boolean)), [], 17, 5, 0, 1, 99999, 0) := ⟨(zt_in (j := 7) (k := 108) rfl rfl), rfl, (zt_in (j := 1) (k := 0) rfl rfl), (zt_in (j := 7) (k := 107) rfl rfl), Or.inl rfl, by decide +kernel, by decide, fun h => absurd h (by decide)⟩
set_option maxRecDepth 100000 in
theorem zt_m_263 : zt_mOK (⟨"java/lang/StringBuilder", "append", "(J)Ljava/lang/StringBuilder;"⟩, prog_32_method_16_code, 3, some (.object "java/lang/StringBuilder"), [], 1, 1, 0, 0, 0, 0) := ⟨(zt_in (j := 7) (k := 120) rfl rfl), rfl, (zt_in (j := 1) (k := 23) rfl rfl), (zt_in (j := 7) (k := 118) rfl rfl), Or.inr (zt_in (j := 7) (k := 119) rfl rfl), by decide +kernel, by decide, fun h => absurd h (by decide)⟩
set_option maxRecDepth 100000 in
theorem zt_m_264 : zt_mOK (⟨"java/lang/AbstractStringBuilder", "append", "(J)Ljava/lang/AbstractStringBuilder;"⟩, prog_17_method_33_code, 5, some (.object "java/lang/AbstractStringBuilder"), [], 20, 1, 0, 0, 99999, 0) := ⟨(zt_in (j := 7) (k := 123) rfl rfl), rfl, (zt_in (j := 1) (k := 22) rfl rfl), (zt_in (j := 7) (k := 122) rfl rfl), Or.inl rfl, by decide +kernel, by decide, fun h => absurd h (by decide)⟩
set_option maxRecDepth 100000 in
theorem zt_m_265 : zt_mOK (⟨"java/lang/Long", "stringSize", "(J)I"⟩, prog_27_method_15_code, 6, some (.int), [], 18, 1, 0, 1, 99999, 0) := ⟨(zt_in (j := 7) (k := 126) rfl rfl), rfl, (zt_in (j := 1) (k := 20) rfl rfl), (zt_in (j := 7) (k := 125) rfl rfl), Or.inl rfl, by decide +kernel, by decide, fun h => absurd h (by decide)⟩
set_option maxRecDepth 100000 in
theorem zt_m_266 : zt_mOK (⟨"java/lang/Long", "getChars", "(JI[B)I"⟩, prog_27_method_14_code, 11, some (.int), [], 18, 3, 0, 1, 99999, 0) := ⟨(zt_in (j := 7) (k := 131) rfl rfl), rfl, (zt_in (j := 1) (k := 20) rfl rfl), (zt_in (j := 7) (k := 130) rfl rfl), Or.inl rfl, by decide +kernel, by decide, fun h => absurd h (by decide)⟩
set_option maxRecDepth 100000 in
theorem zt_m_267 : zt_mOK (⟨"java/lang/StringUTF16", "getChars", "(JII[B)I"⟩, prog_34_method_78_code, 6, some (.int), [], 21, 4, 0, 1, 99999, 0) := ⟨(zt_in (j := 7) (k := 138) rfl rfl), rfl, (zt_in (j := 1) (k := 25) rfl rfl), (zt_in (j := 7) (k := 137) rfl rfl), Or.inl rfl, by decide +kernel, by decide, fun h => absurd h (by decide)⟩
set_option maxRecDepth 100000 in
theorem zt_m_268 : zt_mOK (⟨"java/lang/StringUTF16", "getChars", "(JI[B)I"⟩, prog_34_method_90_code, 11, some (.int), [], 21, 3, 0, 1, 99999, 0) := ⟨(zt_in (j := 7) (k := 141) rfl rfl), rfl, (zt_in (j := 1) (k := 25) rfl rfl), (zt_in (j := 7) (k := 140) rfl rfl), Or.inl rfl, by decide +kernel, by decide, fun h => absurd h (by decide)⟩
set_option maxRecDepth 100000 in
theorem zt_m_269 : zt_mOK (⟨"ColumnVaultLaw", "says", "(LColumnVault;Ljava/lang/CharSequence;)V"⟩, method_21_code, 5, none, [], 17, 2, 0, 1, 99999, 0) := ⟨(zt_in (j := 7) (k := 149) rfl rfl), rfl, (zt_in (j := 1) (k := 0) rfl rfl), (zt_in (j := 7) (k := 148) rfl rfl), Or.inl rfl, by decide +kernel, by decide, fun h => absurd h (by decide)⟩
set_option maxRecDepth 100000 in
theorem zt_m_270 : zt_mOK (⟨"ColumnVault", "clearText", "()I"⟩, prog_1_method_23_code, 2, some (.int), [], 12, 0, 0, 0, 0, 0) := ⟨(zt_in (j := 7) (k := 153) rfl rfl), rfl, (zt_in (j := 1) (k := 1) rfl rfl), (zt_in (j := 7) (k := 151) rfl rfl), Or.inr (zt_in (j := 7) (k := 152) rfl rfl), by decide +kernel, by decide, fun h => absurd h (by decide)⟩
set_option maxRecDepth 100000 in
theorem zt_m_271 : zt_mOK (⟨"java/lang/StringBuilder", "charAt", "(I)C"⟩, prog_32_method_88_code, 2, some (.char), [], 1, 1, 0, 0, 99999, 0) := ⟨(zt_in (j := 7) (k := 177) rfl rfl), rfl, (zt_in (j := 1) (k := 23) rfl rfl), (zt_in (j := 7) (k := 175) rfl rfl), Or.inl rfl, by decide +kernel, by decide, fun h => absurd h (by decide)⟩
set_option maxRecDepth 100000 in
theorem zt_m_272 : zt_mOK (⟨"java/lang/AbstractStringBuilder", "charAt", "(I)C"⟩, prog_17_method_14_code, 5, some (.char), [], 20, 1, 0, 0, 99999, 0) := ⟨(zt_in (j := 7) (k := 180) rfl rfl), rfl, (zt_in (j := 1) (k := 22) rfl rfl), (zt_in (j := 7) (k := 179) rfl rfl), Or.inl rfl, by decide +kernel, by decide, fun h => absurd h (by decide)⟩
set_option maxRecDepth 100000 in
theorem zt_m_273 : zt_mOK (⟨"ColumnVault", "errorKind", "(I)I"⟩, prog_1_method_20_code, 3, some (.int), [], 12, 1, 0, 0, 0, 0) := ⟨(zt_in (j := 7) (k := 188) rfl rfl), rfl, (zt_in (j := 1) (k := 1) rfl rfl), (zt_in (j := 7) (k := 186) rfl rfl), Or.inr (zt_in (j := 7) (k := 187) rfl rfl), by decide +kernel, by decide, fun h => absurd h (by decide)⟩
set_option maxRecDepth 100000 in
theorem zt_m_274 : zt_mOK (⟨"ColumnVault", "errorPlace", "(I)I"⟩, prog_1_method_21_code, 3, some (.int), [], 12, 1, 0, 0, 0, 0) := ⟨(zt_in (j := 7) (k := 192) rfl rfl), rfl, (zt_in (j := 1) (k := 1) rfl rfl), (zt_in (j := 7) (k := 190) rfl rfl), Or.inr (zt_in (j := 7) (k := 191) rfl rfl), by decide +kernel, by decide, fun h => absurd h (by decide)⟩
set_option maxRecDepth 100000 in
theorem zt_m_275 : zt_mOK (⟨"ColumnVaultLaw", "size", "([Z)I"⟩, method_14_code, 6, some (.int), [], 17, 1, 0, 1, 99999, 0) := ⟨(zt_in (j := 7) (k := 195) rfl rfl), rfl, (zt_in (j := 1) (k := 0) rfl rfl), (zt_in (j := 7) (k := 194) rfl rfl), Or.inl rfl, by decide +kernel, by decide, fun h => absurd h (by decide)⟩
set_option maxRecDepth 100000 in
theorem zt_m_276 : zt_mOK (⟨"ColumnVault", "reads", "(IZ)I"⟩, prog_1_method_19_code, 3, some (.int), [], 12, 2, 0, 0, 0, 0) := ⟨(zt_in (j := 7) (k := 199) rfl rfl), rfl, (zt_in (j := 1) (k := 1) rfl rfl), (zt_in (j := 7) (k := 197) rfl rfl), Or.inr (zt_in (j := 7) (k := 198) rfl rfl), by decide +kernel, by decide, fun h => absurd h (by decide)⟩
set_option maxRecDepth 100000 in
theorem zt_m_277 : zt_mOK (⟨"ColumnVault", "readsOf", "(LColumnVault$Node;JZI)I"⟩, prog_1_method_63_code, 9, some (.int), [], 12, 4, 0, 1, 99999, 0) := ⟨(zt_in (j := 7) (k := 203) rfl rfl), rfl, (zt_in (j := 1) (k := 1) rfl rfl), (zt_in (j := 7) (k := 202) rfl rfl), Or.inl rfl, by decide +kernel, by decide, fun h => absurd h (by decide)⟩
set_option maxRecDepth 100000 in
theorem zt_m_278 : zt_mOK (⟨"ColumnVaultLaw", "same", "([Z[Z)Z"⟩, method_22_code, 4, some (.boolean), [], 17, 2, 0, 1, 99999, 0) := ⟨(zt_in (j := 7) (k := 206) rfl rfl), rfl, (zt_in (j := 1) (k := 0) rfl rfl), (zt_in (j := 7) (k := 205) rfl rfl), Or.inl rfl, by decide +kernel, by decide, fun h => absurd h (by decide)⟩
set_option maxRecDepth 100000 in
theorem zt_m_279 : zt_mOK (⟨"java/lang/StringBuilder", "append", "(Ljava/lang/Object;)Ljava/lang/StringBuilder;"⟩, prog_32_method_6_code, 2, some (.object "java/lang/StringBuilder"), [], 1, 1, 0, 0, 0, 0) := ⟨(zt_in (j := 7) (k := 211) rfl rfl), rfl, (zt_in (j := 1) (k := 23) rfl rfl), (zt_in (j := 7) (k := 209) rfl rfl), Or.inr (zt_in (j := 7) (k := 210) rfl rfl), by decide +kernel, by decide, fun h => absurd h (by decide)⟩
set_option maxRecDepth 100000 in
theorem zt_m_280 : zt_mOK (⟨"java/lang/String", "valueOf", "(Ljava/lang/Object;)Ljava/lang/String;"⟩, prog_31_method_133_code, 1, some (.object "java/lang/String"), [], 0, 1, 0, 1, 99999, 0) := ⟨(zt_in (j := 7) (k := 214) rfl rfl), rfl, (zt_in (j := 1) (k := 24) rfl rfl), (zt_in (j := 7) (k := 213) rfl rfl), Or.inl rfl, by decide +kernel, by decide, fun h => absurd h (by decide)⟩
set_option maxRecDepth 100000 in
theorem zt_m_281 : zt_mOK (⟨"java/lang/String", "toString", "()Ljava/lang/String;"⟩, prog_31_method_126_code, 1, some (.object "java/lang/String"), [], 0, 0, 0, 0, 99999, 0) := ⟨(zt_in (j := 8) (k := 41) rfl rfl), rfl, (zt_in (j := 1) (k := 24) rfl rfl), (zt_in (j := 8) (k := 40) rfl rfl), Or.inl rfl, by decide +kernel, by decide, fun h => absurd h (by decide)⟩
set_option maxRecDepth 100000 in
theorem zt_m_282 : zt_mOK (⟨"ColumnVault", "turnChoice", "(I)I"⟩, prog_1_method_17_code, 3, some (.int), [], 12, 1, 0, 0, 0, 0) := ⟨(zt_in (j := 8) (k := 47) rfl rfl), rfl, (zt_in (j := 1) (k := 1) rfl rfl), (zt_in (j := 8) (k := 45) rfl rfl), Or.inr (zt_in (j := 8) (k := 46) rfl rfl), by decide +kernel, by decide, fun h => absurd h (by decide)⟩
set_option maxRecDepth 100000 in
theorem zt_m_283 : zt_mOK (⟨"ColumnVaultLaw", "isWrong", "(LColumnVault;[II)Z"⟩, method_24_code, 11, some (.boolean), [], 17, 3, 0, 1, 99999, 0) := ⟨(zt_in (j := 8) (k := 50) rfl rfl), rfl, (zt_in (j := 1) (k := 0) rfl rfl), (zt_in (j := 8) (k := 49) rfl rfl), Or.inl rfl, by decide +kernel, by decide, fun h => absurd h (by decide)⟩
set_option maxRecDepth 100000 in
theorem zt_m_284 : zt_mOK (⟨"ColumnVaultLaw", "isJoined", "(LColumnVault;[III)Z"⟩, method_25_code, 14, some (.boolean), [], 17, 4, 0, 1, 99999, 0) := ⟨(zt_in (j := 8) (k := 80) rfl rfl), rfl, (zt_in (j := 1) (k := 0) rfl rfl), (zt_in (j := 8) (k := 79) rfl rfl), Or.inl rfl, by decide +kernel, by decide, fun h => absurd h (by decide)⟩
set_option maxRecDepth 100000 in
theorem zt_m_285 : zt_mOK (⟨"ColumnVault", "joinErrors", "(IIII)I"⟩, prog_1_method_27_code, 7, some (.int), [], 12, 4, 0, 0, 0, 0) := ⟨(zt_in (j := 8) (k := 84) rfl rfl), rfl, (zt_in (j := 1) (k := 1) rfl rfl), (zt_in (j := 8) (k := 82) rfl rfl), Or.inr (zt_in (j := 8) (k := 83) rfl rfl), by decide +kernel, by decide, fun h => absurd h (by decide)⟩
set_option maxRecDepth 100000 in
theorem zt_m_286 : zt_mOK (⟨"ColumnVault$JoinWays", "<init>", "(LColumnVault$Sheet;ILColumnVault$Sheet;I)V"⟩, prog_7_method_1_code, 5, none, [], 7, 4, 0, 2, 99999, 0) := ⟨(zt_in (j := 8) (k := 89) rfl rfl), rfl, (zt_in (j := 1) (k := 33) rfl rfl), (zt_in (j := 8) (k := 88) rfl rfl), Or.inl rfl, by decide +kernel, by decide, fun _ => rfl⟩
set_option maxRecDepth 100000 in
theorem zt_m_287 : zt_mOK (⟨"ColumnVault$JoinWays", "pairsNotToldByAll", "()I"⟩, prog_7_method_2_code, 9, some (.int), [], 7, 0, 0, 0, 0, 0) := ⟨(zt_in (j := 8) (k := 107) rfl rfl), rfl, (zt_in (j := 1) (k := 33) rfl rfl), (zt_in (j := 8) (k := 105) rfl rfl), Or.inr (zt_in (j := 8) (k := 106) rfl rfl), by decide +kernel, by decide, fun h => absurd h (by decide)⟩
set_option maxRecDepth 100000 in
theorem zt_m_288 : zt_mOK (⟨"ColumnVault$JoinWays", "byMerging", "([I[I)[J"⟩, prog_7_method_3_code, 9, some (.array (.long)), [], 7, 2, 0, 0, 0, 0) := ⟨(zt_in (j := 8) (k := 112) rfl rfl), rfl, (zt_in (j := 1) (k := 33) rfl rfl), (zt_in (j := 8) (k := 111) rfl rfl), Or.inr (zt_in (j := 0) (k := 39) rfl rfl), by decide +kernel, by decide, fun h => absurd h (by decide)⟩
set_option maxRecDepth 100000 in
theorem zt_m_289 : zt_mOK (⟨"ColumnVault$JoinWays", "rowsWithKeyFrom", "([IIJ)J"⟩, prog_7_method_6_code, 8, some (.long), [], 7, 3, 0, 0, 0, 0) := ⟨(zt_in (j := 8) (k := 118) rfl rfl), rfl, (zt_in (j := 1) (k := 33) rfl rfl), (zt_in (j := 8) (k := 117) rfl rfl), Or.inr (zt_in (j := 0) (k := 40) rfl rfl), by decide +kernel, by decide, fun h => absurd h (by decide)⟩
set_option maxRecDepth 100000 in
theorem zt_m_290 : zt_mOK (⟨"ColumnVault$JoinWays", "byLookingUp", "([I)[J"⟩, prog_7_method_4_code, 6, some (.array (.long)), [], 7, 1, 0, 0, 0, 0) := ⟨(zt_in (j := 8) (k := 123) rfl rfl), rfl, (zt_in (j := 1) (k := 33) rfl rfl), (zt_in (j := 8) (k := 122) rfl rfl), Or.inr (zt_in (j := 0) (k := 41) rfl rfl), by decide +kernel, by decide, fun h => absurd h (by decide)⟩
set_option maxRecDepth 100000 in
theorem zt_m_291 : zt_mOK (⟨"ColumnVault$JoinWays", "firstPlaceOf", "([IJ)I"⟩, prog_7_method_5_code, 8, some (.int), [], 7, 2, 0, 0, 0, 0) := ⟨(zt_in (j := 8) (k := 129) rfl rfl), rfl, (zt_in (j := 1) (k := 33) rfl rfl), (zt_in (j := 8) (k := 128) rfl rfl), Or.inr (zt_in (j := 0) (k := 42) rfl rfl), by decide +kernel, by decide, fun h => absurd h (by decide)⟩
set_option maxRecDepth 100000 in
theorem zt_m_292 : zt_mOK (⟨"ColumnVault$JoinWays", "byTrying", "()[J"⟩, prog_7_method_7_code, 6, some (.array (.long)), [], 7, 0, 0, 0, 0, 0) := ⟨(zt_in (j := 8) (k := 133) rfl rfl), rfl, (zt_in (j := 1) (k := 33) rfl rfl), (zt_in (j := 8) (k := 132) rfl rfl), Or.inr (zt_in (j := 0) (k := 43) rfl rfl), by decide +kernel, by decide, fun h => absurd h (by decide)⟩
set_option maxRecDepth 100000 in
theorem zt_m_293 : zt_mOK (⟨"ColumnVaultLaw", "isGrouped", "(LColumnVault;[II)Z"⟩, method_26_code, 23, some (.boolean), [], 17, 3, 0, 1, 99999, 0) := ⟨(zt_in (j := 8) (k := 138) rfl rfl), rfl, (zt_in (j := 1) (k := 0) rfl rfl), (zt_in (j := 8) (k := 137) rfl rfl), Or.inl rfl, by decide +kernel, by decide, fun h => absurd h (by decide)⟩
set_option maxRecDepth 100000 in
theorem zt_m_294 : zt_mOK (⟨"ColumnVault", "group", "(II)I"⟩, prog_1_method_28_code, 3, some (.int), [], 12, 2, 0, 0, 0, 0) := ⟨(zt_in (j := 8) (k := 142) rfl rfl), rfl, (zt_in (j := 1) (k := 1) rfl rfl), (zt_in (j := 8) (k := 140) rfl rfl), Or.inr (zt_in (j := 8) (k := 141) rfl rfl), by decide +kernel, by decide, fun h => absurd h (by decide)⟩
set_option maxRecDepth 100000 in
theorem zt_m_295 : zt_mOK (⟨"ColumnVault", "meanOf", "(II)D"⟩, prog_1_method_39_code, 5, some (.double), [], 12, 2, 0, 0, 0, 0) := ⟨(zt_in (j := 8) (k := 148) rfl rfl), rfl, (zt_in (j := 1) (k := 1) rfl rfl), (zt_in (j := 8) (k := 146) rfl rfl), Or.inr (zt_in (j := 8) (k := 147) rfl rfl), by decide +kernel, by decide, fun h => absurd h (by decide)⟩
set_option maxRecDepth 100000 in
theorem zt_m_296 : zt_mOK (⟨"ColumnVaultLaw", "isTold", "(LColumnVault;[II)Z"⟩, method_27_code, 29, some (.boolean), [], 17, 3, 0, 1, 99999, 0) := ⟨(zt_in (j := 8) (k := 151) rfl rfl), rfl, (zt_in (j := 1) (k := 0) rfl rfl), (zt_in (j := 8) (k := 150) rfl rfl), Or.inl rfl, by decide +kernel, by decide, fun h => absurd h (by decide)⟩
set_option maxRecDepth 100000 in
theorem zt_m_297 : zt_mOK (⟨"ColumnVault", "previous", "(III)I"⟩, prog_1_method_34_code, 6, some (.int), [], 12, 3, 0, 0, 0, 0) := ⟨(zt_in (j := 8) (k := 155) rfl rfl), rfl, (zt_in (j := 1) (k := 1) rfl rfl), (zt_in (j := 8) (k := 153) rfl rfl), Or.inr (zt_in (j := 8) (k := 154) rfl rfl), by decide +kernel, by decide, fun h => absurd h (by decide)⟩
set_option maxRecDepth 100000 in
theorem zt_m_298 : zt_mOK (⟨"ColumnVaultLaw", "areAlike", "(LColumnVault;I)Z"⟩, method_28_code, 4, some (.boolean), [], 17, 2, 0, 1, 99999, 0) := ⟨(zt_in (j := 8) (k := 159) rfl rfl), rfl, (zt_in (j := 1) (k := 0) rfl rfl), (zt_in (j := 8) (k := 158) rfl rfl), Or.inl rfl, by decide +kernel, by decide, fun h => absurd h (by decide)⟩
set_option maxRecDepth 100000 in
theorem zt_m_299 : zt_mOK (⟨"ColumnVaultLaw", "areSets", "(LColumnVault;II)Z"⟩, method_29_code, 6, some (.boolean), [], 17, 3, 0, 1, 99999, 0) := ⟨(zt_in (j := 8) (k := 162) rfl rfl), rfl, (zt_in (j := 1) (k := 0) rfl rfl), (zt_in (j := 8) (k := 161) rfl rfl), Or.inl rfl, by decide +kernel, by decide, fun h => absurd h (by decide)⟩
set_option maxRecDepth 100000 in
theorem zt_m_300 : zt_mOK (⟨"ColumnVaultLaw", "isBack", "(LColumnVault;[I)Z"⟩, method_30_code, 9, some (.boolean), [], 17, 2, 0, 1, 99999, 0) := ⟨(zt_in (j := 8) (k := 165) rfl rfl), rfl, (zt_in (j := 1) (k := 0) rfl rfl), (zt_in (j := 8) (k := 164) rfl rfl), Or.inl rfl, by decide +kernel, by decide, fun h => absurd h (by decide)⟩
set_option maxRecDepth 100000 in
theorem zt_m_301 : zt_mOK (⟨"ColumnVaultLaw", "digest", "(LColumnVault;I)J"⟩, method_15_code, 13, some (.long), [], 17, 2, 0, 1, 99999, 0) := ⟨(zt_in (j := 8) (k := 168) rfl rfl), rfl, (zt_in (j := 1) (k := 0) rfl rfl), (zt_in (j := 8) (k := 167) rfl rfl), Or.inl rfl, by decide +kernel, by decide, fun h => absurd h (by decide)⟩
set_option maxRecDepth 100000 in
theorem zt_m_302 : zt_mOK (⟨"ColumnVaultLaw", "areRefused", "(LColumnVault;[I)Z"⟩, method_31_code, 6, some (.boolean), [], 17, 2, 0, 1, 99999, 0) := ⟨(zt_in (j := 8) (k := 172) rfl rfl), rfl, (zt_in (j := 1) (k := 0) rfl rfl), (zt_in (j := 8) (k := 171) rfl rfl), Or.inl rfl, by decide +kernel, by decide, fun h => absurd h (by decide)⟩
theorem zt_mall0 : ∀ q ∈ zt_m0.tail, zt_mOK q := List.forall_mem_cons.mpr ⟨zt_m_1, List.forall_mem_cons.mpr ⟨zt_m_2, List.forall_mem_cons.mpr ⟨zt_m_3, List.forall_mem_cons.mpr ⟨zt_m_4, List.forall_mem_cons.mpr ⟨zt_m_5, List.forall_mem_cons.mpr ⟨zt_m_6, List.forall_mem_cons.mpr ⟨zt_m_7, List.forall_mem_cons.mpr ⟨zt_m_8, List.forall_mem_cons.mpr ⟨zt_m_9, List.forall_mem_cons.mpr ⟨zt_m_10, List.forall_mem_cons.mpr ⟨zt_m_11, List.forall_mem_cons.mpr ⟨zt_m_12, List.forall_mem_cons.mpr ⟨zt_m_13, List.forall_mem_cons.mpr ⟨zt_m_14, List.forall_mem_cons.mpr ⟨zt_m_15, List.forall_mem_cons.mpr ⟨zt_m_16, List.forall_mem_cons.mpr ⟨zt_m_17, List.forall_mem_cons.mpr ⟨zt_m_18, List.forall_mem_cons.mpr ⟨zt_m_19, List.forall_mem_cons.mpr ⟨zt_m_20, List.forall_mem_cons.mpr ⟨zt_m_21, List.forall_mem_cons.mpr ⟨zt_m_22, List.forall_mem_cons.mpr ⟨zt_m_23, List.forall_mem_cons.mpr ⟨zt_m_24, List.forall_mem_cons.mpr ⟨zt_m_25, List.forall_mem_cons.mpr ⟨zt_m_26, List.forall_mem_cons.mpr ⟨zt_m_27, List.forall_mem_cons.mpr ⟨zt_m_28, List.forall_mem_cons.mpr ⟨zt_m_29, List.forall_mem_cons.mpr ⟨zt_m_30, List.forall_mem_cons.mpr ⟨zt_m_31, List.forall_mem_cons.mpr ⟨zt_m_32, List.forall_mem_cons.mpr ⟨zt_m_33, List.forall_mem_cons.mpr ⟨zt_m_34, List.forall_mem_cons.mpr ⟨zt_m_35, List.forall_mem_cons.mpr ⟨zt_m_36, List.forall_mem_cons.mpr ⟨zt_m_37, List.forall_mem_cons.mpr ⟨zt_m_38, List.forall_mem_cons.mpr ⟨zt_m_39, List.forall_mem_cons.mpr ⟨zt_m_40, List.forall_mem_cons.mpr ⟨zt_m_41, List.forall_mem_cons.mpr ⟨zt_m_42, List.forall_mem_cons.mpr ⟨zt_m_43, List.forall_mem_cons.mpr ⟨zt_m_44, List.forall_mem_cons.mpr ⟨zt_m_45, List.forall_mem_cons.mpr ⟨zt_m_46, List.forall_mem_cons.mpr ⟨zt_m_47, List.forall_mem_cons.mpr ⟨zt_m_48, List.forall_mem_cons.mpr ⟨zt_m_49, List.forall_mem_cons.mpr ⟨zt_m_50, List.forall_mem_cons.mpr ⟨zt_m_51, List.forall_mem_cons.mpr ⟨zt_m_52, List.forall_mem_cons.mpr ⟨zt_m_53, List.forall_mem_cons.mpr ⟨zt_m_54, List.forall_mem_cons.mpr ⟨zt_m_55, List.forall_mem_cons.mpr ⟨zt_m_56, List.forall_mem_cons.mpr ⟨zt_m_57, List.forall_mem_cons.mpr ⟨zt_m_58, List.forall_mem_cons.mpr ⟨zt_m_59, fun _ h => absurd h List.not_mem_nil⟩⟩⟩⟩⟩⟩⟩⟩⟩⟩⟩⟩⟩⟩⟩⟩⟩⟩⟩⟩⟩⟩⟩⟩⟩⟩⟩⟩⟩⟩⟩⟩⟩⟩⟩⟩⟩⟩⟩⟩⟩⟩⟩⟩⟩⟩⟩⟩⟩⟩⟩⟩⟩⟩⟩⟩⟩⟩⟩
theorem zt_mall1 : ∀ q ∈ zt_m1, zt_mOK q := List.forall_mem_cons.mpr ⟨zt_m_60, List.forall_mem_cons.mpr ⟨zt_m_61, List.forall_mem_cons.mpr ⟨zt_m_62, List.forall_mem_cons.mpr ⟨zt_m_63, List.forall_mem_cons.mpr ⟨zt_m_64, List.forall_mem_cons.mpr ⟨zt_m_65, List.forall_mem_cons.mpr ⟨zt_m_66, List.forall_mem_cons.mpr ⟨zt_m_67, List.forall_mem_cons.mpr ⟨zt_m_68, List.forall_mem_cons.mpr ⟨zt_m_69, List.forall_mem_cons.mpr ⟨zt_m_70, List.forall_mem_cons.mpr ⟨zt_m_71, List.forall_mem_cons.mpr ⟨zt_m_72, List.forall_mem_cons.mpr ⟨zt_m_73, List.forall_mem_cons.mpr ⟨zt_m_74, List.forall_mem_cons.mpr ⟨zt_m_75, List.forall_mem_cons.mpr ⟨zt_m_76, List.forall_mem_cons.mpr ⟨zt_m_77, List.forall_mem_cons.mpr ⟨zt_m_78, List.forall_mem_cons.mpr ⟨zt_m_79, List.forall_mem_cons.mpr ⟨zt_m_80, List.forall_mem_cons.mpr ⟨zt_m_81, List.forall_mem_cons.mpr ⟨zt_m_82, List.forall_mem_cons.mpr ⟨zt_m_83, List.forall_mem_cons.mpr ⟨zt_m_84, List.forall_mem_cons.mpr ⟨zt_m_85, List.forall_mem_cons.mpr ⟨zt_m_86, List.forall_mem_cons.mpr ⟨zt_m_87, List.forall_mem_cons.mpr ⟨zt_m_88, List.forall_mem_cons.mpr ⟨zt_m_89, List.forall_mem_cons.mpr ⟨zt_m_90, List.forall_mem_cons.mpr ⟨zt_m_91, List.forall_mem_cons.mpr ⟨zt_m_92, List.forall_mem_cons.mpr ⟨zt_m_93, List.forall_mem_cons.mpr ⟨zt_m_94, List.forall_mem_cons.mpr ⟨zt_m_95, List.forall_mem_cons.mpr ⟨zt_m_96, List.forall_mem_cons.mpr ⟨zt_m_97, List.forall_mem_cons.mpr ⟨zt_m_98, List.forall_mem_cons.mpr ⟨zt_m_99, List.forall_mem_cons.mpr ⟨zt_m_100, List.forall_mem_cons.mpr ⟨zt_m_101, List.forall_mem_cons.mpr ⟨zt_m_102, List.forall_mem_cons.mpr ⟨zt_m_103, List.forall_mem_cons.mpr ⟨zt_m_104, List.forall_mem_cons.mpr ⟨zt_m_105, List.forall_mem_cons.mpr ⟨zt_m_106, List.forall_mem_cons.mpr ⟨zt_m_107, List.forall_mem_cons.mpr ⟨zt_m_108, List.forall_mem_cons.mpr ⟨zt_m_109, List.forall_mem_cons.mpr ⟨zt_m_110, List.forall_mem_cons.mpr ⟨zt_m_111, List.forall_mem_cons.mpr ⟨zt_m_112, List.forall_mem_cons.mpr ⟨zt_m_113, List.forall_mem_cons.mpr ⟨zt_m_114, List.forall_mem_cons.mpr ⟨zt_m_115, List.forall_mem_cons.mpr ⟨zt_m_116, List.forall_mem_cons.mpr ⟨zt_m_117, List.forall_mem_cons.mpr ⟨zt_m_118, List.forall_mem_cons.mpr ⟨zt_m_119, fun _ h => absurd h List.not_mem_nil⟩⟩⟩⟩⟩⟩⟩⟩⟩⟩⟩⟩⟩⟩⟩⟩⟩⟩⟩⟩⟩⟩⟩⟩⟩⟩⟩⟩⟩⟩⟩⟩⟩⟩⟩⟩⟩⟩⟩⟩⟩⟩⟩⟩⟩⟩⟩⟩⟩⟩⟩⟩⟩⟩⟩⟩⟩⟩⟩⟩
theorem zt_mall2 : ∀ q ∈ zt_m2, zt_mOK q := List.forall_mem_cons.mpr ⟨zt_m_120, List.forall_mem_cons.mpr ⟨zt_m_121, List.forall_mem_cons.mpr ⟨zt_m_122, List.forall_mem_cons.mpr ⟨zt_m_123, List.forall_mem_cons.mpr ⟨zt_m_124, List.forall_mem_cons.mpr ⟨zt_m_125, List.forall_mem_cons.mpr ⟨zt_m_126, List.forall_mem_cons.mpr ⟨zt_m_127, List.forall_mem_cons.mpr ⟨zt_m_128, List.forall_mem_cons.mpr ⟨zt_m_129, List.forall_mem_cons.mpr ⟨zt_m_130, List.forall_mem_cons.mpr ⟨zt_m_131, List.forall_mem_cons.mpr ⟨zt_m_132, List.forall_mem_cons.mpr ⟨zt_m_133, List.forall_mem_cons.mpr ⟨zt_m_134, List.forall_mem_cons.mpr ⟨zt_m_135, List.forall_mem_cons.mpr ⟨zt_m_136, List.forall_mem_cons.mpr ⟨zt_m_137, List.forall_mem_cons.mpr ⟨zt_m_138, List.forall_mem_cons.mpr ⟨zt_m_139, List.forall_mem_cons.mpr ⟨zt_m_140, List.forall_mem_cons.mpr ⟨zt_m_141, List.forall_mem_cons.mpr ⟨zt_m_142, List.forall_mem_cons.mpr ⟨zt_m_143, List.forall_mem_cons.mpr ⟨zt_m_144, List.forall_mem_cons.mpr ⟨zt_m_145, List.forall_mem_cons.mpr ⟨zt_m_146, List.forall_mem_cons.mpr ⟨zt_m_147, List.forall_mem_cons.mpr ⟨zt_m_148, List.forall_mem_cons.mpr ⟨zt_m_149, List.forall_mem_cons.mpr ⟨zt_m_150, List.forall_mem_cons.mpr ⟨zt_m_151, List.forall_mem_cons.mpr ⟨zt_m_152, List.forall_mem_cons.mpr ⟨zt_m_153, List.forall_mem_cons.mpr ⟨zt_m_154, List.forall_mem_cons.mpr ⟨zt_m_155, List.forall_mem_cons.mpr ⟨zt_m_156, List.forall_mem_cons.mpr ⟨zt_m_157, List.forall_mem_cons.mpr ⟨zt_m_158, List.forall_mem_cons.mpr ⟨zt_m_159, List.forall_mem_cons.mpr ⟨zt_m_160, List.forall_mem_cons.mpr ⟨zt_m_161, List.forall_mem_cons.mpr ⟨zt_m_162, List.forall_mem_cons.mpr ⟨zt_m_163, List.forall_mem_cons.mpr ⟨zt_m_164, List.forall_mem_cons.mpr ⟨zt_m_165, List.forall_mem_cons.mpr ⟨zt_m_166, List.forall_mem_cons.mpr ⟨zt_m_167, List.forall_mem_cons.mpr ⟨zt_m_168, List.forall_mem_cons.mpr ⟨zt_m_169, List.forall_mem_cons.mpr ⟨zt_m_170, List.forall_mem_cons.mpr ⟨zt_m_171, List.forall_mem_cons.mpr ⟨zt_m_172, List.forall_mem_cons.mpr ⟨zt_m_173, List.forall_mem_cons.mpr ⟨zt_m_174, List.forall_mem_cons.mpr ⟨zt_m_175, List.forall_mem_cons.mpr ⟨zt_m_176, List.forall_mem_cons.mpr ⟨zt_m_177, List.forall_mem_cons.mpr ⟨zt_m_178, List.forall_mem_cons.mpr ⟨zt_m_179, fun _ h => absurd h List.not_mem_nil⟩⟩⟩⟩⟩⟩⟩⟩⟩⟩⟩⟩⟩⟩⟩⟩⟩⟩⟩⟩⟩⟩⟩⟩⟩⟩⟩⟩⟩⟩⟩⟩⟩⟩⟩⟩⟩⟩⟩⟩⟩⟩⟩⟩⟩⟩⟩⟩⟩⟩⟩⟩⟩⟩⟩⟩⟩⟩⟩⟩
theorem zt_mall3 : ∀ q ∈ zt_m3, zt_mOK q := List.forall_mem_cons.mpr ⟨zt_m_180, List.forall_mem_cons.mpr ⟨zt_m_181, List.forall_mem_cons.mpr ⟨zt_m_182, List.forall_mem_cons.mpr ⟨zt_m_183, List.forall_mem_cons.mpr ⟨zt_m_184, List.forall_mem_cons.mpr ⟨zt_m_185, List.forall_mem_cons.mpr ⟨zt_m_186, List.forall_mem_cons.mpr ⟨zt_m_187, List.forall_mem_cons.mpr ⟨zt_m_188, List.forall_mem_cons.mpr ⟨zt_m_189, List.forall_mem_cons.mpr ⟨zt_m_190, List.forall_mem_cons.mpr ⟨zt_m_191, List.forall_mem_cons.mpr ⟨zt_m_192, List.forall_mem_cons.mpr ⟨zt_m_193, List.forall_mem_cons.mpr ⟨zt_m_194, List.forall_mem_cons.mpr ⟨zt_m_195, List.forall_mem_cons.mpr ⟨zt_m_196, List.forall_mem_cons.mpr ⟨zt_m_197, List.forall_mem_cons.mpr ⟨zt_m_198, List.forall_mem_cons.mpr ⟨zt_m_199, List.forall_mem_cons.mpr ⟨zt_m_200, List.forall_mem_cons.mpr ⟨zt_m_201, List.forall_mem_cons.mpr ⟨zt_m_202, List.forall_mem_cons.mpr ⟨zt_m_203, List.forall_mem_cons.mpr ⟨zt_m_204, List.forall_mem_cons.mpr ⟨zt_m_205, List.forall_mem_cons.mpr ⟨zt_m_206, List.forall_mem_cons.mpr ⟨zt_m_207, List.forall_mem_cons.mpr ⟨zt_m_208, List.forall_mem_cons.mpr ⟨zt_m_209, List.forall_mem_cons.mpr ⟨zt_m_210, List.forall_mem_cons.mpr ⟨zt_m_211, List.forall_mem_cons.mpr ⟨zt_m_212, List.forall_mem_cons.mpr ⟨zt_m_213, List.forall_mem_cons.mpr ⟨zt_m_214, List.forall_mem_cons.mpr ⟨zt_m_215, List.forall_mem_cons.mpr ⟨zt_m_216, List.forall_mem_cons.mpr ⟨zt_m_217, List.forall_mem_cons.mpr ⟨zt_m_218, List.forall_mem_cons.mpr ⟨zt_m_219, List.forall_mem_cons.mpr ⟨zt_m_220, List.forall_mem_cons.mpr ⟨zt_m_221, List.forall_mem_cons.mpr ⟨zt_m_222, List.forall_mem_cons.mpr ⟨zt_m_223, List.forall_mem_cons.mpr ⟨zt_m_224, List.forall_mem_cons.mpr ⟨zt_m_225, List.forall_mem_cons.mpr ⟨zt_m_226, List.forall_mem_cons.mpr ⟨zt_m_227, List.forall_mem_cons.mpr ⟨zt_m_228, List.forall_mem_cons.mpr ⟨zt_m_229, List.forall_mem_cons.mpr ⟨zt_m_230, List.forall_mem_cons.mpr ⟨zt_m_231, List.forall_mem_cons.mpr ⟨zt_m_232, List.forall_mem_cons.mpr ⟨zt_m_233, List.forall_mem_cons.mpr ⟨zt_m_234, List.forall_mem_cons.mpr ⟨zt_m_235, List.forall_mem_cons.mpr ⟨zt_m_236, List.forall_mem_cons.mpr ⟨zt_m_237, List.forall_mem_cons.mpr ⟨zt_m_238, List.forall_mem_cons.mpr ⟨zt_m_239, fun _ h => absurd h List.not_mem_nil⟩⟩⟩⟩⟩⟩⟩⟩⟩⟩⟩⟩⟩⟩⟩⟩⟩⟩⟩⟩⟩⟩⟩⟩⟩⟩⟩⟩⟩⟩⟩⟩⟩⟩⟩⟩⟩⟩⟩⟩⟩⟩⟩⟩⟩⟩⟩⟩⟩⟩⟩⟩⟩⟩⟩⟩⟩⟩⟩⟩
theorem zt_mall4 : ∀ q ∈ zt_m4, zt_mOK q := List.forall_mem_cons.mpr ⟨zt_m_240, List.forall_mem_cons.mpr ⟨zt_m_241, List.forall_mem_cons.mpr ⟨zt_m_242, List.forall_mem_cons.mpr ⟨zt_m_243, List.forall_mem_cons.mpr ⟨zt_m_244, List.forall_mem_cons.mpr ⟨zt_m_245, List.forall_mem_cons.mpr ⟨zt_m_246, List.forall_mem_cons.mpr ⟨zt_m_247, List.forall_mem_cons.mpr ⟨zt_m_248, List.forall_mem_cons.mpr ⟨zt_m_249, List.forall_mem_cons.mpr ⟨zt_m_250, List.forall_mem_cons.mpr ⟨zt_m_251, List.forall_mem_cons.mpr ⟨zt_m_252, List.forall_mem_cons.mpr ⟨zt_m_253, List.forall_mem_cons.mpr ⟨zt_m_254, List.forall_mem_cons.mpr ⟨zt_m_255, List.forall_mem_cons.mpr ⟨zt_m_256, List.forall_mem_cons.mpr ⟨zt_m_257, List.forall_mem_cons.mpr ⟨zt_m_258, List.forall_mem_cons.mpr ⟨zt_m_259, List.forall_mem_cons.mpr ⟨zt_m_260, List.forall_mem_cons.mpr ⟨zt_m_261, List.forall_mem_cons.mpr ⟨zt_m_262, List.forall_mem_cons.mpr ⟨zt_m_263, List.forall_mem_cons.mpr ⟨zt_m_264, List.forall_mem_cons.mpr ⟨zt_m_265, List.forall_mem_cons.mpr ⟨zt_m_266, List.forall_mem_cons.mpr ⟨zt_m_267, List.forall_mem_cons.mpr ⟨zt_m_268, List.forall_mem_cons.mpr ⟨zt_m_269, List.forall_mem_cons.mpr ⟨zt_m_270, List.forall_mem_cons.mpr ⟨zt_m_271, List.forall_mem_cons.mpr ⟨zt_m_272, List.forall_mem_cons.mpr ⟨zt_m_273, List.forall_mem_cons.mpr ⟨zt_m_274, List.forall_mem_cons.mpr ⟨zt_m_275, List.forall_mem_cons.mpr ⟨zt_m_276, List.forall_mem_cons.mpr ⟨zt_m_277, List.forall_mem_cons.mpr ⟨zt_m_278, List.forall_mem_cons.mpr ⟨zt_m_279, List.forall_mem_cons.mpr ⟨zt_m_280, List.forall_mem_cons.mpr ⟨zt_m_281, List.forall_mem_cons.mpr ⟨zt_m_282, List.forall_mem_cons.mpr ⟨zt_m_283, List.forall_mem_cons.mpr ⟨zt_m_284, List.forall_mem_cons.mpr ⟨zt_m_285, List.forall_mem_cons.mpr ⟨zt_m_286, List.forall_mem_cons.mpr ⟨zt_m_287, List.forall_mem_cons.mpr ⟨zt_m_288, List.forall_mem_cons.mpr ⟨zt_m_289, List.forall_mem_cons.mpr ⟨zt_m_290, List.forall_mem_cons.mpr ⟨zt_m_291, List.forall_mem_cons.mpr ⟨zt_m_292, List.forall_mem_cons.mpr ⟨zt_m_293, List.forall_mem_cons.mpr ⟨zt_m_294, List.forall_mem_cons.mpr ⟨zt_m_295, List.forall_mem_cons.mpr ⟨zt_m_296, List.forall_mem_cons.mpr ⟨zt_m_297, List.forall_mem_cons.mpr ⟨zt_m_298, List.forall_mem_cons.mpr ⟨zt_m_299, fun _ h => absurd h List.not_mem_nil⟩⟩⟩⟩⟩⟩⟩⟩⟩⟩⟩⟩⟩⟩⟩⟩⟩⟩⟩⟩⟩⟩⟩⟩⟩⟩⟩⟩⟩⟩⟩⟩⟩⟩⟩⟩⟩⟩⟩⟩⟩⟩⟩⟩⟩⟩⟩⟩⟩⟩⟩⟩⟩⟩⟩⟩⟩⟩⟩⟩
theorem zt_mall5 : ∀ q ∈ zt_m5, zt_mOK q := List.forall_mem_cons.mpr ⟨zt_m_300, List.forall_mem_cons.mpr ⟨zt_m_301, List.forall_mem_cons.mpr ⟨zt_m_302, fun _ h => absurd h List.not_mem_nil⟩⟩⟩
theorem zt_mall : ∀ q ∈ zt_m.tail, zt_mOK q := by
  intro q hq
  have h : q ∈ zt_m0.tail ++ (zt_m1 ++ (zt_m2 ++ (zt_m3 ++ (zt_m4 ++ (zt_m5))))) := hq
  simp only [List.mem_append] at h
  rcases h with h | h | h | h | h | h
  · exact zt_mall0 q h
  · exact zt_mall1 q h
  · exact zt_mall2 q h
  · exact zt_mall3 q h
  · exact zt_mall4 q h
  · exact zt_mall5 q h
theorem zt_m_ok {mi : Nat} {q : zx_M} (h : zt_m[mi + 1]? = some q) : zt_mOK q := zt_mall q (List.mem_of_getElem? (i := mi) (by rw [← h]; rfl))
def zt_eOK (own : String) (e : Nat × Nat × Nat × Nat × Nat) : Prop := match e with
  | (i, kd, x, y, _) => match kd with
    | 0 => ∃ (r : vw_C) (ref : String), zt_cl[x]? = some r ∧ y < r.2.2 ∧ Cond.fieldLink own i ref (r.2.1 y).2.1 (r.2.1 y).2.2.1 ∈ zt_good ∧ (ref = (r.2.1 y).1 ∨ Cond.sameField ref (r.2.1 y).1 (r.2.1 y).2.1 (r.2.1 y).2.2.1 ∈ zt_good)
    | 1 => ∃ (r : vw_C) (host : String), zt_cl[x]? = some r ∧ y < r.2.2 ∧ Cond.fieldLinkNest own i (r.2.1 y).1 (r.2.1 y).2.1 (r.2.1 y).2.2.1 host ∈ zt_nw
    | 2 => ∃ C : String, Cond.classLink own i C ∈ zt_good ∧ (x = 999 ∨ (zt_cl[x]?).map (·.1) = some C) ∧ (y = 999 ∨ zt_at[y]? = some (.object C))
    | 4 | 6 | 8 => ∃ q : zx_M, zt_m[x]? = some q ∧ Cond.methodLink own i q.1 ∈ zt_good
    | 5 | 7 | 9 => ∃ (q : zx_M) (host : String), zt_m[x]? = some q ∧ Cond.methodLinkNest own i q.1 host ∈ zt_nw
    | 10 => Cond.methodLink own i objectInit ∈ zt_good
    | 11 | 12 => ∃ x9 : MethodName, zt_vn[x]? = some x9 ∧ Cond.methodLink own i x9 ∈ zt_good
    | 15 => ∃ q : zx_M, zt_m[x]? = some q ∧ Cond.methodLink own i q.1 ∈ zt_good ∧ Cond.sameMethod q.1.cls q.1.cls q.1.name q.1.desc ∈ zt_good ∧ Cond.privateMethod q.1 ∈ zt_nw
    | 21 => ∃ q : zx_M, zt_m[x]? = some q ∧ Cond.methodLink own i q.1 ∈ zt_good ∧ Cond.sameMethod q.1.cls q.1.cls q.1.name q.1.desc ∈ zt_good ∧ Cond.superclass own q.1.cls ∈ zt_good ∧ q.1.name ≠ "<init>"
    | 13 => ∃ tx : String, Cond.stringRef own i tx ∈ lw_tbl ∧ (y = 1 → (own, i, tx, x) ∈ zt_str)
    | 14 => ∃ e : String × String × String, zt_stn[x]? = some e ∧ Cond.fieldLink own i e.1 e.2.1 e.2.2 ∈ zt_good
    | 16 => (y = 0 ∧ Cond.methodLink own i Lib.Math.max.name ∈ zt_good ∧ Cond.static Lib.Math.max.name ∈ zt_good ∧ Cond.initialized "java/lang/Math" ∈ zt_good ∧ Cond.code Lib.Math.max.name Lib.Math.max.code 2 (some .int) ∈ zt_good) ∨
        (y = 1 ∧ Cond.methodLink own i Lib.Math.min.name ∈ zt_good ∧ Cond.static Lib.Math.min.name ∈ zt_good ∧ Cond.initialized "java/lang/Math" ∈ zt_good ∧ Cond.code Lib.Math.min.name Lib.Math.min.code 2 (some .int) ∈ zt_good) ∨
        (y = 2 ∧ Cond.methodLink own i Lib.MathLoose.min_long.x ∈ zt_good ∧ Cond.static Lib.MathLoose.min_long.x ∈ zt_good ∧ Cond.initialized "java/lang/Math" ∈ zt_good ∧ Cond.code Lib.MathLoose.min_long.x Lib.MathLoose.min_long.code 4 (some .long) ∈ zt_good)
    | 17 => Cond.methodLink own i arraycopyName ∈ zt_good
    | 18 => ∃ (nm : String) (ty : FieldType), Cond.classLink own i nm ∈ zt_good ∧ zt_at[x]? = some ty ∧ nm = "[" ++ ty.toString
    | 19 => Cond.classLink own i "java/lang/Boolean" ∈ zt_good
    | _ => False
set_option maxRecDepth 100000 in
theorem zt_e0_29 : zt_eOK "java/lang/String" (1065, 4, 151, 0, 5079) := ⟨_, rfl, (zt_in (j := 5) (k := 79) rfl rfl)⟩
set_option maxRecDepth 100000 in
theorem zt_e0_28 : zt_eOK "java/lang/String" (1062, 4, 173, 0, 5168) := ⟨_, rfl, (zt_in (j := 5) (k := 168) rfl rfl)⟩
set_option maxRecDepth 100000 in
theorem zt_e0_27 : zt_eOK "java/lang/String" (1059, 4, 156, 0, 5100) := ⟨_, rfl, (zt_in (j := 5) (k := 100) rfl rfl)⟩
set_option maxRecDepth 100000 in
theorem zt_e0_26 : zt_eOK "java/lang/String" (1053, 14, 1, 0, 5077) := ⟨_, rfl, (zt_in (j := 5) (k := 77) rfl rfl)⟩
set_option maxRecDepth 100000 in
theorem zt_e0_25 : zt_eOK "java/lang/String" (1051, 4, 184, 0, 5217) := ⟨_, rfl, (zt_in (j := 5) (k := 217) rfl rfl)⟩
set_option maxRecDepth 100000 in
theorem zt_e0_24 : zt_eOK "java/lang/String" (1048, 0, 1, 2, 5001) := ⟨_, "java/lang/AbstractStringBuilder", rfl, by decide, (zt_in (j := 5) (k := 1) rfl rfl), Or.inl rfl⟩
set_option maxRecDepth 100000 in
theorem zt_e0_23 : zt_eOK "java/lang/String" (1047, 12, 0, 0, 5129) := ⟨_, rfl, (zt_in (j := 5) (k := 129) rfl rfl)⟩
set_option maxRecDepth 100000 in
theorem zt_e0_22 : zt_eOK "java/lang/String" (1007, 12, 6, 0, 7217) := ⟨_, rfl, (zt_in (j := 7) (k := 217) rfl rfl)⟩
set_option maxRecDepth 100000 in
theorem zt_e0_21 : zt_eOK "java/lang/String" (1005, 13, 0, 0, 7215) := ⟨"null", zt_ch_in (j := 7) (List.mem_of_getElem? (i := 215) rfl), fun h => absurd h (by decide)⟩
set_option maxRecDepth 100000 in
theorem zt_e0_20 : zt_eOK "java/lang/String" (594, 4, 242, 0, 7002) := ⟨_, rfl, (zt_in (j := 7) (k := 2) rfl rfl)⟩
set_option maxRecDepth 100000 in
theorem zt_e0_19 : zt_eOK "java/lang/String" (591, 4, 239, 0, 6231) := ⟨_, rfl, (zt_in (j := 6) (k := 231) rfl rfl)⟩
set_option maxRecDepth 100000 in
theorem zt_e0_18 : zt_eOK "java/lang/String" (590, 4, 237, 0, 6224) := ⟨_, rfl, (zt_in (j := 6) (k := 224) rfl rfl)⟩
set_option maxRecDepth 100000 in
theorem zt_e0_17 : zt_eOK "java/lang/String" (586, 4, 215, 0, 6110) := ⟨_, rfl, (zt_in (j := 6) (k := 110) rfl rfl)⟩
set_option maxRecDepth 100000 in
theorem zt_e0_16 : zt_eOK "java/lang/String" (552, 12, 1, 0, 5116) := ⟨_, rfl, (zt_in (j := 5) (k := 116) rfl rfl)⟩
set_option maxRecDepth 100000 in
theorem zt_e0_15 : zt_eOK "java/lang/String" (549, 12, 2, 0, 5121) := ⟨_, rfl, (zt_in (j := 5) (k := 121) rfl rfl)⟩
set_option maxRecDepth 100000 in
theorem zt_e0_14 : zt_eOK "java/lang/String" (498, 4, 192, 0, 6020) := ⟨_, rfl, (zt_in (j := 6) (k := 20) rfl rfl)⟩
set_option maxRecDepth 100000 in
theorem zt_e0_13 : zt_eOK "java/lang/String" (495, 4, 191, 0, 6016) := ⟨_, rfl, (zt_in (j := 6) (k := 16) rfl rfl)⟩
set_option maxRecDepth 100000 in
theorem zt_e0_12 : zt_eOK "java/lang/String" (492, 6, 190, 0, 6012) := ⟨_, rfl, (zt_in (j := 6) (k := 12) rfl rfl)⟩
set_option maxRecDepth 100000 in
theorem zt_e0_11 : zt_eOK "java/lang/String" (489, 8, 159, 0, 5112) := ⟨_, rfl, (zt_in (j := 5) (k := 112) rfl rfl)⟩
set_option maxRecDepth 100000 in
theorem zt_e0_10 : zt_eOK "java/lang/String" (335, 6, 180, 0, 5195) := ⟨_, rfl, (zt_in (j := 5) (k := 195) rfl rfl)⟩
set_option maxRecDepth 100000 in
theorem zt_e0_9 : zt_eOK "java/lang/String" (212, 17, 0, 0, 5213) := (zt_in (j := 5) (k := 213) rfl rfl)
set_option maxRecDepth 100000 in
theorem zt_e0_8 : zt_eOK "java/lang/String" (106, 4, 146, 0, 5214) := ⟨_, rfl, (zt_in (j := 5) (k := 214) rfl rfl)⟩
set_option maxRecDepth 100000 in
theorem zt_e0_7 : zt_eOK "java/lang/String" (54, 4, 163, 0, 5130) := ⟨_, rfl, (zt_in (j := 5) (k := 130) rfl rfl)⟩
set_option maxRecDepth 100000 in
theorem zt_e0_6 : zt_eOK "java/lang/String" (47, 4, 187, 0, 5227) := ⟨_, rfl, (zt_in (j := 5) (k := 227) rfl rfl)⟩
set_option maxRecDepth 100000 in
theorem zt_e0_5 : zt_eOK "java/lang/String" (38, 14, 0, 0, 5199) := ⟨_, rfl, (zt_in (j := 5) (k := 199) rfl rfl)⟩
set_option maxRecDepth 100000 in
theorem zt_e0_4 : zt_eOK "java/lang/String" (23, 0, 0, 3, 5233) := ⟨_, "java/lang/String", rfl, by decide, (zt_in (j := 5) (k := 233) rfl rfl), Or.inl rfl⟩
set_option maxRecDepth 100000 in
theorem zt_e0_3 : zt_eOK "java/lang/String" (19, 0, 0, 2, 5232) := ⟨_, "java/lang/String", rfl, by decide, (zt_in (j := 5) (k := 232) rfl rfl), Or.inl rfl⟩
set_option maxRecDepth 100000 in
theorem zt_e0_2 : zt_eOK "java/lang/String" (15, 0, 0, 1, 5231) := ⟨_, "java/lang/String", rfl, by decide, (zt_in (j := 5) (k := 231) rfl rfl), Or.inl rfl⟩
set_option maxRecDepth 100000 in
theorem zt_e0_1 : zt_eOK "java/lang/String" (9, 0, 0, 0, 5230) := ⟨_, "java/lang/String", rfl, by decide, (zt_in (j := 5) (k := 230) rfl rfl), Or.inl rfl⟩
set_option maxRecDepth 100000 in
theorem zt_e0_0 : zt_eOK "java/lang/String" (1, 10, 0, 0, 5115) := (zt_in (j := 5) (k := 115) rfl rfl)
theorem zt_pl0_ok : ∀ e ∈ zt_pl0, zt_eOK "java/lang/String" e := List.forall_mem_cons.mpr ⟨zt_e0_0, List.forall_mem_cons.mpr ⟨zt_e0_1, List.forall_mem_cons.mpr ⟨zt_e0_2, List.forall_mem_cons.mpr ⟨zt_e0_3, List.forall_mem_cons.mpr ⟨zt_e0_4, List.forall_mem_cons.mpr ⟨zt_e0_5, List.forall_mem_cons.mpr ⟨zt_e0_6, List.forall_mem_cons.mpr ⟨zt_e0_7, List.forall_mem_cons.mpr ⟨zt_e0_8, List.forall_mem_cons.mpr ⟨zt_e0_9, List.forall_mem_cons.mpr ⟨zt_e0_10, List.forall_mem_cons.mpr ⟨zt_e0_11, List.forall_mem_cons.mpr ⟨zt_e0_12, List.forall_mem_cons.mpr ⟨zt_e0_13, List.forall_mem_cons.mpr ⟨zt_e0_14, List.forall_mem_cons.mpr ⟨zt_e0_15, List.forall_mem_cons.mpr ⟨zt_e0_16, List.forall_mem_cons.mpr ⟨zt_e0_17, List.forall_mem_cons.mpr ⟨zt_e0_18, List.forall_mem_cons.mpr ⟨zt_e0_19, List.forall_mem_cons.mpr ⟨zt_e0_20, List.forall_mem_cons.mpr ⟨zt_e0_21, List.forall_mem_cons.mpr ⟨zt_e0_22, List.forall_mem_cons.mpr ⟨zt_e0_23, List.forall_mem_cons.mpr ⟨zt_e0_24, List.forall_mem_cons.mpr ⟨zt_e0_25, List.forall_mem_cons.mpr ⟨zt_e0_26, List.forall_mem_cons.mpr ⟨zt_e0_27, List.forall_mem_cons.mpr ⟨zt_e0_28, List.forall_mem_cons.mpr ⟨zt_e0_29, fun _ h => absurd h List.not_mem_nil⟩⟩⟩⟩⟩⟩⟩⟩⟩⟩⟩⟩⟩⟩⟩⟩⟩⟩⟩⟩⟩⟩⟩⟩⟩⟩⟩⟩⟩⟩
set_option maxRecDepth 100000 in
theorem zt_lc0_ok : ∀ e ∈ zt_lc0, Cond.constantLong "java/lang/String" e.1 e.2.1 ∈ zt_good := fun _ h => absurd h List.not_mem_nil
set_option maxRecDepth 100000 in
theorem zt_e1_12 : zt_eOK "java/lang/StringBuilder" (343, 21, 162, 0, 5127) := ⟨_, rfl, (zt_in (j := 5) (k := 127) rfl rfl), (zt_in (j := 5) (k := 123) rfl rfl), (zt_in (j := 5) (k := 11) rfl rfl), by decide⟩
set_option maxRecDepth 100000 in
theorem zt_e1_11 : zt_eOK "java/lang/StringBuilder" (329, 21, 272, 0, 7178) := ⟨_, rfl, (zt_in (j := 7) (k := 178) rfl rfl), (zt_in (j := 8) (k := 194) rfl rfl), (zt_in (j := 5) (k := 11) rfl rfl), by decide⟩
set_option maxRecDepth 100000 in
theorem zt_e1_10 : zt_eOK "java/lang/StringBuilder" (137, 8, 158, 0, 5109) := ⟨_, rfl, (zt_in (j := 5) (k := 109) rfl rfl)⟩
set_option maxRecDepth 100000 in
theorem zt_e1_9 : zt_eOK "java/lang/StringBuilder" (101, 21, 211, 0, 6095) := ⟨_, rfl, (zt_in (j := 6) (k := 95) rfl rfl), (zt_in (j := 8) (k := 189) rfl rfl), (zt_in (j := 5) (k := 11) rfl rfl), by decide⟩
set_option maxRecDepth 100000 in
theorem zt_e1_8 : zt_eOK "java/lang/StringBuilder" (56, 21, 264, 0, 7121) := ⟨_, rfl, (zt_in (j := 7) (k := 121) rfl rfl), (zt_in (j := 8) (k := 192) rfl rfl), (zt_in (j := 5) (k := 11) rfl rfl), by decide⟩
set_option maxRecDepth 100000 in
theorem zt_e1_7 : zt_eOK "java/lang/StringBuilder" (53, 21, 167, 0, 5146) := ⟨_, rfl, (zt_in (j := 5) (k := 146) rfl rfl), (zt_in (j := 8) (k := 184) rfl rfl), (zt_in (j := 5) (k := 11) rfl rfl), by decide⟩
set_option maxRecDepth 100000 in
theorem zt_e1_6 : zt_eOK "java/lang/StringBuilder" (50, 21, 136, 0, 5016) := ⟨_, rfl, (zt_in (j := 5) (k := 16) rfl rfl), (zt_in (j := 8) (k := 180) rfl rfl), (zt_in (j := 5) (k := 11) rfl rfl), by decide⟩
set_option maxRecDepth 100000 in
theorem zt_e1_5 : zt_eOK "java/lang/StringBuilder" (29, 21, 176, 0, 5181) := ⟨_, rfl, (zt_in (j := 5) (k := 181) rfl rfl), (zt_in (j := 8) (k := 185) rfl rfl), (zt_in (j := 5) (k := 11) rfl rfl), by decide⟩
set_option maxRecDepth 100000 in
theorem zt_e1_4 : zt_eOK "java/lang/StringBuilder" (23, 6, 175, 0, 7092) := ⟨_, rfl, (zt_in (j := 7) (k := 92) rfl rfl)⟩
set_option maxRecDepth 100000 in
theorem zt_e1_3 : zt_eOK "java/lang/StringBuilder" (18, 2, 0, 6, 5107) := ⟨"java/lang/String", (zt_in (j := 5) (k := 107) rfl rfl), Or.inr rfl, Or.inr rfl⟩
set_option maxRecDepth 100000 in
theorem zt_e1_2 : zt_eOK "java/lang/StringBuilder" (17, 4, 280, 0, 7212) := ⟨_, rfl, (zt_in (j := 7) (k := 212) rfl rfl)⟩
set_option maxRecDepth 100000 in
theorem zt_e1_1 : zt_eOK "java/lang/StringBuilder" (7, 8, 258, 0, 7085) := ⟨_, rfl, (zt_in (j := 7) (k := 85) rfl rfl)⟩
set_option maxRecDepth 100000 in
theorem zt_e1_0 : zt_eOK "java/lang/StringBuilder" (1, 8, 132, 0, 4226) := ⟨_, rfl, (zt_in (j := 4) (k := 226) rfl rfl)⟩
theorem zt_pl1_ok : ∀ e ∈ zt_pl1, zt_eOK "java/lang/StringBuilder" e := List.forall_mem_cons.mpr ⟨zt_e1_0, List.forall_mem_cons.mpr ⟨zt_e1_1, List.forall_mem_cons.mpr ⟨zt_e1_2, List.forall_mem_cons.mpr ⟨zt_e1_3, List.forall_mem_cons.mpr ⟨zt_e1_4, List.forall_mem_cons.mpr ⟨zt_e1_5, List.forall_mem_cons.mpr ⟨zt_e1_6, List.forall_mem_cons.mpr ⟨zt_e1_7, List.forall_mem_cons.mpr ⟨zt_e1_8, List.forall_mem_cons.mpr ⟨zt_e1_9, List.forall_mem_cons.mpr ⟨zt_e1_10, List.forall_mem_cons.mpr ⟨zt_e1_11, List.forall_mem_cons.mpr ⟨zt_e1_12, fun _ h => absurd h List.not_mem_nil⟩⟩⟩⟩⟩⟩⟩⟩⟩⟩⟩⟩⟩
set_option maxRecDepth 100000 in
theorem zt_lc1_ok : ∀ e ∈ zt_lc1, Cond.constantLong "java/lang/StringBuilder" e.1 e.2.1 ∈ zt_good := fun _ h => absurd h List.not_mem_nil
set_option maxRecDepth 100000 in
theorem zt_e2_33 : zt_eOK "ColumnVault$Checks" (128, 6, 255, 0, 7073) := ⟨_, rfl, (zt_in (j := 7) (k := 73) rfl rfl)⟩
set_option maxRecDepth 100000 in
theorem zt_e2_32 : zt_eOK "ColumnVault$Checks" (120, 6, 15, 0, 7070) := ⟨_, rfl, (zt_in (j := 7) (k := 70) rfl rfl)⟩
set_option maxRecDepth 100000 in
theorem zt_e2_31 : zt_eOK "ColumnVault$Checks" (117, 6, 98, 0, 7069) := ⟨_, rfl, (zt_in (j := 7) (k := 69) rfl rfl)⟩
set_option maxRecDepth 100000 in
theorem zt_e2_30 : zt_eOK "ColumnVault$Checks" (112, 1, 5, 0, 1156) := ⟨_, "ColumnVault", rfl, by decide, (zt_inN (j := 1) (k := 156) rfl rfl)⟩
set_option maxRecDepth 100000 in
theorem zt_e2_29 : zt_eOK "ColumnVault$Checks" (108, 6, 105, 0, 7063) := ⟨_, rfl, (zt_in (j := 7) (k := 63) rfl rfl)⟩
set_option maxRecDepth 100000 in
theorem zt_e2_28 : zt_eOK "ColumnVault$Checks" (105, 6, 253, 0, 7059) := ⟨_, rfl, (zt_in (j := 7) (k := 59) rfl rfl)⟩
set_option maxRecDepth 100000 in
theorem zt_e2_27 : zt_eOK "ColumnVault$Checks" (102, 6, 35, 0, 7058) := ⟨_, rfl, (zt_in (j := 7) (k := 58) rfl rfl)⟩
set_option maxRecDepth 100000 in
theorem zt_e2_26 : zt_eOK "ColumnVault$Checks" (98, 1, 10, 5, 1071) := ⟨_, "ColumnVault", rfl, by decide, (zt_inN (j := 1) (k := 71) rfl rfl)⟩
set_option maxRecDepth 100000 in
theorem zt_e2_25 : zt_eOK "ColumnVault$Checks" (92, 4, 12, 0, 7057) := ⟨_, rfl, (zt_in (j := 7) (k := 57) rfl rfl)⟩
set_option maxRecDepth 100000 in
theorem zt_e2_24 : zt_eOK "ColumnVault$Checks" (89, 6, 99, 0, 7056) := ⟨_, rfl, (zt_in (j := 7) (k := 56) rfl rfl)⟩
set_option maxRecDepth 100000 in
theorem zt_e2_23 : zt_eOK "ColumnVault$Checks" (86, 1, 5, 4, 1162) := ⟨_, "ColumnVault", rfl, by decide, (zt_inN (j := 1) (k := 162) rfl rfl)⟩
set_option maxRecDepth 100000 in
theorem zt_e2_22 : zt_eOK "ColumnVault$Checks" (82, 6, 250, 0, 7040) := ⟨_, rfl, (zt_in (j := 7) (k := 40) rfl rfl)⟩
set_option maxRecDepth 100000 in
theorem zt_e2_21 : zt_eOK "ColumnVault$Checks" (78, 5, 206, 0, 7033) := ⟨_, "ColumnVault", rfl, (zt_inN (j := 7) (k := 33) rfl rfl)⟩
set_option maxRecDepth 100000 in
theorem zt_e2_20 : zt_eOK "ColumnVault$Checks" (75, 6, 202, 0, 7032) := ⟨_, rfl, (zt_in (j := 7) (k := 32) rfl rfl)⟩
set_option maxRecDepth 100000 in
theorem zt_e2_19 : zt_eOK "ColumnVault$Checks" (71, 6, 16, 0, 7031) := ⟨_, rfl, (zt_in (j := 7) (k := 31) rfl rfl)⟩
set_option maxRecDepth 100000 in
theorem zt_e2_18 : zt_eOK "ColumnVault$Checks" (67, 6, 68, 0, 7035) := ⟨_, rfl, (zt_in (j := 7) (k := 35) rfl rfl)⟩
set_option maxRecDepth 100000 in
theorem zt_e2_17 : zt_eOK "ColumnVault$Checks" (63, 6, 126, 0, 7034) := ⟨_, rfl, (zt_in (j := 7) (k := 34) rfl rfl)⟩
set_option maxRecDepth 100000 in
theorem zt_e2_16 : zt_eOK "ColumnVault$Checks" (59, 6, 248, 0, 7027) := ⟨_, rfl, (zt_in (j := 7) (k := 27) rfl rfl)⟩
set_option maxRecDepth 100000 in
theorem zt_e2_15 : zt_eOK "ColumnVault$Checks" (55, 6, 50, 0, 7026) := ⟨_, rfl, (zt_in (j := 7) (k := 26) rfl rfl)⟩
set_option maxRecDepth 100000 in
theorem zt_e2_14 : zt_eOK "ColumnVault$Checks" (52, 1, 10, 4, 1065) := ⟨_, "ColumnVault", rfl, by decide, (zt_inN (j := 1) (k := 65) rfl rfl)⟩
set_option maxRecDepth 100000 in
theorem zt_e2_13 : zt_eOK "ColumnVault$Checks" (48, 6, 205, 0, 7025) := ⟨_, rfl, (zt_in (j := 7) (k := 25) rfl rfl)⟩
set_option maxRecDepth 100000 in
theorem zt_e2_12 : zt_eOK "ColumnVault$Checks" (44, 6, 25, 0, 7024) := ⟨_, rfl, (zt_in (j := 7) (k := 24) rfl rfl)⟩
set_option maxRecDepth 100000 in
theorem zt_e2_11 : zt_eOK "ColumnVault$Checks" (41, 6, 254, 0, 7064) := ⟨_, rfl, (zt_in (j := 7) (k := 64) rfl rfl)⟩
set_option maxRecDepth 100000 in
theorem zt_e2_10 : zt_eOK "ColumnVault$Checks" (37, 6, 249, 0, 7036) := ⟨_, rfl, (zt_in (j := 7) (k := 36) rfl rfl)⟩
set_option maxRecDepth 100000 in
theorem zt_e2_9 : zt_eOK "ColumnVault$Checks" (33, 6, 247, 0, 7020) := ⟨_, rfl, (zt_in (j := 7) (k := 20) rfl rfl)⟩
set_option maxRecDepth 100000 in
theorem zt_e2_8 : zt_eOK "ColumnVault$Checks" (29, 1, 10, 3, 1059) := ⟨_, "ColumnVault", rfl, by decide, (zt_inN (j := 1) (k := 59) rfl rfl)⟩
set_option maxRecDepth 100000 in
theorem zt_e2_7 : zt_eOK "ColumnVault$Checks" (25, 0, 2, 2, 1187) := ⟨_, "ColumnVault$Checks", rfl, by decide, (zt_in (j := 1) (k := 187) rfl rfl), Or.inl rfl⟩
set_option maxRecDepth 100000 in
theorem zt_e2_6 : zt_eOK "ColumnVault$Checks" (21, 0, 2, 1, 1186) := ⟨_, "ColumnVault$Checks", rfl, by decide, (zt_in (j := 1) (k := 186) rfl rfl), Or.inl rfl⟩
set_option maxRecDepth 100000 in
theorem zt_e2_5 : zt_eOK "ColumnVault$Checks" (20, 9, 7, 0, 1184) := ⟨_, "ColumnVault", rfl, (zt_inN (j := 1) (k := 184) rfl rfl)⟩
set_option maxRecDepth 100000 in
theorem zt_e2_4 : zt_eOK "ColumnVault$Checks" (18, 2, 5, 999, 1183) := ⟨"ColumnVault$Groups", (zt_in (j := 1) (k := 183) rfl rfl), Or.inr rfl, Or.inl rfl⟩
set_option maxRecDepth 100000 in
theorem zt_e2_3 : zt_eOK "ColumnVault$Checks" (12, 0, 2, 0, 1185) := ⟨_, "ColumnVault$Checks", rfl, by decide, (zt_in (j := 1) (k := 185) rfl rfl), Or.inl rfl⟩
set_option maxRecDepth 100000 in
theorem zt_e2_2 : zt_eOK "ColumnVault$Checks" (11, 9, 3, 0, 1182) := ⟨_, "ColumnVault", rfl, (zt_inN (j := 1) (k := 182) rfl rfl)⟩
set_option maxRecDepth 100000 in
theorem zt_e2_1 : zt_eOK "ColumnVault$Checks" (9, 2, 10, 0, 1181) := ⟨"ColumnVault$Sheet", (zt_in (j := 1) (k := 181) rfl rfl), Or.inr rfl, Or.inr rfl⟩
set_option maxRecDepth 100000 in
theorem zt_e2_0 : zt_eOK "ColumnVault$Checks" (3, 10, 0, 0, 1180) := (zt_in (j := 1) (k := 180) rfl rfl)
theorem zt_pl2_ok : ∀ e ∈ zt_pl2, zt_eOK "ColumnVault$Checks" e := List.forall_mem_cons.mpr ⟨zt_e2_0, List.forall_mem_cons.mpr ⟨zt_e2_1, List.forall_mem_cons.mpr ⟨zt_e2_2, List.forall_mem_cons.mpr ⟨zt_e2_3, List.forall_mem_cons.mpr ⟨zt_e2_4, List.forall_mem_cons.mpr ⟨zt_e2_5, List.forall_mem_cons.mpr ⟨zt_e2_6, List.forall_mem_cons.mpr ⟨zt_e2_7, List.forall_mem_cons.mpr ⟨zt_e2_8, List.forall_mem_cons.mpr ⟨zt_e2_9, List.forall_mem_cons.mpr ⟨zt_e2_10, List.forall_mem_cons.mpr ⟨zt_e2_11, List.forall_mem_cons.mpr ⟨zt_e2_12, List.forall_mem_cons.mpr ⟨zt_e2_13, List.forall_mem_cons.mpr ⟨zt_e2_14, List.forall_mem_cons.mpr ⟨zt_e2_15, List.forall_mem_cons.mpr ⟨zt_e2_16, List.forall_mem_cons.mpr ⟨zt_e2_17, List.forall_mem_cons.mpr ⟨zt_e2_18, List.forall_mem_cons.mpr ⟨zt_e2_19, List.forall_mem_cons.mpr ⟨zt_e2_20, List.forall_mem_cons.mpr ⟨zt_e2_21, List.forall_mem_cons.mpr ⟨zt_e2_22, List.forall_mem_cons.mpr ⟨zt_e2_23, List.forall_mem_cons.mpr ⟨zt_e2_24, List.forall_mem_cons.mpr ⟨zt_e2_25, List.forall_mem_cons.mpr ⟨zt_e2_26, List.forall_mem_cons.mpr ⟨zt_e2_27, List.forall_mem_cons.mpr ⟨zt_e2_28, List.forall_mem_cons.mpr ⟨zt_e2_29, List.forall_mem_cons.mpr ⟨zt_e2_30, List.forall_mem_cons.mpr ⟨zt_e2_31, List.forall_mem_cons.mpr ⟨zt_e2_32, List.forall_mem_cons.mpr ⟨zt_e2_33, fun _ h => absurd h List.not_mem_nil⟩⟩⟩⟩⟩⟩⟩⟩⟩⟩⟩⟩⟩⟩⟩⟩⟩⟩⟩⟩⟩⟩⟩⟩⟩⟩⟩⟩⟩⟩⟩⟩⟩⟩
set_option maxRecDepth 100000 in
theorem zt_lc2_ok : ∀ e ∈ zt_lc2, Cond.constantLong "ColumnVault$Checks" e.1 e.2.1 ∈ zt_good := List.forall_mem_cons.mpr ⟨(zt_in (j := 7) (k := 68) rfl rfl), List.forall_mem_cons.mpr ⟨(zt_in (j := 7) (k := 71) rfl rfl), List.forall_mem_cons.mpr ⟨(zt_in (j := 7) (k := 72) rfl rfl), fun _ h => absurd h List.not_mem_nil⟩⟩⟩
set_option maxRecDepth 100000 in
theorem zt_e3_32 : zt_eOK "ColumnVault$FilterReader" (137, 6, 15, 0, 3218) := ⟨_, rfl, (zt_in (j := 3) (k := 218) rfl rfl)⟩
set_option maxRecDepth 100000 in
theorem zt_e3_31 : zt_eOK "ColumnVault$FilterReader" (131, 5, 42, 0, 3212) := ⟨_, "ColumnVault", rfl, (zt_inN (j := 3) (k := 212) rfl rfl)⟩
set_option maxRecDepth 100000 in
theorem zt_e3_30 : zt_eOK "ColumnVault$FilterReader" (126, 6, 80, 0, 3207) := ⟨_, rfl, (zt_in (j := 3) (k := 207) rfl rfl)⟩
set_option maxRecDepth 100000 in
theorem zt_e3_29 : zt_eOK "ColumnVault$FilterReader" (122, 6, 79, 0, 3203) := ⟨_, rfl, (zt_in (j := 3) (k := 203) rfl rfl)⟩
set_option maxRecDepth 100000 in
theorem zt_e3_28 : zt_eOK "ColumnVault$FilterReader" (110, 6, 81, 0, 3213) := ⟨_, rfl, (zt_in (j := 3) (k := 213) rfl rfl)⟩
set_option maxRecDepth 100000 in
theorem zt_e3_27 : zt_eOK "ColumnVault$FilterReader" (106, 6, 78, 0, 3199) := ⟨_, rfl, (zt_in (j := 3) (k := 199) rfl rfl)⟩
set_option maxRecDepth 100000 in
theorem zt_e3_26 : zt_eOK "ColumnVault$FilterReader" (103, 6, 35, 0, 3198) := ⟨_, rfl, (zt_in (j := 3) (k := 198) rfl rfl)⟩
set_option maxRecDepth 100000 in
theorem zt_e3_25 : zt_eOK "ColumnVault$FilterReader" (100, 6, 77, 0, 3190) := ⟨_, rfl, (zt_in (j := 3) (k := 190) rfl rfl)⟩
set_option maxRecDepth 100000 in
theorem zt_e3_24 : zt_eOK "ColumnVault$FilterReader" (97, 6, 28, 0, 3189) := ⟨_, rfl, (zt_in (j := 3) (k := 189) rfl rfl)⟩
set_option maxRecDepth 100000 in
theorem zt_e3_23 : zt_eOK "ColumnVault$FilterReader" (93, 6, 76, 0, 3185) := ⟨_, rfl, (zt_in (j := 3) (k := 185) rfl rfl)⟩
set_option maxRecDepth 100000 in
theorem zt_e3_22 : zt_eOK "ColumnVault$FilterReader" (89, 6, 82, 0, 3220) := ⟨_, rfl, (zt_in (j := 3) (k := 220) rfl rfl)⟩
set_option maxRecDepth 100000 in
theorem zt_e3_21 : zt_eOK "ColumnVault$FilterReader" (85, 6, 75, 0, 3181) := ⟨_, rfl, (zt_in (j := 3) (k := 181) rfl rfl)⟩
set_option maxRecDepth 100000 in
theorem zt_e3_20 : zt_eOK "ColumnVault$FilterReader" (82, 6, 74, 0, 3177) := ⟨_, rfl, (zt_in (j := 3) (k := 177) rfl rfl)⟩
set_option maxRecDepth 100000 in
theorem zt_e3_19 : zt_eOK "ColumnVault$FilterReader" (79, 6, 69, 0, 3157) := ⟨_, rfl, (zt_in (j := 3) (k := 157) rfl rfl)⟩
set_option maxRecDepth 100000 in
theorem zt_e3_18 : zt_eOK "ColumnVault$FilterReader" (73, 6, 68, 0, 3153) := ⟨_, rfl, (zt_in (j := 3) (k := 153) rfl rfl)⟩
set_option maxRecDepth 100000 in
theorem zt_e3_17 : zt_eOK "ColumnVault$FilterReader" (69, 6, 70, 0, 3161) := ⟨_, rfl, (zt_in (j := 3) (k := 161) rfl rfl)⟩
set_option maxRecDepth 100000 in
theorem zt_e3_16 : zt_eOK "ColumnVault$FilterReader" (65, 6, 83, 0, 3225) := ⟨_, rfl, (zt_in (j := 3) (k := 225) rfl rfl)⟩
set_option maxRecDepth 100000 in
theorem zt_e3_15 : zt_eOK "ColumnVault$FilterReader" (62, 6, 67, 0, 3149) := ⟨_, rfl, (zt_in (j := 3) (k := 149) rfl rfl)⟩
set_option maxRecDepth 100000 in
theorem zt_e3_14 : zt_eOK "ColumnVault$FilterReader" (59, 8, 66, 0, 3117) := ⟨_, rfl, (zt_in (j := 3) (k := 117) rfl rfl)⟩
set_option maxRecDepth 100000 in
theorem zt_e3_13 : zt_eOK "ColumnVault$FilterReader" (57, 2, 8, 999, 3115) := ⟨"ColumnVault$Node", (zt_in (j := 3) (k := 115) rfl rfl), Or.inr rfl, Or.inl rfl⟩
set_option maxRecDepth 100000 in
theorem zt_e3_12 : zt_eOK "ColumnVault$FilterReader" (53, 6, 73, 0, 3173) := ⟨_, rfl, (zt_in (j := 3) (k := 173) rfl rfl)⟩
set_option maxRecDepth 100000 in
theorem zt_e3_11 : zt_eOK "ColumnVault$FilterReader" (50, 6, 72, 0, 3169) := ⟨_, rfl, (zt_in (j := 3) (k := 169) rfl rfl)⟩
set_option maxRecDepth 100000 in
theorem zt_e3_10 : zt_eOK "ColumnVault$FilterReader" (46, 6, 71, 0, 3165) := ⟨_, rfl, (zt_in (j := 3) (k := 165) rfl rfl)⟩
set_option maxRecDepth 100000 in
theorem zt_e3_9 : zt_eOK "ColumnVault$FilterReader" (42, 6, 65, 0, 3111) := ⟨_, rfl, (zt_in (j := 3) (k := 111) rfl rfl)⟩
set_option maxRecDepth 100000 in
theorem zt_e3_8 : zt_eOK "ColumnVault$FilterReader" (36, 6, 56, 0, 3071) := ⟨_, rfl, (zt_in (j := 3) (k := 71) rfl rfl)⟩
set_option maxRecDepth 100000 in
theorem zt_e3_7 : zt_eOK "ColumnVault$FilterReader" (32, 0, 3, 1, 3044) := ⟨_, "ColumnVault$FilterReader", rfl, by decide, (zt_in (j := 3) (k := 44) rfl rfl), Or.inl rfl⟩
set_option maxRecDepth 100000 in
theorem zt_e3_6 : zt_eOK "ColumnVault$FilterReader" (28, 0, 3, 0, 3043) := ⟨_, "ColumnVault$FilterReader", rfl, by decide, (zt_in (j := 3) (k := 43) rfl rfl), Or.inl rfl⟩
set_option maxRecDepth 100000 in
theorem zt_e3_5 : zt_eOK "ColumnVault$FilterReader" (25, 0, 3, 6, 3050) := ⟨_, "ColumnVault$FilterReader", rfl, by decide, (zt_in (j := 3) (k := 50) rfl rfl), Or.inl rfl⟩
set_option maxRecDepth 100000 in
theorem zt_e3_4 : zt_eOK "ColumnVault$FilterReader" (22, 0, 3, 5, 3048) := ⟨_, "ColumnVault$FilterReader", rfl, by decide, (zt_in (j := 3) (k := 48) rfl rfl), Or.inl rfl⟩
set_option maxRecDepth 100000 in
theorem zt_e3_3 : zt_eOK "ColumnVault$FilterReader" (19, 0, 3, 4, 3047) := ⟨_, "ColumnVault$FilterReader", rfl, by decide, (zt_in (j := 3) (k := 47) rfl rfl), Or.inl rfl⟩
set_option maxRecDepth 100000 in
theorem zt_e3_2 : zt_eOK "ColumnVault$FilterReader" (15, 0, 3, 3, 3046) := ⟨_, "ColumnVault$FilterReader", rfl, by decide, (zt_in (j := 3) (k := 46) rfl rfl), Or.inl rfl⟩
set_option maxRecDepth 100000 in
theorem zt_e3_1 : zt_eOK "ColumnVault$FilterReader" (9, 0, 3, 2, 3045) := ⟨_, "ColumnVault$FilterReader", rfl, by decide, (zt_in (j := 3) (k := 45) rfl rfl), Or.inl rfl⟩
set_option maxRecDepth 100000 in
theorem zt_e3_0 : zt_eOK "ColumnVault$FilterReader" (3, 10, 0, 0, 3042) := (zt_in (j := 3) (k := 42) rfl rfl)
theorem zt_pl3_ok : ∀ e ∈ zt_pl3, zt_eOK "ColumnVault$FilterReader" e := List.forall_mem_cons.mpr ⟨zt_e3_0, List.forall_mem_cons.mpr ⟨zt_e3_1, List.forall_mem_cons.mpr ⟨zt_e3_2, List.forall_mem_cons.mpr ⟨zt_e3_3, List.forall_mem_cons.mpr ⟨zt_e3_4, List.forall_mem_cons.mpr ⟨zt_e3_5, List.forall_mem_cons.mpr ⟨zt_e3_6, List.forall_mem_cons.mpr ⟨zt_e3_7, List.forall_mem_cons.mpr ⟨zt_e3_8, List.forall_mem_cons.mpr ⟨zt_e3_9, List.forall_mem_cons.mpr ⟨zt_e3_10, List.forall_mem_cons.mpr ⟨zt_e3_11, List.forall_mem_cons.mpr ⟨zt_e3_12, List.forall_mem_cons.mpr ⟨zt_e3_13, List.forall_mem_cons.mpr ⟨zt_e3_14, List.forall_mem_cons.mpr ⟨zt_e3_15, List.forall_mem_cons.mpr ⟨zt_e3_16, List.forall_mem_cons.mpr ⟨zt_e3_17, List.forall_mem_cons.mpr ⟨zt_e3_18, List.forall_mem_cons.mpr ⟨zt_e3_19, List.forall_mem_cons.mpr ⟨zt_e3_20, List.forall_mem_cons.mpr ⟨zt_e3_21, List.forall_mem_cons.mpr ⟨zt_e3_22, List.forall_mem_cons.mpr ⟨zt_e3_23, List.forall_mem_cons.mpr ⟨zt_e3_24, List.forall_mem_cons.mpr ⟨zt_e3_25, List.forall_mem_cons.mpr ⟨zt_e3_26, List.forall_mem_cons.mpr ⟨zt_e3_27, List.forall_mem_cons.mpr ⟨zt_e3_28, List.forall_mem_cons.mpr ⟨zt_e3_29, List.forall_mem_cons.mpr ⟨zt_e3_30, List.forall_mem_cons.mpr ⟨zt_e3_31, List.forall_mem_cons.mpr ⟨zt_e3_32, fun _ h => absurd h List.not_mem_nil⟩⟩⟩⟩⟩⟩⟩⟩⟩⟩⟩⟩⟩⟩⟩⟩⟩⟩⟩⟩⟩⟩⟩⟩⟩⟩⟩⟩⟩⟩⟩⟩⟩
set_option maxRecDepth 100000 in
theorem zt_lc3_ok : ∀ e ∈ zt_lc3, Cond.constantLong "ColumnVault$FilterReader" e.1 e.2.1 ∈ zt_good := List.forall_mem_cons.mpr ⟨(zt_in (j := 3) (k := 194) rfl rfl), List.forall_mem_cons.mpr ⟨(zt_in (j := 3) (k := 195) rfl rfl), List.forall_mem_cons.mpr ⟨(zt_in (j := 3) (k := 196) rfl rfl), List.forall_mem_cons.mpr ⟨(zt_in (j := 3) (k := 197) rfl rfl), List.forall_mem_cons.mpr ⟨(zt_in (j := 3) (k := 211) rfl rfl), List.forall_mem_cons.mpr ⟨(zt_in (j := 3) (k := 217) rfl rfl), List.forall_mem_cons.mpr ⟨(zt_in (j := 3) (k := 219) rfl rfl), fun _ h => absurd h List.not_mem_nil⟩⟩⟩⟩⟩⟩⟩
set_option maxRecDepth 100000 in
theorem zt_e4_3 : zt_eOK "ColumnVault$FilterText" (21, 6, 115, 0, 4152) := ⟨_, rfl, (zt_in (j := 4) (k := 152) rfl rfl)⟩
set_option maxRecDepth 100000 in
theorem zt_e4_2 : zt_eOK "ColumnVault$FilterText" (15, 0, 4, 1, 1103) := ⟨_, "ColumnVault$FilterText", rfl, by decide, (zt_in (j := 1) (k := 103) rfl rfl), Or.inl rfl⟩
set_option maxRecDepth 100000 in
theorem zt_e4_1 : zt_eOK "ColumnVault$FilterText" (9, 0, 4, 0, 1102) := ⟨_, "ColumnVault$FilterText", rfl, by decide, (zt_in (j := 1) (k := 102) rfl rfl), Or.inl rfl⟩
set_option maxRecDepth 100000 in
theorem zt_e4_0 : zt_eOK "ColumnVault$FilterText" (3, 10, 0, 0, 1101) := (zt_in (j := 1) (k := 101) rfl rfl)
theorem zt_pl4_ok : ∀ e ∈ zt_pl4, zt_eOK "ColumnVault$FilterText" e := List.forall_mem_cons.mpr ⟨zt_e4_0, List.forall_mem_cons.mpr ⟨zt_e4_1, List.forall_mem_cons.mpr ⟨zt_e4_2, List.forall_mem_cons.mpr ⟨zt_e4_3, fun _ h => absurd h List.not_mem_nil⟩⟩⟩⟩
set_option maxRecDepth 100000 in
theorem zt_lc4_ok : ∀ e ∈ zt_lc4, Cond.constantLong "ColumnVault$FilterText" e.1 e.2.1 ∈ zt_good := List.forall_mem_cons.mpr ⟨(zt_in (j := 4) (k := 151) rfl rfl), fun _ h => absurd h List.not_mem_nil⟩
set_option maxRecDepth 100000 in
theorem zt_e5_18 : zt_eOK "ColumnVault$Groups" (73, 5, 45, 0, 4059) := ⟨_, "ColumnVault", rfl, (zt_inN (j := 4) (k := 59) rfl rfl)⟩
set_option maxRecDepth 100000 in
theorem zt_e5_17 : zt_eOK "ColumnVault$Groups" (69, 6, 98, 0, 4054) := ⟨_, rfl, (zt_in (j := 4) (k := 54) rfl rfl)⟩
set_option maxRecDepth 100000 in
theorem zt_e5_16 : zt_eOK "ColumnVault$Groups" (65, 6, 35, 0, 4053) := ⟨_, rfl, (zt_in (j := 4) (k := 53) rfl rfl)⟩
set_option maxRecDepth 100000 in
theorem zt_e5_15 : zt_eOK "ColumnVault$Groups" (59, 6, 252, 0, 7052) := ⟨_, rfl, (zt_in (j := 7) (k := 52) rfl rfl)⟩
set_option maxRecDepth 100000 in
theorem zt_e5_14 : zt_eOK "ColumnVault$Groups" (55, 5, 206, 0, 7051) := ⟨_, "ColumnVault", rfl, (zt_inN (j := 7) (k := 51) rfl rfl)⟩
set_option maxRecDepth 100000 in
theorem zt_e5_13 : zt_eOK "ColumnVault$Groups" (51, 6, 16, 0, 7050) := ⟨_, rfl, (zt_in (j := 7) (k := 50) rfl rfl)⟩
set_option maxRecDepth 100000 in
theorem zt_e5_12 : zt_eOK "ColumnVault$Groups" (47, 6, 251, 0, 7046) := ⟨_, rfl, (zt_in (j := 7) (k := 46) rfl rfl)⟩
set_option maxRecDepth 100000 in
theorem zt_e5_11 : zt_eOK "ColumnVault$Groups" (43, 5, 90, 0, 7045) := ⟨_, "ColumnVault", rfl, (zt_inN (j := 7) (k := 45) rfl rfl)⟩
set_option maxRecDepth 100000 in
theorem zt_e5_10 : zt_eOK "ColumnVault$Groups" (39, 1, 10, 5, 1070) := ⟨_, "ColumnVault", rfl, by decide, (zt_inN (j := 1) (k := 70) rfl rfl)⟩
set_option maxRecDepth 100000 in
theorem zt_e5_9 : zt_eOK "ColumnVault$Groups" (36, 1, 10, 4, 1063) := ⟨_, "ColumnVault", rfl, by decide, (zt_inN (j := 1) (k := 63) rfl rfl)⟩
set_option maxRecDepth 100000 in
theorem zt_e5_8 : zt_eOK "ColumnVault$Groups" (32, 6, 25, 0, 7044) := ⟨_, rfl, (zt_in (j := 7) (k := 44) rfl rfl)⟩
set_option maxRecDepth 100000 in
theorem zt_e5_7 : zt_eOK "ColumnVault$Groups" (29, 0, 5, 4, 1161) := ⟨_, "ColumnVault$Groups", rfl, by decide, (zt_in (j := 1) (k := 161) rfl rfl), Or.inl rfl⟩
set_option maxRecDepth 100000 in
theorem zt_e5_6 : zt_eOK "ColumnVault$Groups" (25, 0, 5, 3, 1160) := ⟨_, "ColumnVault$Groups", rfl, by decide, (zt_in (j := 1) (k := 160) rfl rfl), Or.inl rfl⟩
set_option maxRecDepth 100000 in
theorem zt_e5_5 : zt_eOK "ColumnVault$Groups" (22, 0, 5, 2, 1159) := ⟨_, "ColumnVault$Groups", rfl, by decide, (zt_in (j := 1) (k := 159) rfl rfl), Or.inl rfl⟩
set_option maxRecDepth 100000 in
theorem zt_e5_4 : zt_eOK "ColumnVault$Groups" (18, 0, 5, 1, 1158) := ⟨_, "ColumnVault$Groups", rfl, by decide, (zt_in (j := 1) (k := 158) rfl rfl), Or.inl rfl⟩
set_option maxRecDepth 100000 in
theorem zt_e5_3 : zt_eOK "ColumnVault$Groups" (12, 0, 5, 0, 1155) := ⟨_, "ColumnVault$Groups", rfl, by decide, (zt_in (j := 1) (k := 155) rfl rfl), Or.inl rfl⟩
set_option maxRecDepth 100000 in
theorem zt_e5_2 : zt_eOK "ColumnVault$Groups" (11, 9, 3, 0, 1154) := ⟨_, "ColumnVault", rfl, (zt_inN (j := 1) (k := 154) rfl rfl)⟩
set_option maxRecDepth 100000 in
theorem zt_e5_1 : zt_eOK "ColumnVault$Groups" (9, 2, 10, 0, 1153) := ⟨"ColumnVault$Sheet", (zt_in (j := 1) (k := 153) rfl rfl), Or.inr rfl, Or.inr rfl⟩
set_option maxRecDepth 100000 in
theorem zt_e5_0 : zt_eOK "ColumnVault$Groups" (3, 10, 0, 0, 1152) := (zt_in (j := 1) (k := 152) rfl rfl)
theorem zt_pl5_ok : ∀ e ∈ zt_pl5, zt_eOK "ColumnVault$Groups" e := List.forall_mem_cons.mpr ⟨zt_e5_0, List.forall_mem_cons.mpr ⟨zt_e5_1, List.forall_mem_cons.mpr ⟨zt_e5_2, List.forall_mem_cons.mpr ⟨zt_e5_3, List.forall_mem_cons.mpr ⟨zt_e5_4, List.forall_mem_cons.mpr ⟨zt_e5_5, List.forall_mem_cons.mpr ⟨zt_e5_6, List.forall_mem_cons.mpr ⟨zt_e5_7, List.forall_mem_cons.mpr ⟨zt_e5_8, List.forall_mem_cons.mpr ⟨zt_e5_9, List.forall_mem_cons.mpr ⟨zt_e5_10, List.forall_mem_cons.mpr ⟨zt_e5_11, List.forall_mem_cons.mpr ⟨zt_e5_12, List.forall_mem_cons.mpr ⟨zt_e5_13, List.forall_mem_cons.mpr ⟨zt_e5_14, List.forall_mem_cons.mpr ⟨zt_e5_15, List.forall_mem_cons.mpr ⟨zt_e5_16, List.forall_mem_cons.mpr ⟨zt_e5_17, List.forall_mem_cons.mpr ⟨zt_e5_18, fun _ h => absurd h List.not_mem_nil⟩⟩⟩⟩⟩⟩⟩⟩⟩⟩⟩⟩⟩⟩⟩⟩⟩⟩⟩
set_option maxRecDepth 100000 in
theorem zt_lc5_ok : ∀ e ∈ zt_lc5, Cond.constantLong "ColumnVault$Groups" e.1 e.2.1 ∈ zt_good := List.forall_mem_cons.mpr ⟨(zt_in (j := 4) (k := 58) rfl rfl), fun _ h => absurd h List.not_mem_nil⟩
set_option maxRecDepth 100000 in
theorem zt_e6_6 : zt_eOK "ColumnVault$History" (26, 6, 25, 0, 2150) := ⟨_, rfl, (zt_in (j := 2) (k := 150) rfl rfl)⟩
set_option maxRecDepth 100000 in
theorem zt_e6_5 : zt_eOK "ColumnVault$History" (22, 6, 11, 0, 2149) := ⟨_, rfl, (zt_in (j := 2) (k := 149) rfl rfl)⟩
set_option maxRecDepth 100000 in
theorem zt_e6_4 : zt_eOK "ColumnVault$History" (21, 9, 3, 0, 1051) := ⟨_, "ColumnVault", rfl, (zt_inN (j := 1) (k := 51) rfl rfl)⟩
set_option maxRecDepth 100000 in
theorem zt_e6_3 : zt_eOK "ColumnVault$History" (17, 0, 6, 1, 1089) := ⟨_, "ColumnVault$History", rfl, by decide, (zt_in (j := 1) (k := 89) rfl rfl), Or.inl rfl⟩
set_option maxRecDepth 100000 in
theorem zt_e6_2 : zt_eOK "ColumnVault$History" (11, 0, 6, 0, 1088) := ⟨_, "ColumnVault$History", rfl, by decide, (zt_in (j := 1) (k := 88) rfl rfl), Or.inl rfl⟩
set_option maxRecDepth 100000 in
theorem zt_e6_1 : zt_eOK "ColumnVault$History" (9, 2, 10, 0, 1048) := ⟨"ColumnVault$Sheet", (zt_in (j := 1) (k := 48) rfl rfl), Or.inr rfl, Or.inr rfl⟩
set_option maxRecDepth 100000 in
theorem zt_e6_0 : zt_eOK "ColumnVault$History" (3, 10, 0, 0, 1047) := (zt_in (j := 1) (k := 47) rfl rfl)
theorem zt_pl6_ok : ∀ e ∈ zt_pl6, zt_eOK "ColumnVault$History" e := List.forall_mem_cons.mpr ⟨zt_e6_0, List.forall_mem_cons.mpr ⟨zt_e6_1, List.forall_mem_cons.mpr ⟨zt_e6_2, List.forall_mem_cons.mpr ⟨zt_e6_3, List.forall_mem_cons.mpr ⟨zt_e6_4, List.forall_mem_cons.mpr ⟨zt_e6_5, List.forall_mem_cons.mpr ⟨zt_e6_6, fun _ h => absurd h List.not_mem_nil⟩⟩⟩⟩⟩⟩⟩
set_option maxRecDepth 100000 in
theorem zt_lc6_ok : ∀ e ∈ zt_lc6, Cond.constantLong "ColumnVault$History" e.1 e.2.1 ∈ zt_good := fun _ h => absurd h List.not_mem_nil
set_option maxRecDepth 100000 in
theorem zt_e7_17 : zt_eOK "ColumnVault$JoinWays" (80, 16, 0, 0, 8119) := Or.inl ⟨rfl, (zt_in (j := 8) (k := 119) rfl rfl), (zt_in (j := 3) (k := 109) rfl rfl), (zt_in (j := 1) (k := 17) rfl rfl), (zt_in (j := 3) (k := 110) rfl rfl)⟩
set_option maxRecDepth 100000 in
theorem zt_e7_16 : zt_eOK "ColumnVault$JoinWays" (76, 6, 291, 0, 8126) := ⟨_, rfl, (zt_in (j := 8) (k := 126) rfl rfl)⟩
set_option maxRecDepth 100000 in
theorem zt_e7_15 : zt_eOK "ColumnVault$JoinWays" (72, 5, 90, 0, 8125) := ⟨_, "ColumnVault", rfl, (zt_inN (j := 8) (k := 125) rfl rfl)⟩
set_option maxRecDepth 100000 in
theorem zt_e7_14 : zt_eOK "ColumnVault$JoinWays" (67, 1, 10, 4, 1066) := ⟨_, "ColumnVault", rfl, by decide, (zt_inN (j := 1) (k := 66) rfl rfl)⟩
set_option maxRecDepth 100000 in
theorem zt_e7_13 : zt_eOK "ColumnVault$JoinWays" (63, 6, 289, 0, 8115) := ⟨_, rfl, (zt_in (j := 8) (k := 115) rfl rfl)⟩
set_option maxRecDepth 100000 in
theorem zt_e7_12 : zt_eOK "ColumnVault$JoinWays" (59, 6, 29, 0, 8114) := ⟨_, rfl, (zt_in (j := 8) (k := 114) rfl rfl)⟩
set_option maxRecDepth 100000 in
theorem zt_e7_11 : zt_eOK "ColumnVault$JoinWays" (55, 6, 16, 0, 8113) := ⟨_, rfl, (zt_in (j := 8) (k := 113) rfl rfl)⟩
set_option maxRecDepth 100000 in
theorem zt_e7_10 : zt_eOK "ColumnVault$JoinWays" (49, 4, 12, 0, 8135) := ⟨_, rfl, (zt_in (j := 8) (k := 135) rfl rfl)⟩
set_option maxRecDepth 100000 in
theorem zt_e7_9 : zt_eOK "ColumnVault$JoinWays" (43, 6, 292, 0, 8130) := ⟨_, rfl, (zt_in (j := 8) (k := 130) rfl rfl)⟩
set_option maxRecDepth 100000 in
theorem zt_e7_8 : zt_eOK "ColumnVault$JoinWays" (39, 6, 290, 0, 8120) := ⟨_, rfl, (zt_in (j := 8) (k := 120) rfl rfl)⟩
set_option maxRecDepth 100000 in
theorem zt_e7_7 : zt_eOK "ColumnVault$JoinWays" (35, 6, 288, 0, 8109) := ⟨_, rfl, (zt_in (j := 8) (k := 109) rfl rfl)⟩
set_option maxRecDepth 100000 in
theorem zt_e7_6 : zt_eOK "ColumnVault$JoinWays" (31, 6, 106, 0, 8108) := ⟨_, rfl, (zt_in (j := 8) (k := 108) rfl rfl)⟩
set_option maxRecDepth 100000 in
theorem zt_e7_5 : zt_eOK "ColumnVault$JoinWays" (25, 1, 10, 5, 1068) := ⟨_, "ColumnVault", rfl, by decide, (zt_inN (j := 1) (k := 68) rfl rfl)⟩
set_option maxRecDepth 100000 in
theorem zt_e7_4 : zt_eOK "ColumnVault$JoinWays" (22, 0, 7, 3, 8094) := ⟨_, "ColumnVault$JoinWays", rfl, by decide, (zt_in (j := 8) (k := 94) rfl rfl), Or.inl rfl⟩
set_option maxRecDepth 100000 in
theorem zt_e7_3 : zt_eOK "ColumnVault$JoinWays" (19, 0, 7, 2, 8093) := ⟨_, "ColumnVault$JoinWays", rfl, by decide, (zt_in (j := 8) (k := 93) rfl rfl), Or.inl rfl⟩
set_option maxRecDepth 100000 in
theorem zt_e7_2 : zt_eOK "ColumnVault$JoinWays" (15, 0, 7, 1, 8092) := ⟨_, "ColumnVault$JoinWays", rfl, by decide, (zt_in (j := 8) (k := 92) rfl rfl), Or.inl rfl⟩
set_option maxRecDepth 100000 in
theorem zt_e7_1 : zt_eOK "ColumnVault$JoinWays" (9, 0, 7, 0, 8091) := ⟨_, "ColumnVault$JoinWays", rfl, by decide, (zt_in (j := 8) (k := 91) rfl rfl), Or.inl rfl⟩
set_option maxRecDepth 100000 in
theorem zt_e7_0 : zt_eOK "ColumnVault$JoinWays" (3, 10, 0, 0, 8090) := (zt_in (j := 8) (k := 90) rfl rfl)
theorem zt_pl7_ok : ∀ e ∈ zt_pl7, zt_eOK "ColumnVault$JoinWays" e := List.forall_mem_cons.mpr ⟨zt_e7_0, List.forall_mem_cons.mpr ⟨zt_e7_1, List.forall_mem_cons.mpr ⟨zt_e7_2, List.forall_mem_cons.mpr ⟨zt_e7_3, List.forall_mem_cons.mpr ⟨zt_e7_4, List.forall_mem_cons.mpr ⟨zt_e7_5, List.forall_mem_cons.mpr ⟨zt_e7_6, List.forall_mem_cons.mpr ⟨zt_e7_7, List.forall_mem_cons.mpr ⟨zt_e7_8, List.forall_mem_cons.mpr ⟨zt_e7_9, List.forall_mem_cons.mpr ⟨zt_e7_10, List.forall_mem_cons.mpr ⟨zt_e7_11, List.forall_mem_cons.mpr ⟨zt_e7_12, List.forall_mem_cons.mpr ⟨zt_e7_13, List.forall_mem_cons.mpr ⟨zt_e7_14, List.forall_mem_cons.mpr ⟨zt_e7_15, List.forall_mem_cons.mpr ⟨zt_e7_16, List.forall_mem_cons.mpr ⟨zt_e7_17, fun _ h => absurd h List.not_mem_nil⟩⟩⟩⟩⟩⟩⟩⟩⟩⟩⟩⟩⟩⟩⟩⟩⟩⟩
set_option maxRecDepth 100000 in
theorem zt_lc7_ok : ∀ e ∈ zt_lc7, Cond.constantLong "ColumnVault$JoinWays" e.1 e.2.1 ∈ zt_good := List.forall_mem_cons.mpr ⟨(zt_in (j := 8) (k := 124) rfl rfl), List.forall_mem_cons.mpr ⟨(zt_in (j := 8) (k := 134) rfl rfl), fun _ h => absurd h List.not_mem_nil⟩⟩
set_option maxRecDepth 100000 in
theorem zt_e8_10 : zt_eOK "ColumnVault$Node" (45, 4, 12, 0, 3237) := ⟨_, rfl, (zt_in (j := 3) (k := 237) rfl rfl)⟩
set_option maxRecDepth 100000 in
theorem zt_e8_9 : zt_eOK "ColumnVault$Node" (41, 6, 85, 0, 3233) := ⟨_, rfl, (zt_in (j := 3) (k := 233) rfl rfl)⟩
set_option maxRecDepth 100000 in
theorem zt_e8_8 : zt_eOK "ColumnVault$Node" (37, 6, 84, 0, 3229) := ⟨_, rfl, (zt_in (j := 3) (k := 229) rfl rfl)⟩
set_option maxRecDepth 100000 in
theorem zt_e8_7 : zt_eOK "ColumnVault$Node" (31, 0, 8, 1, 3123) := ⟨_, "ColumnVault$Node", rfl, by decide, (zt_in (j := 3) (k := 123) rfl rfl), Or.inl rfl⟩
set_option maxRecDepth 100000 in
theorem zt_e8_6 : zt_eOK "ColumnVault$Node" (27, 0, 8, 0, 3121) := ⟨_, "ColumnVault$Node", rfl, by decide, (zt_in (j := 3) (k := 121) rfl rfl), Or.inl rfl⟩
set_option maxRecDepth 100000 in
theorem zt_e8_5 : zt_eOK "ColumnVault$Node" (24, 0, 8, 6, 3132) := ⟨_, "ColumnVault$Node", rfl, by decide, (zt_in (j := 3) (k := 132) rfl rfl), Or.inl rfl⟩
set_option maxRecDepth 100000 in
theorem zt_e8_4 : zt_eOK "ColumnVault$Node" (21, 0, 8, 5, 3130) := ⟨_, "ColumnVault$Node", rfl, by decide, (zt_in (j := 3) (k := 130) rfl rfl), Or.inl rfl⟩
set_option maxRecDepth 100000 in
theorem zt_e8_3 : zt_eOK "ColumnVault$Node" (18, 0, 8, 4, 3128) := ⟨_, "ColumnVault$Node", rfl, by decide, (zt_in (j := 3) (k := 128) rfl rfl), Or.inl rfl⟩
set_option maxRecDepth 100000 in
theorem zt_e8_2 : zt_eOK "ColumnVault$Node" (15, 0, 8, 3, 3127) := ⟨_, "ColumnVault$Node", rfl, by decide, (zt_in (j := 3) (k := 127) rfl rfl), Or.inl rfl⟩
set_option maxRecDepth 100000 in
theorem zt_e8_1 : zt_eOK "ColumnVault$Node" (9, 0, 8, 2, 3125) := ⟨_, "ColumnVault$Node", rfl, by decide, (zt_in (j := 3) (k := 125) rfl rfl), Or.inl rfl⟩
set_option maxRecDepth 100000 in
theorem zt_e8_0 : zt_eOK "ColumnVault$Node" (3, 10, 0, 0, 3120) := (zt_in (j := 3) (k := 120) rfl rfl)
theorem zt_pl8_ok : ∀ e ∈ zt_pl8, zt_eOK "ColumnVault$Node" e := List.forall_mem_cons.mpr ⟨zt_e8_0, List.forall_mem_cons.mpr ⟨zt_e8_1, List.forall_mem_cons.mpr ⟨zt_e8_2, List.forall_mem_cons.mpr ⟨zt_e8_3, List.forall_mem_cons.mpr ⟨zt_e8_4, List.forall_mem_cons.mpr ⟨zt_e8_5, List.forall_mem_cons.mpr ⟨zt_e8_6, List.forall_mem_cons.mpr ⟨zt_e8_7, List.forall_mem_cons.mpr ⟨zt_e8_8, List.forall_mem_cons.mpr ⟨zt_e8_9, List.forall_mem_cons.mpr ⟨zt_e8_10, fun _ h => absurd h List.not_mem_nil⟩⟩⟩⟩⟩⟩⟩⟩⟩⟩⟩
set_option maxRecDepth 100000 in
theorem zt_lc8_ok : ∀ e ∈ zt_lc8, Cond.constantLong "ColumnVault$Node" e.1 e.2.1 ∈ zt_good := List.forall_mem_cons.mpr ⟨(zt_in (j := 3) (k := 224) rfl rfl), fun _ h => absurd h List.not_mem_nil⟩
set_option maxRecDepth 100000 in
theorem zt_e9_10 : zt_eOK "ColumnVault$Pairs" (49, 6, 92, 0, 4027) := ⟨_, rfl, (zt_in (j := 4) (k := 27) rfl rfl)⟩
set_option maxRecDepth 100000 in
theorem zt_e9_9 : zt_eOK "ColumnVault$Pairs" (45, 6, 91, 0, 4023) := ⟨_, rfl, (zt_in (j := 4) (k := 23) rfl rfl)⟩
set_option maxRecDepth 100000 in
theorem zt_e9_8 : zt_eOK "ColumnVault$Pairs" (41, 6, 14, 0, 4022) := ⟨_, rfl, (zt_in (j := 4) (k := 22) rfl rfl)⟩
set_option maxRecDepth 100000 in
theorem zt_e9_7 : zt_eOK "ColumnVault$Pairs" (35, 6, 16, 0, 4020) := ⟨_, rfl, (zt_in (j := 4) (k := 20) rfl rfl)⟩
set_option maxRecDepth 100000 in
theorem zt_e9_6 : zt_eOK "ColumnVault$Pairs" (31, 5, 90, 0, 4017) := ⟨_, "ColumnVault", rfl, (zt_inN (j := 4) (k := 17) rfl rfl)⟩
set_option maxRecDepth 100000 in
theorem zt_e9_5 : zt_eOK "ColumnVault$Pairs" (27, 1, 10, 5, 1069) := ⟨_, "ColumnVault", rfl, by decide, (zt_inN (j := 1) (k := 69) rfl rfl)⟩
set_option maxRecDepth 100000 in
theorem zt_e9_4 : zt_eOK "ColumnVault$Pairs" (22, 1, 10, 4, 1062) := ⟨_, "ColumnVault", rfl, by decide, (zt_inN (j := 1) (k := 62) rfl rfl)⟩
set_option maxRecDepth 100000 in
theorem zt_e9_3 : zt_eOK "ColumnVault$Pairs" (18, 0, 9, 2, 1138) := ⟨_, "ColumnVault$Pairs", rfl, by decide, (zt_in (j := 1) (k := 138) rfl rfl), Or.inl rfl⟩
set_option maxRecDepth 100000 in
theorem zt_e9_2 : zt_eOK "ColumnVault$Pairs" (15, 0, 9, 1, 1137) := ⟨_, "ColumnVault$Pairs", rfl, by decide, (zt_in (j := 1) (k := 137) rfl rfl), Or.inl rfl⟩
set_option maxRecDepth 100000 in
theorem zt_e9_1 : zt_eOK "ColumnVault$Pairs" (9, 0, 9, 0, 1136) := ⟨_, "ColumnVault$Pairs", rfl, by decide, (zt_in (j := 1) (k := 136) rfl rfl), Or.inl rfl⟩
set_option maxRecDepth 100000 in
theorem zt_e9_0 : zt_eOK "ColumnVault$Pairs" (3, 10, 0, 0, 1135) := (zt_in (j := 1) (k := 135) rfl rfl)
theorem zt_pl9_ok : ∀ e ∈ zt_pl9, zt_eOK "ColumnVault$Pairs" e := List.forall_mem_cons.mpr ⟨zt_e9_0, List.forall_mem_cons.mpr ⟨zt_e9_1, List.forall_mem_cons.mpr ⟨zt_e9_2, List.forall_mem_cons.mpr ⟨zt_e9_3, List.forall_mem_cons.mpr ⟨zt_e9_4, List.forall_mem_cons.mpr ⟨zt_e9_5, List.forall_mem_cons.mpr ⟨zt_e9_6, List.forall_mem_cons.mpr ⟨zt_e9_7, List.forall_mem_cons.mpr ⟨zt_e9_8, List.forall_mem_cons.mpr ⟨zt_e9_9, List.forall_mem_cons.mpr ⟨zt_e9_10, fun _ h => absurd h List.not_mem_nil⟩⟩⟩⟩⟩⟩⟩⟩⟩⟩⟩
set_option maxRecDepth 100000 in
theorem zt_lc9_ok : ∀ e ∈ zt_lc9, Cond.constantLong "ColumnVault$Pairs" e.1 e.2.1 ∈ zt_good := List.forall_mem_cons.mpr ⟨(zt_in (j := 4) (k := 21) rfl rfl), fun _ h => absurd h List.not_mem_nil⟩
set_option maxRecDepth 100000 in
theorem zt_e10_24 : zt_eOK "ColumnVault$Sheet" (110, 6, 121, 0, 4186) := ⟨_, rfl, (zt_in (j := 4) (k := 186) rfl rfl)⟩
set_option maxRecDepth 100000 in
theorem zt_e10_23 : zt_eOK "ColumnVault$Sheet" (106, 6, 119, 0, 4169) := ⟨_, rfl, (zt_in (j := 4) (k := 169) rfl rfl)⟩
set_option maxRecDepth 100000 in
theorem zt_e10_22 : zt_eOK "ColumnVault$Sheet" (102, 6, 120, 0, 4173) := ⟨_, rfl, (zt_in (j := 4) (k := 173) rfl rfl)⟩
set_option maxRecDepth 100000 in
theorem zt_e10_21 : zt_eOK "ColumnVault$Sheet" (98, 6, 104, 0, 4096) := ⟨_, rfl, (zt_in (j := 4) (k := 96) rfl rfl)⟩
set_option maxRecDepth 100000 in
theorem zt_e10_20 : zt_eOK "ColumnVault$Sheet" (94, 6, 15, 0, 2070) := ⟨_, rfl, (zt_in (j := 2) (k := 70) rfl rfl)⟩
set_option maxRecDepth 100000 in
theorem zt_e10_19 : zt_eOK "ColumnVault$Sheet" (86, 5, 90, 0, 4068) := ⟨_, "ColumnVault", rfl, (zt_inN (j := 4) (k := 68) rfl rfl)⟩
set_option maxRecDepth 100000 in
theorem zt_e10_18 : zt_eOK "ColumnVault$Sheet" (82, 5, 206, 0, 6077) := ⟨_, "ColumnVault", rfl, (zt_inN (j := 6) (k := 77) rfl rfl)⟩
set_option maxRecDepth 100000 in
theorem zt_e10_17 : zt_eOK "ColumnVault$Sheet" (79, 6, 50, 0, 6084) := ⟨_, rfl, (zt_in (j := 6) (k := 84) rfl rfl)⟩
set_option maxRecDepth 100000 in
theorem zt_e10_16 : zt_eOK "ColumnVault$Sheet" (73, 6, 195, 0, 6033) := ⟨_, rfl, (zt_in (j := 6) (k := 33) rfl rfl)⟩
set_option maxRecDepth 100000 in
theorem zt_e10_15 : zt_eOK "ColumnVault$Sheet" (69, 6, 27, 0, 2161) := ⟨_, rfl, (zt_in (j := 2) (k := 161) rfl rfl)⟩
set_option maxRecDepth 100000 in
theorem zt_e10_14 : zt_eOK "ColumnVault$Sheet" (63, 4, 12, 0, 2078) := ⟨_, rfl, (zt_in (j := 2) (k := 78) rfl rfl)⟩
set_option maxRecDepth 100000 in
theorem zt_e10_13 : zt_eOK "ColumnVault$Sheet" (60, 6, 14, 0, 2066) := ⟨_, rfl, (zt_in (j := 2) (k := 66) rfl rfl)⟩
set_option maxRecDepth 100000 in
theorem zt_e10_12 : zt_eOK "ColumnVault$Sheet" (56, 5, 45, 0, 3000) := ⟨_, "ColumnVault", rfl, (zt_inN (j := 3) (k := 0) rfl rfl)⟩
set_option maxRecDepth 100000 in
theorem zt_e10_11 : zt_eOK "ColumnVault$Sheet" (52, 6, 16, 0, 2074) := ⟨_, rfl, (zt_in (j := 2) (k := 74) rfl rfl)⟩
set_option maxRecDepth 100000 in
theorem zt_e10_10 : zt_eOK "ColumnVault$Sheet" (49, 6, 29, 0, 2169) := ⟨_, rfl, (zt_in (j := 2) (k := 169) rfl rfl)⟩
set_option maxRecDepth 100000 in
theorem zt_e10_9 : zt_eOK "ColumnVault$Sheet" (43, 6, 28, 0, 2165) := ⟨_, rfl, (zt_in (j := 2) (k := 165) rfl rfl)⟩
set_option maxRecDepth 100000 in
theorem zt_e10_8 : zt_eOK "ColumnVault$Sheet" (39, 6, 35, 0, 2239) := ⟨_, rfl, (zt_in (j := 2) (k := 239) rfl rfl)⟩
set_option maxRecDepth 100000 in
theorem zt_e10_7 : zt_eOK "ColumnVault$Sheet" (33, 17, 0, 0, 2154) := (zt_in (j := 2) (k := 154) rfl rfl)
set_option maxRecDepth 100000 in
theorem zt_e10_6 : zt_eOK "ColumnVault$Sheet" (29, 0, 10, 5, 1067) := ⟨_, "ColumnVault$Sheet", rfl, by decide, (zt_in (j := 1) (k := 67) rfl rfl), Or.inl rfl⟩
set_option maxRecDepth 100000 in
theorem zt_e10_5 : zt_eOK "ColumnVault$Sheet" (26, 0, 10, 4, 1061) := ⟨_, "ColumnVault$Sheet", rfl, by decide, (zt_in (j := 1) (k := 61) rfl rfl), Or.inl rfl⟩
set_option maxRecDepth 100000 in
theorem zt_e10_4 : zt_eOK "ColumnVault$Sheet" (22, 0, 10, 3, 1058) := ⟨_, "ColumnVault$Sheet", rfl, by decide, (zt_in (j := 1) (k := 58) rfl rfl), Or.inl rfl⟩
set_option maxRecDepth 100000 in
theorem zt_e10_3 : zt_eOK "ColumnVault$Sheet" (19, 0, 10, 2, 1057) := ⟨_, "ColumnVault$Sheet", rfl, by decide, (zt_in (j := 1) (k := 57) rfl rfl), Or.inl rfl⟩
set_option maxRecDepth 100000 in
theorem zt_e10_2 : zt_eOK "ColumnVault$Sheet" (15, 0, 10, 1, 1056) := ⟨_, "ColumnVault$Sheet", rfl, by decide, (zt_in (j := 1) (k := 56) rfl rfl), Or.inl rfl⟩
set_option maxRecDepth 100000 in
theorem zt_e10_1 : zt_eOK "ColumnVault$Sheet" (9, 0, 10, 0, 1055) := ⟨_, "ColumnVault$Sheet", rfl, by decide, (zt_in (j := 1) (k := 55) rfl rfl), Or.inl rfl⟩
set_option maxRecDepth 100000 in
theorem zt_e10_0 : zt_eOK "ColumnVault$Sheet" (3, 10, 0, 0, 1054) := (zt_in (j := 1) (k := 54) rfl rfl)
theorem zt_pl10_ok : ∀ e ∈ zt_pl10, zt_eOK "ColumnVault$Sheet" e := List.forall_mem_cons.mpr ⟨zt_e10_0, List.forall_mem_cons.mpr ⟨zt_e10_1, List.forall_mem_cons.mpr ⟨zt_e10_2, List.forall_mem_cons.mpr ⟨zt_e10_3, List.forall_mem_cons.mpr ⟨zt_e10_4, List.forall_mem_cons.mpr ⟨zt_e10_5, List.forall_mem_cons.mpr ⟨zt_e10_6, List.forall_mem_cons.mpr ⟨zt_e10_7, List.forall_mem_cons.mpr ⟨zt_e10_8, List.forall_mem_cons.mpr ⟨zt_e10_9, List.forall_mem_cons.mpr ⟨zt_e10_10, List.forall_mem_cons.mpr ⟨zt_e10_11, List.forall_mem_cons.mpr ⟨zt_e10_12, List.forall_mem_cons.mpr ⟨zt_e10_13, List.forall_mem_cons.mpr ⟨zt_e10_14, List.forall_mem_cons.mpr ⟨zt_e10_15, List.forall_mem_cons.mpr ⟨zt_e10_16, List.forall_mem_cons.mpr ⟨zt_e10_17, List.forall_mem_cons.mpr ⟨zt_e10_18, List.forall_mem_cons.mpr ⟨zt_e10_19, List.forall_mem_cons.mpr ⟨zt_e10_20, List.forall_mem_cons.mpr ⟨zt_e10_21, List.forall_mem_cons.mpr ⟨zt_e10_22, List.forall_mem_cons.mpr ⟨zt_e10_23, List.forall_mem_cons.mpr ⟨zt_e10_24, fun _ h => absurd h List.not_mem_nil⟩⟩⟩⟩⟩⟩⟩⟩⟩⟩⟩⟩⟩⟩⟩⟩⟩⟩⟩⟩⟩⟩⟩⟩⟩
set_option maxRecDepth 100000 in
theorem zt_lc10_ok : ∀ e ∈ zt_lc10, Cond.constantLong "ColumnVault$Sheet" e.1 e.2.1 ∈ zt_good := List.forall_mem_cons.mpr ⟨(zt_in (j := 2) (k := 65) rfl rfl), List.forall_mem_cons.mpr ⟨(zt_in (j := 4) (k := 86) rfl rfl), List.forall_mem_cons.mpr ⟨(zt_in (j := 4) (k := 87) rfl rfl), List.forall_mem_cons.mpr ⟨(zt_in (j := 4) (k := 177) rfl rfl), fun _ h => absurd h List.not_mem_nil⟩⟩⟩⟩
set_option maxRecDepth 100000 in
theorem zt_e11_14 : zt_eOK "ColumnVault$Tokens" (72, 16, 0, 2, 3104) := Or.inr (Or.inr ⟨rfl, (zt_in (j := 3) (k := 104) rfl rfl), (zt_in (j := 3) (k := 105) rfl rfl), (zt_in (j := 1) (k := 17) rfl rfl), (zt_in (j := 3) (k := 106) rfl rfl)⟩)
set_option maxRecDepth 100000 in
theorem zt_e11_13 : zt_eOK "ColumnVault$Tokens" (61, 6, 62, 0, 3097) := ⟨_, rfl, (zt_in (j := 3) (k := 97) rfl rfl)⟩
set_option maxRecDepth 100000 in
theorem zt_e11_12 : zt_eOK "ColumnVault$Tokens" (58, 6, 61, 0, 3092) := ⟨_, rfl, (zt_in (j := 3) (k := 92) rfl rfl)⟩
set_option maxRecDepth 100000 in
theorem zt_e11_11 : zt_eOK "ColumnVault$Tokens" (55, 5, 41, 0, 3091) := ⟨_, "ColumnVault", rfl, (zt_inN (j := 3) (k := 91) rfl rfl)⟩
set_option maxRecDepth 100000 in
theorem zt_e11_10 : zt_eOK "ColumnVault$Tokens" (51, 5, 60, 0, 3088) := ⟨_, "ColumnVault", rfl, (zt_inN (j := 3) (k := 88) rfl rfl)⟩
set_option maxRecDepth 100000 in
theorem zt_e11_9 : zt_eOK "ColumnVault$Tokens" (47, 6, 59, 0, 3084) := ⟨_, rfl, (zt_in (j := 3) (k := 84) rfl rfl)⟩
set_option maxRecDepth 100000 in
theorem zt_e11_8 : zt_eOK "ColumnVault$Tokens" (39, 16, 0, 0, 3108) := Or.inl ⟨rfl, (zt_in (j := 3) (k := 108) rfl rfl), (zt_in (j := 3) (k := 109) rfl rfl), (zt_in (j := 1) (k := 17) rfl rfl), (zt_in (j := 3) (k := 110) rfl rfl)⟩
set_option maxRecDepth 100000 in
theorem zt_e11_7 : zt_eOK "ColumnVault$Tokens" (35, 6, 58, 0, 3079) := ⟨_, rfl, (zt_in (j := 3) (k := 79) rfl rfl)⟩
set_option maxRecDepth 100000 in
theorem zt_e11_6 : zt_eOK "ColumnVault$Tokens" (31, 6, 57, 0, 3075) := ⟨_, rfl, (zt_in (j := 3) (k := 75) rfl rfl)⟩
set_option maxRecDepth 100000 in
theorem zt_e11_5 : zt_eOK "ColumnVault$Tokens" (26, 1, 4, 1, 1104) := ⟨_, "ColumnVault", rfl, by decide, (zt_inN (j := 1) (k := 104) rfl rfl)⟩
set_option maxRecDepth 100000 in
theorem zt_e11_4 : zt_eOK "ColumnVault$Tokens" (22, 0, 11, 3, 1120) := ⟨_, "ColumnVault$Tokens", rfl, by decide, (zt_in (j := 1) (k := 120) rfl rfl), Or.inl rfl⟩
set_option maxRecDepth 100000 in
theorem zt_e11_3 : zt_eOK "ColumnVault$Tokens" (18, 0, 11, 2, 1119) := ⟨_, "ColumnVault$Tokens", rfl, by decide, (zt_in (j := 1) (k := 119) rfl rfl), Or.inl rfl⟩
set_option maxRecDepth 100000 in
theorem zt_e11_2 : zt_eOK "ColumnVault$Tokens" (15, 0, 11, 1, 1118) := ⟨_, "ColumnVault$Tokens", rfl, by decide, (zt_in (j := 1) (k := 118) rfl rfl), Or.inl rfl⟩
set_option maxRecDepth 100000 in
theorem zt_e11_1 : zt_eOK "ColumnVault$Tokens" (9, 0, 11, 0, 1117) := ⟨_, "ColumnVault$Tokens", rfl, by decide, (zt_in (j := 1) (k := 117) rfl rfl), Or.inl rfl⟩
set_option maxRecDepth 100000 in
theorem zt_e11_0 : zt_eOK "ColumnVault$Tokens" (3, 10, 0, 0, 1116) := (zt_in (j := 1) (k := 116) rfl rfl)
theorem zt_pl11_ok : ∀ e ∈ zt_pl11, zt_eOK "ColumnVault$Tokens" e := List.forall_mem_cons.mpr ⟨zt_e11_0, List.forall_mem_cons.mpr ⟨zt_e11_1, List.forall_mem_cons.mpr ⟨zt_e11_2, List.forall_mem_cons.mpr ⟨zt_e11_3, List.forall_mem_cons.mpr ⟨zt_e11_4, List.forall_mem_cons.mpr ⟨zt_e11_5, List.forall_mem_cons.mpr ⟨zt_e11_6, List.forall_mem_cons.mpr ⟨zt_e11_7, List.forall_mem_cons.mpr ⟨zt_e11_8, List.forall_mem_cons.mpr ⟨zt_e11_9, List.forall_mem_cons.mpr ⟨zt_e11_10, List.forall_mem_cons.mpr ⟨zt_e11_11, List.forall_mem_cons.mpr ⟨zt_e11_12, List.forall_mem_cons.mpr ⟨zt_e11_13, List.forall_mem_cons.mpr ⟨zt_e11_14, fun _ h => absurd h List.not_mem_nil⟩⟩⟩⟩⟩⟩⟩⟩⟩⟩⟩⟩⟩⟩⟩
set_option maxRecDepth 100000 in
theorem zt_lc11_ok : ∀ e ∈ zt_lc11, Cond.constantLong "ColumnVault$Tokens" e.1 e.2.1 ∈ zt_good := List.forall_mem_cons.mpr ⟨(zt_in (j := 3) (k := 83) rfl rfl), List.forall_mem_cons.mpr ⟨(zt_in (j := 3) (k := 96) rfl rfl), List.forall_mem_cons.mpr ⟨(zt_in (j := 3) (k := 101) rfl rfl), List.forall_mem_cons.mpr ⟨(zt_in (j := 3) (k := 102) rfl rfl), List.forall_mem_cons.mpr ⟨(zt_in (j := 3) (k := 103) rfl rfl), List.forall_mem_cons.mpr ⟨(zt_in (j := 3) (k := 107) rfl rfl), fun _ h => absurd h List.not_mem_nil⟩⟩⟩⟩⟩⟩
set_option maxRecDepth 100000 in
theorem zt_e12_131 : zt_eOK "ColumnVault" (423, 1, 8, 4, 3129) := ⟨_, "ColumnVault", rfl, by decide, (zt_inN (j := 3) (k := 129) rfl rfl)⟩
set_option maxRecDepth 100000 in
theorem zt_e12_130 : zt_eOK "ColumnVault" (420, 1, 8, 6, 3133) := ⟨_, "ColumnVault", rfl, by decide, (zt_inN (j := 3) (k := 133) rfl rfl)⟩
set_option maxRecDepth 100000 in
theorem zt_e12_129 : zt_eOK "ColumnVault" (417, 1, 8, 2, 3126) := ⟨_, "ColumnVault", rfl, by decide, (zt_inN (j := 3) (k := 126) rfl rfl)⟩
set_option maxRecDepth 100000 in
theorem zt_e12_128 : zt_eOK "ColumnVault" (413, 1, 8, 5, 3131) := ⟨_, "ColumnVault", rfl, by decide, (zt_inN (j := 3) (k := 131) rfl rfl)⟩
set_option maxRecDepth 100000 in
theorem zt_e12_127 : zt_eOK "ColumnVault" (410, 1, 8, 0, 3122) := ⟨_, "ColumnVault", rfl, by decide, (zt_inN (j := 3) (k := 122) rfl rfl)⟩
set_option maxRecDepth 100000 in
theorem zt_e12_126 : zt_eOK "ColumnVault" (408, 13, 0, 0, 4110) := ⟨"no values", zt_ch_in (j := 4) (List.mem_of_getElem? (i := 110) rfl), fun h => absurd h (by decide)⟩
set_option maxRecDepth 100000 in
theorem zt_e12_125 : zt_eOK "ColumnVault" (404, 6, 107, 0, 4097) := ⟨_, rfl, (zt_in (j := 4) (k := 97) rfl rfl)⟩
set_option maxRecDepth 100000 in
theorem zt_e12_124 : zt_eOK "ColumnVault" (400, 6, 106, 0, 4092) := ⟨_, rfl, (zt_in (j := 4) (k := 92) rfl rfl)⟩
set_option maxRecDepth 100000 in
theorem zt_e12_123 : zt_eOK "ColumnVault" (398, 13, 0, 0, 4081) := ⟨"no such total", zt_ch_in (j := 4) (List.mem_of_getElem? (i := 81) rfl), fun h => absurd h (by decide)⟩
set_option maxRecDepth 100000 in
theorem zt_e12_122 : zt_eOK "ColumnVault" (395, 4, 41, 0, 2223) := ⟨_, rfl, (zt_in (j := 2) (k := 223) rfl rfl)⟩
set_option maxRecDepth 100000 in
theorem zt_e12_121 : zt_eOK "ColumnVault" (387, 13, 0, 0, 4011) := ⟨"columns of different kinds", zt_ch_in (j := 4) (List.mem_of_getElem? (i := 11) rfl), fun h => absurd h (by decide)⟩
set_option maxRecDepth 100000 in
theorem zt_e12_120 : zt_eOK "ColumnVault" (385, 13, 0, 0, 4199) := ⟨"a column of texts", zt_ch_in (j := 4) (List.mem_of_getElem? (i := 199) rfl), fun h => absurd h (by decide)⟩
set_option maxRecDepth 100000 in
theorem zt_e12_119 : zt_eOK "ColumnVault" (383, 13, 0, 0, 2226) := ⟨"no value of this kind", zt_ch_in (j := 2) (List.mem_of_getElem? (i := 226) rfl), fun h => absurd h (by decide)⟩
set_option maxRecDepth 100000 in
theorem zt_e12_118 : zt_eOK "ColumnVault" (380, 4, 40, 0, 2219) := ⟨_, rfl, (zt_in (j := 2) (k := 219) rfl rfl)⟩
set_option maxRecDepth 100000 in
theorem zt_e12_117 : zt_eOK "ColumnVault" (378, 13, 0, 0, 3019) := ⟨"no such place", zt_ch_in (j := 3) (List.mem_of_getElem? (i := 19) rfl), fun h => absurd h (by decide)⟩
set_option maxRecDepth 100000 in
theorem zt_e12_116 : zt_eOK "ColumnVault" (376, 13, 0, 0, 2214) := ⟨"no such row", zt_ch_in (j := 2) (List.mem_of_getElem? (i := 214) rfl), fun h => absurd h (by decide)⟩
set_option maxRecDepth 100000 in
theorem zt_e12_115 : zt_eOK "ColumnVault" (373, 6, 29, 0, 2213) := ⟨_, rfl, (zt_in (j := 2) (k := 213) rfl rfl)⟩
set_option maxRecDepth 100000 in
theorem zt_e12_114 : zt_eOK "ColumnVault" (371, 13, 0, 0, 2194) := ⟨"no such column", zt_ch_in (j := 2) (List.mem_of_getElem? (i := 194) rfl), fun h => absurd h (by decide)⟩
set_option maxRecDepth 100000 in
theorem zt_e12_113 : zt_eOK "ColumnVault" (368, 6, 28, 0, 2193) := ⟨_, rfl, (zt_in (j := 2) (k := 193) rfl rfl)⟩
set_option maxRecDepth 100000 in
theorem zt_e12_112 : zt_eOK "ColumnVault" (366, 13, 0, 0, 4048) := ⟨"no such group", zt_ch_in (j := 4) (List.mem_of_getElem? (i := 48) rfl), fun h => absurd h (by decide)⟩
set_option maxRecDepth 100000 in
theorem zt_e12_111 : zt_eOK "ColumnVault" (364, 13, 0, 0, 3238) := ⟨"the text has an error", zt_ch_in (j := 3) (List.mem_of_getElem? (i := 238) rfl), fun h => absurd h (by decide)⟩
set_option maxRecDepth 100000 in
theorem zt_e12_110 : zt_eOK "ColumnVault" (361, 8, 54, 0, 3039) := ⟨_, rfl, (zt_in (j := 3) (k := 39) rfl rfl)⟩
set_option maxRecDepth 100000 in
theorem zt_e12_109 : zt_eOK "ColumnVault" (359, 13, 0, 0, 2028) := ⟨"no such table", zt_ch_in (j := 2) (List.mem_of_getElem? (i := 28) rfl), fun h => absurd h (by decide)⟩
set_option maxRecDepth 100000 in
theorem zt_e12_108 : zt_eOK "ColumnVault" (356, 6, 11, 0, 1222) := ⟨_, rfl, (zt_in (j := 1) (k := 222) rfl rfl)⟩
set_option maxRecDepth 100000 in
theorem zt_e12_107 : zt_eOK "ColumnVault" (353, 6, 104, 0, 4082) := ⟨_, rfl, (zt_in (j := 4) (k := 82) rfl rfl)⟩
set_option maxRecDepth 100000 in
theorem zt_e12_106 : zt_eOK "ColumnVault" (350, 6, 246, 0, 7016) := ⟨_, rfl, (zt_in (j := 7) (k := 16) rfl rfl)⟩
set_option maxRecDepth 100000 in
theorem zt_e12_105 : zt_eOK "ColumnVault" (348, 13, 0, 0, 4187) := ⟨"no such comparison", zt_ch_in (j := 4) (List.mem_of_getElem? (i := 187) rfl), fun h => absurd h (by decide)⟩
set_option maxRecDepth 100000 in
theorem zt_e12_104 : zt_eOK "ColumnVault" (345, 6, 122, 0, 4182) := ⟨_, rfl, (zt_in (j := 4) (k := 182) rfl rfl)⟩
set_option maxRecDepth 100000 in
theorem zt_e12_103 : zt_eOK "ColumnVault" (342, 6, 121, 0, 4178) := ⟨_, rfl, (zt_in (j := 4) (k := 178) rfl rfl)⟩
set_option maxRecDepth 100000 in
theorem zt_e12_102 : zt_eOK "ColumnVault" (339, 6, 118, 0, 4165) := ⟨_, rfl, (zt_in (j := 4) (k := 165) rfl rfl)⟩
set_option maxRecDepth 100000 in
theorem zt_e12_101 : zt_eOK "ColumnVault" (337, 13, 0, 0, 4164) := ⟨"the columns are not of the same kinds", zt_ch_in (j := 4) (List.mem_of_getElem? (i := 164) rfl), fun h => absurd h (by decide)⟩
set_option maxRecDepth 100000 in
theorem zt_e12_100 : zt_eOK "ColumnVault" (333, 6, 117, 0, 4160) := ⟨_, rfl, (zt_in (j := 4) (k := 160) rfl rfl)⟩
set_option maxRecDepth 100000 in
theorem zt_e12_99 : zt_eOK "ColumnVault" (330, 4, 45, 0, 4138) := ⟨_, rfl, (zt_in (j := 4) (k := 138) rfl rfl)⟩
set_option maxRecDepth 100000 in
theorem zt_e12_98 : zt_eOK "ColumnVault" (328, 13, 0, 0, 4137) := ⟨"no value on that side", zt_ch_in (j := 4) (List.mem_of_getElem? (i := 137) rfl), fun h => absurd h (by decide)⟩
set_option maxRecDepth 100000 in
theorem zt_e12_97 : zt_eOK "ColumnVault" (324, 6, 111, 0, 4133) := ⟨_, rfl, (zt_in (j := 4) (k := 133) rfl rfl)⟩
set_option maxRecDepth 100000 in
theorem zt_e12_96 : zt_eOK "ColumnVault" (320, 6, 15, 0, 4124) := ⟨_, rfl, (zt_in (j := 4) (k := 124) rfl rfl)⟩
set_option maxRecDepth 100000 in
theorem zt_e12_95 : zt_eOK "ColumnVault" (315, 6, 14, 0, 4122) := ⟨_, rfl, (zt_in (j := 4) (k := 122) rfl rfl)⟩
set_option maxRecDepth 100000 in
theorem zt_e12_94 : zt_eOK "ColumnVault" (312, 13, 0, 0, 4121) := ⟨"the value is missing", zt_ch_in (j := 4) (List.mem_of_getElem? (i := 121) rfl), fun h => absurd h (by decide)⟩
set_option maxRecDepth 100000 in
theorem zt_e12_93 : zt_eOK "ColumnVault" (310, 2, 16, 999, 4101) := ⟨"java/util/NoSuchElementException", (zt_in (j := 4) (k := 101) rfl rfl), Or.inr rfl, Or.inl rfl⟩
set_option maxRecDepth 100000 in
theorem zt_e12_92 : zt_eOK "ColumnVault" (307, 6, 105, 0, 4088) := ⟨_, rfl, (zt_in (j := 4) (k := 88) rfl rfl)⟩
set_option maxRecDepth 100000 in
theorem zt_e12_91 : zt_eOK "ColumnVault" (304, 6, 126, 0, 4200) := ⟨_, rfl, (zt_in (j := 4) (k := 200) rfl rfl)⟩
set_option maxRecDepth 100000 in
theorem zt_e12_90 : zt_eOK "ColumnVault" (301, 4, 125, 0, 4196) := ⟨_, rfl, (zt_in (j := 4) (k := 196) rfl rfl)⟩
set_option maxRecDepth 100000 in
theorem zt_e12_89 : zt_eOK "ColumnVault" (298, 4, 34, 0, 2190) := ⟨_, rfl, (zt_in (j := 2) (k := 190) rfl rfl)⟩
set_option maxRecDepth 100000 in
theorem zt_e12_88 : zt_eOK "ColumnVault" (294, 4, 103, 0, 4078) := ⟨_, rfl, (zt_in (j := 4) (k := 78) rfl rfl)⟩
set_option maxRecDepth 100000 in
theorem zt_e12_87 : zt_eOK "ColumnVault" (292, 13, 0, 0, 4073) := ⟨"nothing known of that", zt_ch_in (j := 4) (List.mem_of_getElem? (i := 73) rfl), fun h => absurd h (by decide)⟩
set_option maxRecDepth 100000 in
theorem zt_e12_86 : zt_eOK "ColumnVault" (289, 6, 101, 0, 4069) := ⟨_, rfl, (zt_in (j := 4) (k := 69) rfl rfl)⟩
set_option maxRecDepth 100000 in
theorem zt_e12_85 : zt_eOK "ColumnVault" (286, 6, 100, 0, 4064) := ⟨_, rfl, (zt_in (j := 4) (k := 64) rfl rfl)⟩
set_option maxRecDepth 100000 in
theorem zt_e12_84 : zt_eOK "ColumnVault" (282, 1, 5, 0, 1157) := ⟨_, "ColumnVault", rfl, by decide, (zt_inN (j := 1) (k := 157) rfl rfl)⟩
set_option maxRecDepth 100000 in
theorem zt_e12_83 : zt_eOK "ColumnVault" (279, 6, 99, 0, 4060) := ⟨_, rfl, (zt_in (j := 4) (k := 60) rfl rfl)⟩
set_option maxRecDepth 100000 in
theorem zt_e12_82 : zt_eOK "ColumnVault" (275, 6, 97, 0, 4049) := ⟨_, rfl, (zt_in (j := 4) (k := 49) rfl rfl)⟩
set_option maxRecDepth 100000 in
theorem zt_e12_81 : zt_eOK "ColumnVault" (272, 6, 96, 0, 4044) := ⟨_, rfl, (zt_in (j := 4) (k := 44) rfl rfl)⟩
set_option maxRecDepth 100000 in
theorem zt_e12_80 : zt_eOK "ColumnVault" (271, 1, 5, 4, 1163) := ⟨_, "ColumnVault", rfl, by decide, (zt_inN (j := 1) (k := 163) rfl rfl)⟩
set_option maxRecDepth 100000 in
theorem zt_e12_79 : zt_eOK "ColumnVault" (269, 6, 250, 0, 8143) := ⟨_, rfl, (zt_in (j := 8) (k := 143) rfl rfl)⟩
set_option maxRecDepth 100000 in
theorem zt_e12_78 : zt_eOK "ColumnVault" (266, 6, 287, 0, 8104) := ⟨_, rfl, (zt_in (j := 8) (k := 104) rfl rfl)⟩
set_option maxRecDepth 100000 in
theorem zt_e12_77 : zt_eOK "ColumnVault" (263, 8, 286, 0, 8087) := ⟨_, rfl, (zt_in (j := 8) (k := 87) rfl rfl)⟩
set_option maxRecDepth 100000 in
theorem zt_e12_76 : zt_eOK "ColumnVault" (261, 2, 7, 999, 8085) := ⟨"ColumnVault$JoinWays", (zt_in (j := 8) (k := 85) rfl rfl), Or.inr rfl, Or.inl rfl⟩
set_option maxRecDepth 100000 in
theorem zt_e12_75 : zt_eOK "ColumnVault" (257, 6, 94, 0, 4036) := ⟨_, rfl, (zt_in (j := 4) (k := 36) rfl rfl)⟩
set_option maxRecDepth 100000 in
theorem zt_e12_74 : zt_eOK "ColumnVault" (255, 13, 0, 0, 4035) := ⟨"no such pair", zt_ch_in (j := 4) (List.mem_of_getElem? (i := 35) rfl), fun h => absurd h (by decide)⟩
set_option maxRecDepth 100000 in
theorem zt_e12_73 : zt_eOK "ColumnVault" (252, 1, 9, 2, 1139) := ⟨_, "ColumnVault", rfl, by decide, (zt_inN (j := 1) (k := 139) rfl rfl)⟩
set_option maxRecDepth 100000 in
theorem zt_e12_72 : zt_eOK "ColumnVault" (248, 6, 89, 0, 4013) := ⟨_, rfl, (zt_in (j := 4) (k := 13) rfl rfl)⟩
set_option maxRecDepth 100000 in
theorem zt_e12_71 : zt_eOK "ColumnVault" (246, 13, 0, 0, 4012) := ⟨"no such join", zt_ch_in (j := 4) (List.mem_of_getElem? (i := 12) rfl), fun h => absurd h (by decide)⟩
set_option maxRecDepth 100000 in
theorem zt_e12_70 : zt_eOK "ColumnVault" (242, 4, 88, 0, 4008) := ⟨_, rfl, (zt_in (j := 4) (k := 8) rfl rfl)⟩
set_option maxRecDepth 100000 in
theorem zt_e12_69 : zt_eOK "ColumnVault" (227, 6, 114, 0, 4147) := ⟨_, rfl, (zt_in (j := 4) (k := 147) rfl rfl)⟩
set_option maxRecDepth 100000 in
theorem zt_e12_68 : zt_eOK "ColumnVault" (225, 13, 0, 0, 4146) := ⟨"the text would be too long", zt_ch_in (j := 4) (List.mem_of_getElem? (i := 146) rfl), fun h => absurd h (by decide)⟩
set_option maxRecDepth 100000 in
theorem zt_e12_67 : zt_eOK "ColumnVault" (222, 4, 113, 0, 4143) := ⟨_, rfl, (zt_in (j := 4) (k := 143) rfl rfl)⟩
set_option maxRecDepth 100000 in
theorem zt_e12_66 : zt_eOK "ColumnVault" (219, 1, 4, 1, 1105) := ⟨_, "ColumnVault", rfl, by decide, (zt_inN (j := 1) (k := 105) rfl rfl)⟩
set_option maxRecDepth 100000 in
theorem zt_e12_65 : zt_eOK "ColumnVault" (216, 1, 3, 6, 3051) := ⟨_, "ColumnVault", rfl, by decide, (zt_inN (j := 3) (k := 51) rfl rfl)⟩
set_option maxRecDepth 100000 in
theorem zt_e12_64 : zt_eOK "ColumnVault" (213, 1, 3, 5, 3049) := ⟨_, "ColumnVault", rfl, by decide, (zt_inN (j := 3) (k := 49) rfl rfl)⟩
set_option maxRecDepth 100000 in
theorem zt_e12_63 : zt_eOK "ColumnVault" (208, 2, 3, 999, 3037) := ⟨"ColumnVault$FilterReader", (zt_in (j := 3) (k := 37) rfl rfl), Or.inr rfl, Or.inl rfl⟩
set_option maxRecDepth 100000 in
theorem zt_e12_62 : zt_eOK "ColumnVault" (207, 6, 55, 0, 3067) := ⟨_, rfl, (zt_in (j := 3) (k := 67) rfl rfl)⟩
set_option maxRecDepth 100000 in
theorem zt_e12_61 : zt_eOK "ColumnVault" (203, 6, 53, 0, 3033) := ⟨_, rfl, (zt_in (j := 3) (k := 33) rfl rfl)⟩
set_option maxRecDepth 100000 in
theorem zt_e12_60 : zt_eOK "ColumnVault" (199, 4, 277, 0, 7201) := ⟨_, rfl, (zt_in (j := 7) (k := 201) rfl rfl)⟩
set_option maxRecDepth 100000 in
theorem zt_e12_59 : zt_eOK "ColumnVault" (195, 6, 68, 0, 7200) := ⟨_, rfl, (zt_in (j := 7) (k := 200) rfl rfl)⟩
set_option maxRecDepth 100000 in
theorem zt_e12_58 : zt_eOK "ColumnVault" (188, 1, 8, 1, 3124) := ⟨_, "ColumnVault", rfl, by decide, (zt_inN (j := 3) (k := 124) rfl rfl)⟩
set_option maxRecDepth 100000 in
theorem zt_e12_57 : zt_eOK "ColumnVault" (184, 6, 52, 0, 3029) := ⟨_, rfl, (zt_in (j := 3) (k := 29) rfl rfl)⟩
set_option maxRecDepth 100000 in
theorem zt_e12_56 : zt_eOK "ColumnVault" (182, 13, 0, 0, 3028) := ⟨"no such way to choose", zt_ch_in (j := 3) (List.mem_of_getElem? (i := 28) rfl), fun h => absurd h (by decide)⟩
set_option maxRecDepth 100000 in
theorem zt_e12_55 : zt_eOK "ColumnVault" (178, 4, 90, 0, 6050) := ⟨_, rfl, (zt_in (j := 6) (k := 50) rfl rfl)⟩
set_option maxRecDepth 100000 in
theorem zt_e12_54 : zt_eOK "ColumnVault" (175, 6, 202, 0, 6060) := ⟨_, rfl, (zt_in (j := 6) (k := 60) rfl rfl)⟩
set_option maxRecDepth 100000 in
theorem zt_e12_53 : zt_eOK "ColumnVault" (172, 6, 50, 0, 3020) := ⟨_, rfl, (zt_in (j := 3) (k := 20) rfl rfl)⟩
set_option maxRecDepth 100000 in
theorem zt_e12_52 : zt_eOK "ColumnVault" (169, 4, 49, 0, 3016) := ⟨_, rfl, (zt_in (j := 3) (k := 16) rfl rfl)⟩
set_option maxRecDepth 100000 in
theorem zt_e12_51 : zt_eOK "ColumnVault" (165, 6, 207, 0, 6080) := ⟨_, rfl, (zt_in (j := 6) (k := 80) rfl rfl)⟩
set_option maxRecDepth 100000 in
theorem zt_e12_50 : zt_eOK "ColumnVault" (161, 6, 205, 0, 6073) := ⟨_, rfl, (zt_in (j := 6) (k := 73) rfl rfl)⟩
set_option maxRecDepth 100000 in
theorem zt_e12_49 : zt_eOK "ColumnVault" (158, 6, 24, 0, 2145) := ⟨_, rfl, (zt_in (j := 2) (k := 145) rfl rfl)⟩
set_option maxRecDepth 100000 in
theorem zt_e12_48 : zt_eOK "ColumnVault" (155, 13, 0, 0, 3011) := ⟨"no such version", zt_ch_in (j := 3) (List.mem_of_getElem? (i := 11) rfl), fun h => absurd h (by decide)⟩
set_option maxRecDepth 100000 in
theorem zt_e12_47 : zt_eOK "ColumnVault" (153, 2, 13, 999, 1226) := ⟨"java/lang/IndexOutOfBoundsException", (zt_in (j := 1) (k := 226) rfl rfl), Or.inr rfl, Or.inl rfl⟩
set_option maxRecDepth 100000 in
theorem zt_e12_46 : zt_eOK "ColumnVault" (149, 6, 47, 0, 3007) := ⟨_, rfl, (zt_in (j := 3) (k := 7) rfl rfl)⟩
set_option maxRecDepth 100000 in
theorem zt_e12_45 : zt_eOK "ColumnVault" (146, 1, 6, 1, 1090) := ⟨_, "ColumnVault", rfl, by decide, (zt_inN (j := 1) (k := 90) rfl rfl)⟩
set_option maxRecDepth 100000 in
theorem zt_e12_44 : zt_eOK "ColumnVault" (144, 13, 0, 0, 2088) := ⟨"no such size", zt_ch_in (j := 2) (List.mem_of_getElem? (i := 88) rfl), fun h => absurd h (by decide)⟩
set_option maxRecDepth 100000 in
theorem zt_e12_43 : zt_eOK "ColumnVault" (141, 6, 13, 0, 2061) := ⟨_, rfl, (zt_in (j := 2) (k := 61) rfl rfl)⟩
set_option maxRecDepth 100000 in
theorem zt_e12_42 : zt_eOK "ColumnVault" (137, 4, 12, 0, 2055) := ⟨_, rfl, (zt_in (j := 2) (k := 55) rfl rfl)⟩
set_option maxRecDepth 100000 in
theorem zt_e12_41 : zt_eOK "ColumnVault" (133, 1, 10, 5, 1072) := ⟨_, "ColumnVault", rfl, by decide, (zt_inN (j := 1) (k := 72) rfl rfl)⟩
set_option maxRecDepth 100000 in
theorem zt_e12_40 : zt_eOK "ColumnVault" (130, 6, 44, 0, 2235) := ⟨_, rfl, (zt_in (j := 2) (k := 235) rfl rfl)⟩
set_option maxRecDepth 100000 in
theorem zt_e12_39 : zt_eOK "ColumnVault" (126, 6, 194, 0, 6029) := ⟨_, rfl, (zt_in (j := 6) (k := 29) rfl rfl)⟩
set_option maxRecDepth 100000 in
theorem zt_e12_38 : zt_eOK "ColumnVault" (122, 4, 42, 0, 2228) := ⟨_, rfl, (zt_in (j := 2) (k := 228) rfl rfl)⟩
set_option maxRecDepth 100000 in
theorem zt_e12_37 : zt_eOK "ColumnVault" (118, 6, 16, 0, 2227) := ⟨_, rfl, (zt_in (j := 2) (k := 227) rfl rfl)⟩
set_option maxRecDepth 100000 in
theorem zt_e12_36 : zt_eOK "ColumnVault" (114, 4, 39, 0, 2216) := ⟨_, rfl, (zt_in (j := 2) (k := 216) rfl rfl)⟩
set_option maxRecDepth 100000 in
theorem zt_e12_35 : zt_eOK "ColumnVault" (108, 4, 38, 0, 2210) := ⟨_, rfl, (zt_in (j := 2) (k := 210) rfl rfl)⟩
set_option maxRecDepth 100000 in
theorem zt_e12_34 : zt_eOK "ColumnVault" (104, 6, 27, 0, 2205) := ⟨_, rfl, (zt_in (j := 2) (k := 205) rfl rfl)⟩
set_option maxRecDepth 100000 in
theorem zt_e12_33 : zt_eOK "ColumnVault" (102, 13, 0, 0, 2204) := ⟨"no such numbers", zt_ch_in (j := 2) (List.mem_of_getElem? (i := 204) rfl), fun h => absurd h (by decide)⟩
set_option maxRecDepth 100000 in
theorem zt_e12_32 : zt_eOK "ColumnVault" (98, 4, 36, 0, 2199) := ⟨_, rfl, (zt_in (j := 2) (k := 199) rfl rfl)⟩
set_option maxRecDepth 100000 in
theorem zt_e12_31 : zt_eOK "ColumnVault" (95, 6, 35, 0, 2195) := ⟨_, rfl, (zt_in (j := 2) (k := 195) rfl rfl)⟩
set_option maxRecDepth 100000 in
theorem zt_e12_30 : zt_eOK "ColumnVault" (91, 6, 33, 0, 2186) := ⟨_, rfl, (zt_in (j := 2) (k := 186) rfl rfl)⟩
set_option maxRecDepth 100000 in
theorem zt_e12_29 : zt_eOK "ColumnVault" (87, 6, 31, 0, 2178) := ⟨_, rfl, (zt_in (j := 2) (k := 178) rfl rfl)⟩
set_option maxRecDepth 100000 in
theorem zt_e12_28 : zt_eOK "ColumnVault" (85, 13, 0, 0, 2177) := ⟨"too many rows", zt_ch_in (j := 2) (List.mem_of_getElem? (i := 177) rfl), fun h => absurd h (by decide)⟩
set_option maxRecDepth 100000 in
theorem zt_e12_27 : zt_eOK "ColumnVault" (82, 1, 10, 4, 1064) := ⟨_, "ColumnVault", rfl, by decide, (zt_inN (j := 1) (k := 64) rfl rfl)⟩
set_option maxRecDepth 100000 in
theorem zt_e12_26 : zt_eOK "ColumnVault" (78, 6, 26, 0, 2157) := ⟨_, rfl, (zt_in (j := 2) (k := 157) rfl rfl)⟩
set_option maxRecDepth 100000 in
theorem zt_e12_25 : zt_eOK "ColumnVault" (75, 6, 23, 0, 2141) := ⟨_, rfl, (zt_in (j := 2) (k := 141) rfl rfl)⟩
set_option maxRecDepth 100000 in
theorem zt_e12_24 : zt_eOK "ColumnVault" (72, 13, 0, 0, 2134) := ⟨"too many columns", zt_ch_in (j := 2) (List.mem_of_getElem? (i := 134) rfl), fun h => absurd h (by decide)⟩
set_option maxRecDepth 100000 in
theorem zt_e12_23 : zt_eOK "ColumnVault" (70, 2, 15, 999, 2125) := ⟨"java/lang/IllegalStateException", (zt_in (j := 2) (k := 125) rfl rfl), Or.inr rfl, Or.inl rfl⟩
set_option maxRecDepth 100000 in
theorem zt_e12_22 : zt_eOK "ColumnVault" (64, 1, 10, 3, 1060) := ⟨_, "ColumnVault", rfl, by decide, (zt_inN (j := 1) (k := 60) rfl rfl)⟩
set_option maxRecDepth 100000 in
theorem zt_e12_21 : zt_eOK "ColumnVault" (59, 13, 0, 0, 2124) := ⟨"no such kind", zt_ch_in (j := 2) (List.mem_of_getElem? (i := 124) rfl), fun h => absurd h (by decide)⟩
set_option maxRecDepth 100000 in
theorem zt_e12_20 : zt_eOK "ColumnVault" (57, 2, 14, 999, 2079) := ⟨"java/lang/IllegalArgumentException", (zt_in (j := 2) (k := 79) rfl rfl), Or.inr rfl, Or.inl rfl⟩
set_option maxRecDepth 100000 in
theorem zt_e12_19 : zt_eOK "ColumnVault" (53, 6, 10, 0, 1218) := ⟨_, rfl, (zt_in (j := 1) (k := 218) rfl rfl)⟩
set_option maxRecDepth 100000 in
theorem zt_e12_18 : zt_eOK "ColumnVault" (49, 0, 12, 5, 1200) := ⟨_, "ColumnVault", rfl, by decide, (zt_in (j := 1) (k := 200) rfl rfl), Or.inl rfl⟩
set_option maxRecDepth 100000 in
theorem zt_e12_17 : zt_eOK "ColumnVault" (48, 9, 8, 0, 1177) := ⟨_, "ColumnVault", rfl, (zt_inN (j := 1) (k := 177) rfl rfl)⟩
set_option maxRecDepth 100000 in
theorem zt_e12_16 : zt_eOK "ColumnVault" (46, 2, 2, 999, 1175) := ⟨"ColumnVault$Checks", (zt_in (j := 1) (k := 175) rfl rfl), Or.inr rfl, Or.inl rfl⟩
set_option maxRecDepth 100000 in
theorem zt_e12_15 : zt_eOK "ColumnVault" (42, 0, 12, 4, 1199) := ⟨_, "ColumnVault", rfl, by decide, (zt_in (j := 1) (k := 199) rfl rfl), Or.inl rfl⟩
set_option maxRecDepth 100000 in
theorem zt_e12_14 : zt_eOK "ColumnVault" (41, 9, 7, 0, 1149) := ⟨_, "ColumnVault", rfl, (zt_inN (j := 1) (k := 149) rfl rfl)⟩
set_option maxRecDepth 100000 in
theorem zt_e12_13 : zt_eOK "ColumnVault" (39, 2, 5, 999, 1147) := ⟨"ColumnVault$Groups", (zt_in (j := 1) (k := 147) rfl rfl), Or.inr rfl, Or.inl rfl⟩
set_option maxRecDepth 100000 in
theorem zt_e12_12 : zt_eOK "ColumnVault" (35, 0, 12, 3, 1198) := ⟨_, "ColumnVault", rfl, by decide, (zt_in (j := 1) (k := 198) rfl rfl), Or.inl rfl⟩
set_option maxRecDepth 100000 in
theorem zt_e12_11 : zt_eOK "ColumnVault" (34, 9, 6, 0, 1132) := ⟨_, "ColumnVault", rfl, (zt_inN (j := 1) (k := 132) rfl rfl)⟩
set_option maxRecDepth 100000 in
theorem zt_e12_10 : zt_eOK "ColumnVault" (32, 2, 9, 999, 1130) := ⟨"ColumnVault$Pairs", (zt_in (j := 1) (k := 130) rfl rfl), Or.inr rfl, Or.inl rfl⟩
set_option maxRecDepth 100000 in
theorem zt_e12_9 : zt_eOK "ColumnVault" (28, 0, 12, 2, 1197) := ⟨_, "ColumnVault", rfl, by decide, (zt_in (j := 1) (k := 197) rfl rfl), Or.inl rfl⟩
set_option maxRecDepth 100000 in
theorem zt_e12_8 : zt_eOK "ColumnVault" (27, 9, 5, 0, 1113) := ⟨_, "ColumnVault", rfl, (zt_inN (j := 1) (k := 113) rfl rfl)⟩
set_option maxRecDepth 100000 in
theorem zt_e12_7 : zt_eOK "ColumnVault" (25, 2, 11, 999, 1111) := ⟨"ColumnVault$Tokens", (zt_in (j := 1) (k := 111) rfl rfl), Or.inr rfl, Or.inl rfl⟩
set_option maxRecDepth 100000 in
theorem zt_e12_6 : zt_eOK "ColumnVault" (21, 0, 12, 1, 1196) := ⟨_, "ColumnVault", rfl, by decide, (zt_in (j := 1) (k := 196) rfl rfl), Or.inl rfl⟩
set_option maxRecDepth 100000 in
theorem zt_e12_5 : zt_eOK "ColumnVault" (20, 9, 4, 0, 1098) := ⟨_, "ColumnVault", rfl, (zt_inN (j := 1) (k := 98) rfl rfl)⟩
set_option maxRecDepth 100000 in
theorem zt_e12_4 : zt_eOK "ColumnVault" (18, 2, 4, 999, 1096) := ⟨"ColumnVault$FilterText", (zt_in (j := 1) (k := 96) rfl rfl), Or.inr rfl, Or.inl rfl⟩
set_option maxRecDepth 100000 in
theorem zt_e12_3 : zt_eOK "ColumnVault" (14, 0, 12, 0, 1195) := ⟨_, "ColumnVault", rfl, by decide, (zt_in (j := 1) (k := 195) rfl rfl), Or.inl rfl⟩
set_option maxRecDepth 100000 in
theorem zt_e12_2 : zt_eOK "ColumnVault" (13, 8, 2, 0, 1044) := ⟨_, rfl, (zt_in (j := 1) (k := 44) rfl rfl)⟩
set_option maxRecDepth 100000 in
theorem zt_e12_1 : zt_eOK "ColumnVault" (11, 2, 6, 999, 1042) := ⟨"ColumnVault$History", (zt_in (j := 1) (k := 42) rfl rfl), Or.inr rfl, Or.inl rfl⟩
set_option maxRecDepth 100000 in
theorem zt_e12_0 : zt_eOK "ColumnVault" (5, 10, 0, 0, 1039) := (zt_in (j := 1) (k := 39) rfl rfl)
theorem zt_pl12_ok : ∀ e ∈ zt_pl12, zt_eOK "ColumnVault" e := List.forall_mem_cons.mpr ⟨zt_e12_0, List.forall_mem_cons.mpr ⟨zt_e12_1, List.forall_mem_cons.mpr ⟨zt_e12_2, List.forall_mem_cons.mpr ⟨zt_e12_3, List.forall_mem_cons.mpr ⟨zt_e12_4, List.forall_mem_cons.mpr ⟨zt_e12_5, List.forall_mem_cons.mpr ⟨zt_e12_6, List.forall_mem_cons.mpr ⟨zt_e12_7, List.forall_mem_cons.mpr ⟨zt_e12_8, List.forall_mem_cons.mpr ⟨zt_e12_9, List.forall_mem_cons.mpr ⟨zt_e12_10, List.forall_mem_cons.mpr ⟨zt_e12_11, List.forall_mem_cons.mpr ⟨zt_e12_12, List.forall_mem_cons.mpr ⟨zt_e12_13, List.forall_mem_cons.mpr ⟨zt_e12_14, List.forall_mem_cons.mpr ⟨zt_e12_15, List.forall_mem_cons.mpr ⟨zt_e12_16, List.forall_mem_cons.mpr ⟨zt_e12_17, List.forall_mem_cons.mpr ⟨zt_e12_18, List.forall_mem_cons.mpr ⟨zt_e12_19, List.forall_mem_cons.mpr ⟨zt_e12_20, List.forall_mem_cons.mpr ⟨zt_e12_21, List.forall_mem_cons.mpr ⟨zt_e12_22, List.forall_mem_cons.mpr ⟨zt_e12_23, List.forall_mem_cons.mpr ⟨zt_e12_24, List.forall_mem_cons.mpr ⟨zt_e12_25, List.forall_mem_cons.mpr ⟨zt_e12_26, List.forall_mem_cons.mpr ⟨zt_e12_27, List.forall_mem_cons.mpr ⟨zt_e12_28, List.forall_mem_cons.mpr ⟨zt_e12_29, List.forall_mem_cons.mpr ⟨zt_e12_30, List.forall_mem_cons.mpr ⟨zt_e12_31, List.forall_mem_cons.mpr ⟨zt_e12_32, List.forall_mem_cons.mpr ⟨zt_e12_33, List.forall_mem_cons.mpr ⟨zt_e12_34, List.forall_mem_cons.mpr ⟨zt_e12_35, List.forall_mem_cons.mpr ⟨zt_e12_36, List.forall_mem_cons.mpr ⟨zt_e12_37, List.forall_mem_cons.mpr ⟨zt_e12_38, List.forall_mem_cons.mpr ⟨zt_e12_39, List.forall_mem_cons.mpr ⟨zt_e12_40, List.forall_mem_cons.mpr ⟨zt_e12_41, List.forall_mem_cons.mpr ⟨zt_e12_42, List.forall_mem_cons.mpr ⟨zt_e12_43, List.forall_mem_cons.mpr ⟨zt_e12_44, List.forall_mem_cons.mpr ⟨zt_e12_45, List.forall_mem_cons.mpr ⟨zt_e12_46, List.forall_mem_cons.mpr ⟨zt_e12_47, List.forall_mem_cons.mpr ⟨zt_e12_48, List.forall_mem_cons.mpr ⟨zt_e12_49, List.forall_mem_cons.mpr ⟨zt_e12_50, List.forall_mem_cons.mpr ⟨zt_e12_51, List.forall_mem_cons.mpr ⟨zt_e12_52, List.forall_mem_cons.mpr ⟨zt_e12_53, List.forall_mem_cons.mpr ⟨zt_e12_54, List.forall_mem_cons.mpr ⟨zt_e12_55, List.forall_mem_cons.mpr ⟨zt_e12_56, List.forall_mem_cons.mpr ⟨zt_e12_57, List.forall_mem_cons.mpr ⟨zt_e12_58, List.forall_mem_cons.mpr ⟨zt_e12_59, List.forall_mem_cons.mpr ⟨zt_e12_60, List.forall_mem_cons.mpr ⟨zt_e12_61, List.forall_mem_cons.mpr ⟨zt_e12_62, List.forall_mem_cons.mpr ⟨zt_e12_63, List.forall_mem_cons.mpr ⟨zt_e12_64, List.forall_mem_cons.mpr ⟨zt_e12_65, List.forall_mem_cons.mpr ⟨zt_e12_66, List.forall_mem_cons.mpr ⟨zt_e12_67, List.forall_mem_cons.mpr ⟨zt_e12_68, List.forall_mem_cons.mpr ⟨zt_e12_69, List.forall_mem_cons.mpr ⟨zt_e12_70, List.forall_mem_cons.mpr ⟨zt_e12_71, List.forall_mem_cons.mpr ⟨zt_e12_72, List.forall_mem_cons.mpr ⟨zt_e12_73, List.forall_mem_cons.mpr ⟨zt_e12_74, List.forall_mem_cons.mpr ⟨zt_e12_75, List.forall_mem_cons.mpr ⟨zt_e12_76, List.forall_mem_cons.mpr ⟨zt_e12_77, List.forall_mem_cons.mpr ⟨zt_e12_78, List.forall_mem_cons.mpr ⟨zt_e12_79, List.forall_mem_cons.mpr ⟨zt_e12_80, List.forall_mem_cons.mpr ⟨zt_e12_81, List.forall_mem_cons.mpr ⟨zt_e12_82, List.forall_mem_cons.mpr ⟨zt_e12_83, List.forall_mem_cons.mpr ⟨zt_e12_84, List.forall_mem_cons.mpr ⟨zt_e12_85, List.forall_mem_cons.mpr ⟨zt_e12_86, List.forall_mem_cons.mpr ⟨zt_e12_87, List.forall_mem_cons.mpr ⟨zt_e12_88, List.forall_mem_cons.mpr ⟨zt_e12_89, List.forall_mem_cons.mpr ⟨zt_e12_90, List.forall_mem_cons.mpr ⟨zt_e12_91, List.forall_mem_cons.mpr ⟨zt_e12_92, List.forall_mem_cons.mpr ⟨zt_e12_93, List.forall_mem_cons.mpr ⟨zt_e12_94, List.forall_mem_cons.mpr ⟨zt_e12_95, List.forall_mem_cons.mpr ⟨zt_e12_96, List.forall_mem_cons.mpr ⟨zt_e12_97, List.forall_mem_cons.mpr ⟨zt_e12_98, List.forall_mem_cons.mpr ⟨zt_e12_99, List.forall_mem_cons.mpr ⟨zt_e12_100, List.forall_mem_cons.mpr ⟨zt_e12_101, List.forall_mem_cons.mpr ⟨zt_e12_102, List.forall_mem_cons.mpr ⟨zt_e12_103, List.forall_mem_cons.mpr ⟨zt_e12_104, List.forall_mem_cons.mpr ⟨zt_e12_105, List.forall_mem_cons.mpr ⟨zt_e12_106, List.forall_mem_cons.mpr ⟨zt_e12_107, List.forall_mem_cons.mpr ⟨zt_e12_108, List.forall_mem_cons.mpr ⟨zt_e12_109, List.forall_mem_cons.mpr ⟨zt_e12_110, List.forall_mem_cons.mpr ⟨zt_e12_111, List.forall_mem_cons.mpr ⟨zt_e12_112, List.forall_mem_cons.mpr ⟨zt_e12_113, List.forall_mem_cons.mpr ⟨zt_e12_114, List.forall_mem_cons.mpr ⟨zt_e12_115, List.forall_mem_cons.mpr ⟨zt_e12_116, List.forall_mem_cons.mpr ⟨zt_e12_117, List.forall_mem_cons.mpr ⟨zt_e12_118, List.forall_mem_cons.mpr ⟨zt_e12_119, List.forall_mem_cons.mpr ⟨zt_e12_120, List.forall_mem_cons.mpr ⟨zt_e12_121, List.forall_mem_cons.mpr ⟨zt_e12_122, List.forall_mem_cons.mpr ⟨zt_e12_123, List.forall_mem_cons.mpr ⟨zt_e12_124, List.forall_mem_cons.mpr ⟨zt_e12_125, List.forall_mem_cons.mpr ⟨zt_e12_126, List.forall_mem_cons.mpr ⟨zt_e12_127, List.forall_mem_cons.mpr ⟨zt_e12_128, List.forall_mem_cons.mpr ⟨zt_e12_129, List.forall_mem_cons.mpr ⟨zt_e12_130, List.forall_mem_cons.mpr ⟨zt_e12_131, fun _ h => absurd h List.not_mem_nil⟩⟩⟩⟩⟩⟩⟩⟩⟩⟩⟩⟩⟩⟩⟩⟩⟩⟩⟩⟩⟩⟩⟩⟩⟩⟩⟩⟩⟩⟩⟩⟩⟩⟩⟩⟩⟩⟩⟩⟩⟩⟩⟩⟩⟩⟩⟩⟩⟩⟩⟩⟩⟩⟩⟩⟩⟩⟩⟩⟩⟩⟩⟩⟩⟩⟩⟩⟩⟩⟩⟩⟩⟩⟩⟩⟩⟩⟩⟩⟩⟩⟩⟩⟩⟩⟩⟩⟩⟩⟩⟩⟩⟩⟩⟩⟩⟩⟩⟩⟩⟩⟩⟩⟩⟩⟩⟩⟩⟩⟩⟩⟩⟩⟩⟩⟩⟩⟩⟩⟩⟩⟩⟩⟩⟩⟩⟩⟩⟩⟩⟩⟩
set_option maxRecDepth 100000 in
theorem zt_lc12_ok : ∀ e ∈ zt_lc12, Cond.constantLong "ColumnVault" e.1 e.2.1 ∈ zt_good := List.forall_mem_cons.mpr ⟨(zt_in (j := 2) (k := 202) rfl rfl), List.forall_mem_cons.mpr ⟨(zt_in (j := 2) (k := 203) rfl rfl), List.forall_mem_cons.mpr ⟨(zt_in (j := 2) (k := 215) rfl rfl), List.forall_mem_cons.mpr ⟨(zt_in (j := 2) (k := 222) rfl rfl), List.forall_mem_cons.mpr ⟨(zt_in (j := 3) (k := 239) rfl rfl), List.forall_mem_cons.mpr ⟨(zt_in (j := 4) (k := 123) rfl rfl), fun _ h => absurd h List.not_mem_nil⟩⟩⟩⟩⟩⟩
theorem zt_pl13_ok : ∀ e ∈ zt_pl13, zt_eOK "java/lang/IndexOutOfBoundsException" e := fun _ h => absurd h List.not_mem_nil
set_option maxRecDepth 100000 in
theorem zt_lc13_ok : ∀ e ∈ zt_lc13, Cond.constantLong "java/lang/IndexOutOfBoundsException" e.1 e.2.1 ∈ zt_good := fun _ h => absurd h List.not_mem_nil
theorem zt_pl14_ok : ∀ e ∈ zt_pl14, zt_eOK "java/lang/IllegalArgumentException" e := fun _ h => absurd h List.not_mem_nil
set_option maxRecDepth 100000 in
theorem zt_lc14_ok : ∀ e ∈ zt_lc14, Cond.constantLong "java/lang/IllegalArgumentException" e.1 e.2.1 ∈ zt_good := fun _ h => absurd h List.not_mem_nil
theorem zt_pl15_ok : ∀ e ∈ zt_pl15, zt_eOK "java/lang/IllegalStateException" e := fun _ h => absurd h List.not_mem_nil
set_option maxRecDepth 100000 in
theorem zt_lc15_ok : ∀ e ∈ zt_lc15, Cond.constantLong "java/lang/IllegalStateException" e.1 e.2.1 ∈ zt_good := fun _ h => absurd h List.not_mem_nil
theorem zt_pl16_ok : ∀ e ∈ zt_pl16, zt_eOK "java/util/NoSuchElementException" e := fun _ h => absurd h List.not_mem_nil
set_option maxRecDepth 100000 in
theorem zt_lc16_ok : ∀ e ∈ zt_lc16, Cond.constantLong "java/util/NoSuchElementException" e.1 e.2.1 ∈ zt_good := fun _ h => absurd h List.not_mem_nil
set_option maxRecDepth 100000 in
theorem zt_e17_135 : zt_eOK "ColumnVaultLaw" (443, 6, 18, 0, 2099) := ⟨_, rfl, (zt_in (j := 2) (k := 99) rfl rfl)⟩
set_option maxRecDepth 100000 in
theorem zt_e17_134 : zt_eOK "ColumnVaultLaw" (440, 4, 302, 0, 8170) := ⟨_, rfl, (zt_in (j := 8) (k := 170) rfl rfl)⟩
set_option maxRecDepth 100000 in
theorem zt_e17_133 : zt_eOK "ColumnVaultLaw" (436, 4, 300, 0, 8163) := ⟨_, rfl, (zt_in (j := 8) (k := 163) rfl rfl)⟩
set_option maxRecDepth 100000 in
theorem zt_e17_132 : zt_eOK "ColumnVaultLaw" (433, 4, 293, 0, 8136) := ⟨_, rfl, (zt_in (j := 8) (k := 136) rfl rfl)⟩
set_option maxRecDepth 100000 in
theorem zt_e17_131 : zt_eOK "ColumnVaultLaw" (429, 4, 298, 0, 8157) := ⟨_, rfl, (zt_in (j := 8) (k := 157) rfl rfl)⟩
set_option maxRecDepth 100000 in
theorem zt_e17_130 : zt_eOK "ColumnVaultLaw" (425, 4, 299, 0, 8160) := ⟨_, rfl, (zt_in (j := 8) (k := 160) rfl rfl)⟩
set_option maxRecDepth 100000 in
theorem zt_e17_129 : zt_eOK "ColumnVaultLaw" (422, 4, 296, 0, 8149) := ⟨_, rfl, (zt_in (j := 8) (k := 149) rfl rfl)⟩
set_option maxRecDepth 100000 in
theorem zt_e17_128 : zt_eOK "ColumnVaultLaw" (418, 4, 284, 0, 8078) := ⟨_, rfl, (zt_in (j := 8) (k := 78) rfl rfl)⟩
set_option maxRecDepth 100000 in
theorem zt_e17_127 : zt_eOK "ColumnVaultLaw" (415, 4, 283, 0, 8048) := ⟨_, rfl, (zt_in (j := 8) (k := 48) rfl rfl)⟩
set_option maxRecDepth 100000 in
theorem zt_e17_126 : zt_eOK "ColumnVaultLaw" (412, 4, 256, 0, 7077) := ⟨_, rfl, (zt_in (j := 7) (k := 77) rfl rfl)⟩
set_option maxRecDepth 100000 in
theorem zt_e17_125 : zt_eOK "ColumnVaultLaw" (409, 4, 203, 0, 6066) := ⟨_, rfl, (zt_in (j := 6) (k := 66) rfl rfl)⟩
set_option maxRecDepth 100000 in
theorem zt_e17_124 : zt_eOK "ColumnVaultLaw" (405, 4, 196, 0, 6037) := ⟨_, rfl, (zt_in (j := 6) (k := 37) rfl rfl)⟩
set_option maxRecDepth 100000 in
theorem zt_e17_123 : zt_eOK "ColumnVaultLaw" (401, 4, 127, 0, 4208) := ⟨_, rfl, (zt_in (j := 4) (k := 208) rfl rfl)⟩
set_option maxRecDepth 100000 in
theorem zt_e17_122 : zt_eOK "ColumnVaultLaw" (400, 8, 1, 0, 1036) := ⟨_, rfl, (zt_in (j := 1) (k := 36) rfl rfl)⟩
set_option maxRecDepth 100000 in
theorem zt_e17_121 : zt_eOK "ColumnVaultLaw" (396, 4, 19, 0, 2103) := ⟨_, rfl, (zt_in (j := 2) (k := 103) rfl rfl)⟩
set_option maxRecDepth 100000 in
theorem zt_e17_120 : zt_eOK "ColumnVaultLaw" (380, 4, 301, 0, 8166) := ⟨_, rfl, (zt_in (j := 8) (k := 166) rfl rfl)⟩
set_option maxRecDepth 100000 in
theorem zt_e17_119 : zt_eOK "ColumnVaultLaw" (375, 6, 297, 0, 8152) := ⟨_, rfl, (zt_in (j := 8) (k := 152) rfl rfl)⟩
set_option maxRecDepth 100000 in
theorem zt_e17_118 : zt_eOK "ColumnVaultLaw" (371, 6, 295, 0, 8145) := ⟨_, rfl, (zt_in (j := 8) (k := 145) rfl rfl)⟩
set_option maxRecDepth 100000 in
theorem zt_e17_117 : zt_eOK "ColumnVaultLaw" (368, 6, 294, 0, 8139) := ⟨_, rfl, (zt_in (j := 8) (k := 139) rfl rfl)⟩
set_option maxRecDepth 100000 in
theorem zt_e17_116 : zt_eOK "ColumnVaultLaw" (365, 6, 285, 0, 8081) := ⟨_, rfl, (zt_in (j := 8) (k := 81) rfl rfl)⟩
set_option maxRecDepth 100000 in
theorem zt_e17_115 : zt_eOK "ColumnVaultLaw" (363, 13, 682, 1, 8077) := ⟨"#0 = five", zt_ch_in (j := 8) (List.mem_of_getElem? (i := 77) rfl), fun _ => List.mem_of_getElem? (i := 41) rfl⟩
set_option maxRecDepth 100000 in
theorem zt_e17_114 : zt_eOK "ColumnVaultLaw" (361, 13, 680, 1, 8076) := ⟨"#1 = 5", zt_ch_in (j := 8) (List.mem_of_getElem? (i := 76) rfl), fun _ => List.mem_of_getElem? (i := 40) rfl⟩
set_option maxRecDepth 100000 in
theorem zt_e17_113 : zt_eOK "ColumnVaultLaw" (359, 13, 678, 1, 8075) := ⟨"=1", zt_ch_in (j := 8) (List.mem_of_getElem? (i := 75) rfl), fun _ => List.mem_of_getElem? (i := 39) rfl⟩
set_option maxRecDepth 100000 in
theorem zt_e17_112 : zt_eOK "ColumnVaultLaw" (357, 13, 676, 1, 8074) := ⟨"5-", zt_ch_in (j := 8) (List.mem_of_getElem? (i := 74) rfl), fun _ => List.mem_of_getElem? (i := 38) rfl⟩
set_option maxRecDepth 100000 in
theorem zt_e17_111 : zt_eOK "ColumnVaultLaw" (355, 13, 674, 1, 8073) := ⟨"abcdefgh", zt_ch_in (j := 8) (List.mem_of_getElem? (i := 73) rfl), fun _ => List.mem_of_getElem? (i := 37) rfl⟩
set_option maxRecDepth 100000 in
theorem zt_e17_110 : zt_eOK "ColumnVaultLaw" (353, 13, 672, 1, 8072) := ⟨"(#0=1", zt_ch_in (j := 8) (List.mem_of_getElem? (i := 72) rfl), fun _ => List.mem_of_getElem? (i := 36) rfl⟩
set_option maxRecDepth 100000 in
theorem zt_e17_109 : zt_eOK "ColumnVaultLaw" (351, 13, 670, 1, 8071) := ⟨"!#0=1", zt_ch_in (j := 8) (List.mem_of_getElem? (i := 71) rfl), fun _ => List.mem_of_getElem? (i := 35) rfl⟩
set_option maxRecDepth 100000 in
theorem zt_e17_108 : zt_eOK "ColumnVaultLaw" (349, 13, 668, 1, 8070) := ⟨"7", zt_ch_in (j := 8) (List.mem_of_getElem? (i := 70) rfl), fun _ => List.mem_of_getElem? (i := 34) rfl⟩
set_option maxRecDepth 100000 in
theorem zt_e17_107 : zt_eOK "ColumnVaultLaw" (347, 13, 666, 1, 8069) := ⟨"x", zt_ch_in (j := 8) (List.mem_of_getElem? (i := 69) rfl), fun _ => List.mem_of_getElem? (i := 33) rfl⟩
set_option maxRecDepth 100000 in
theorem zt_e17_106 : zt_eOK "ColumnVaultLaw" (345, 13, 664, 1, 8068) := ⟨"missin", zt_ch_in (j := 8) (List.mem_of_getElem? (i := 68) rfl), fun _ => List.mem_of_getElem? (i := 32) rfl⟩
set_option maxRecDepth 100000 in
theorem zt_e17_105 : zt_eOK "ColumnVaultLaw" (343, 13, 662, 1, 8067) := ⟨"5", zt_ch_in (j := 8) (List.mem_of_getElem? (i := 67) rfl), fun _ => List.mem_of_getElem? (i := 31) rfl⟩
set_option maxRecDepth 100000 in
theorem zt_e17_104 : zt_eOK "ColumnVaultLaw" (341, 13, 660, 1, 8066) := ⟨"#0 = 5 | ", zt_ch_in (j := 8) (List.mem_of_getElem? (i := 66) rfl), fun _ => List.mem_of_getElem? (i := 30) rfl⟩
set_option maxRecDepth 100000 in
theorem zt_e17_103 : zt_eOK "ColumnVaultLaw" (339, 13, 658, 1, 8065) := ⟨"#0 missing ", zt_ch_in (j := 8) (List.mem_of_getElem? (i := 65) rfl), fun _ => List.mem_of_getElem? (i := 29) rfl⟩
set_option maxRecDepth 100000 in
theorem zt_e17_102 : zt_eOK "ColumnVaultLaw" (337, 13, 656, 1, 8064) := ⟨"#0 > -", zt_ch_in (j := 8) (List.mem_of_getElem? (i := 64) rfl), fun _ => List.mem_of_getElem? (i := 28) rfl⟩
set_option maxRecDepth 100000 in
theorem zt_e17_101 : zt_eOK "ColumnVaultLaw" (335, 13, 654, 1, 8063) := ⟨"(#0 missing", zt_ch_in (j := 8) (List.mem_of_getElem? (i := 63) rfl), fun _ => List.mem_of_getElem? (i := 27) rfl⟩
set_option maxRecDepth 100000 in
theorem zt_e17_100 : zt_eOK "ColumnVaultLaw" (333, 13, 652, 1, 8062) := ⟨"#0 < 5 & ", zt_ch_in (j := 8) (List.mem_of_getElem? (i := 62) rfl), fun _ => List.mem_of_getElem? (i := 26) rfl⟩
set_option maxRecDepth 100000 in
theorem zt_e17_99 : zt_eOK "ColumnVaultLaw" (331, 13, 650, 1, 8061) := ⟨"#0 = ", zt_ch_in (j := 8) (List.mem_of_getElem? (i := 61) rfl), fun _ => List.mem_of_getElem? (i := 25) rfl⟩
set_option maxRecDepth 100000 in
theorem zt_e17_98 : zt_eOK "ColumnVaultLaw" (329, 13, 648, 1, 8060) := ⟨"((((((", zt_ch_in (j := 8) (List.mem_of_getElem? (i := 60) rfl), fun _ => List.mem_of_getElem? (i := 24) rfl⟩
set_option maxRecDepth 100000 in
theorem zt_e17_97 : zt_eOK "ColumnVaultLaw" (327, 13, 646, 1, 8059) := ⟨"!!!", zt_ch_in (j := 8) (List.mem_of_getElem? (i := 59) rfl), fun _ => List.mem_of_getElem? (i := 23) rfl⟩
set_option maxRecDepth 100000 in
theorem zt_e17_96 : zt_eOK "ColumnVaultLaw" (325, 13, 644, 1, 8058) := ⟨"#0 in 1 2 3 4 5 6 ", zt_ch_in (j := 8) (List.mem_of_getElem? (i := 58) rfl), fun _ => List.mem_of_getElem? (i := 22) rfl⟩
set_option maxRecDepth 100000 in
theorem zt_e17_95 : zt_eOK "ColumnVaultLaw" (323, 13, 642, 1, 8057) := ⟨"#0 to 1 ", zt_ch_in (j := 8) (List.mem_of_getElem? (i := 57) rfl), fun _ => List.mem_of_getElem? (i := 21) rfl⟩
set_option maxRecDepth 100000 in
theorem zt_e17_94 : zt_eOK "ColumnVaultLaw" (321, 13, 640, 1, 8056) := ⟨"#0 ", zt_ch_in (j := 8) (List.mem_of_getElem? (i := 56) rfl), fun _ => List.mem_of_getElem? (i := 20) rfl⟩
set_option maxRecDepth 100000 in
theorem zt_e17_93 : zt_eOK "ColumnVaultLaw" (319, 13, 638, 1, 8055) := ⟨"#0 = 5 ", zt_ch_in (j := 8) (List.mem_of_getElem? (i := 55) rfl), fun _ => List.mem_of_getElem? (i := 19) rfl⟩
set_option maxRecDepth 100000 in
theorem zt_e17_92 : zt_eOK "ColumnVaultLaw" (317, 13, 636, 1, 8054) := ⟨"#0 < ", zt_ch_in (j := 8) (List.mem_of_getElem? (i := 54) rfl), fun _ => List.mem_of_getElem? (i := 18) rfl⟩
set_option maxRecDepth 100000 in
theorem zt_e17_91 : zt_eOK "ColumnVaultLaw" (313, 6, 282, 0, 8044) := ⟨_, rfl, (zt_in (j := 8) (k := 44) rfl rfl)⟩
set_option maxRecDepth 100000 in
theorem zt_e17_90 : zt_eOK "ColumnVaultLaw" (310, 6, 279, 0, 7208) := ⟨_, rfl, (zt_in (j := 7) (k := 208) rfl rfl)⟩
set_option maxRecDepth 100000 in
theorem zt_e17_89 : zt_eOK "ColumnVaultLaw" (308, 13, 634, 1, 7207) := ⟨"!(", zt_ch_in (j := 7) (List.mem_of_getElem? (i := 207) rfl), fun _ => List.mem_of_getElem? (i := 17) rfl⟩
set_option maxRecDepth 100000 in
theorem zt_e17_88 : zt_eOK "ColumnVaultLaw" (304, 4, 278, 0, 7204) := ⟨_, rfl, (zt_in (j := 7) (k := 204) rfl rfl)⟩
set_option maxRecDepth 100000 in
theorem zt_e17_87 : zt_eOK "ColumnVaultLaw" (301, 6, 276, 0, 7196) := ⟨_, rfl, (zt_in (j := 7) (k := 196) rfl rfl)⟩
set_option maxRecDepth 100000 in
theorem zt_e17_86 : zt_eOK "ColumnVaultLaw" (298, 4, 275, 0, 7193) := ⟨_, rfl, (zt_in (j := 7) (k := 193) rfl rfl)⟩
set_option maxRecDepth 100000 in
theorem zt_e17_85 : zt_eOK "ColumnVaultLaw" (295, 6, 274, 0, 7189) := ⟨_, rfl, (zt_in (j := 7) (k := 189) rfl rfl)⟩
set_option maxRecDepth 100000 in
theorem zt_e17_84 : zt_eOK "ColumnVaultLaw" (292, 6, 273, 0, 7185) := ⟨_, rfl, (zt_in (j := 7) (k := 185) rfl rfl)⟩
set_option maxRecDepth 100000 in
theorem zt_e17_83 : zt_eOK "ColumnVaultLaw" (288, 4, 269, 0, 7147) := ⟨_, rfl, (zt_in (j := 7) (k := 147) rfl rfl)⟩
set_option maxRecDepth 100000 in
theorem zt_e17_82 : zt_eOK "ColumnVaultLaw" (287, 6, 161, 0, 7146) := ⟨_, rfl, (zt_in (j := 7) (k := 146) rfl rfl)⟩
set_option maxRecDepth 100000 in
theorem zt_e17_81 : zt_eOK "ColumnVaultLaw" (284, 8, 257, 0, 7082) := ⟨_, rfl, (zt_in (j := 7) (k := 82) rfl rfl)⟩
set_option maxRecDepth 100000 in
theorem zt_e17_80 : zt_eOK "ColumnVaultLaw" (278, 4, 21, 0, 2113) := ⟨_, rfl, (zt_in (j := 2) (k := 113) rfl rfl)⟩
set_option maxRecDepth 100000 in
theorem zt_e17_79 : zt_eOK "ColumnVaultLaw" (277, 11, 5, 0, 7167) := ⟨_, rfl, (zt_in (j := 7) (k := 167) rfl rfl)⟩
set_option maxRecDepth 100000 in
theorem zt_e17_78 : zt_eOK "ColumnVaultLaw" (274, 11, 4, 0, 7155) := ⟨_, rfl, (zt_in (j := 7) (k := 155) rfl rfl)⟩
set_option maxRecDepth 100000 in
theorem zt_e17_77 : zt_eOK "ColumnVaultLaw" (271, 6, 270, 0, 7150) := ⟨_, rfl, (zt_in (j := 7) (k := 150) rfl rfl)⟩
set_option maxRecDepth 100000 in
theorem zt_e17_76 : zt_eOK "ColumnVaultLaw" (269, 13, 632, 1, 7145) := ⟨" & ", zt_ch_in (j := 7) (List.mem_of_getElem? (i := 145) rfl), fun _ => List.mem_of_getElem? (i := 16) rfl⟩
set_option maxRecDepth 100000 in
theorem zt_e17_75 : zt_eOK "ColumnVaultLaw" (267, 13, 630, 1, 7144) := ⟨"&", zt_ch_in (j := 7) (List.mem_of_getElem? (i := 144) rfl), fun _ => List.mem_of_getElem? (i := 15) rfl⟩
set_option maxRecDepth 100000 in
theorem zt_e17_74 : zt_eOK "ColumnVaultLaw" (265, 13, 628, 1, 7097) := ⟨" | ", zt_ch_in (j := 7) (List.mem_of_getElem? (i := 97) rfl), fun _ => List.mem_of_getElem? (i := 14) rfl⟩
set_option maxRecDepth 100000 in
theorem zt_e17_73 : zt_eOK "ColumnVaultLaw" (263, 13, 626, 1, 7096) := ⟨"|", zt_ch_in (j := 7) (List.mem_of_getElem? (i := 96) rfl), fun _ => List.mem_of_getElem? (i := 13) rfl⟩
set_option maxRecDepth 100000 in
theorem zt_e17_72 : zt_eOK "ColumnVaultLaw" (259, 4, 262, 0, 7106) := ⟨_, rfl, (zt_in (j := 7) (k := 106) rfl rfl)⟩
set_option maxRecDepth 100000 in
theorem zt_e17_71 : zt_eOK "ColumnVaultLaw" (257, 13, 624, 1, 7105) := ⟨")", zt_ch_in (j := 7) (List.mem_of_getElem? (i := 105) rfl), fun _ => List.mem_of_getElem? (i := 12) rfl⟩
set_option maxRecDepth 100000 in
theorem zt_e17_70 : zt_eOK "ColumnVaultLaw" (254, 4, 260, 0, 7093) := ⟨_, rfl, (zt_in (j := 7) (k := 93) rfl rfl)⟩
set_option maxRecDepth 100000 in
theorem zt_e17_69 : zt_eOK "ColumnVaultLaw" (252, 13, 622, 1, 7104) := ⟨"(", zt_ch_in (j := 7) (List.mem_of_getElem? (i := 104) rfl), fun _ => List.mem_of_getElem? (i := 11) rfl⟩
set_option maxRecDepth 100000 in
theorem zt_e17_68 : zt_eOK "ColumnVaultLaw" (248, 4, 261, 0, 7099) := ⟨_, rfl, (zt_in (j := 7) (k := 99) rfl rfl)⟩
set_option maxRecDepth 100000 in
theorem zt_e17_67 : zt_eOK "ColumnVaultLaw" (246, 13, 620, 1, 7103) := ⟨"! ", zt_ch_in (j := 7) (List.mem_of_getElem? (i := 103) rfl), fun _ => List.mem_of_getElem? (i := 10) rfl⟩
set_option maxRecDepth 100000 in
theorem zt_e17_66 : zt_eOK "ColumnVaultLaw" (244, 13, 618, 1, 7102) := ⟨"!", zt_ch_in (j := 7) (List.mem_of_getElem? (i := 102) rfl), fun _ => List.mem_of_getElem? (i := 9) rfl⟩
set_option maxRecDepth 100000 in
theorem zt_e17_65 : zt_eOK "ColumnVaultLaw" (241, 6, 263, 0, 7117) := ⟨_, rfl, (zt_in (j := 7) (k := 117) rfl rfl)⟩
set_option maxRecDepth 100000 in
theorem zt_e17_64 : zt_eOK "ColumnVaultLaw" (239, 13, 616, 1, 7116) := ⟨"missing", zt_ch_in (j := 7) (List.mem_of_getElem? (i := 116) rfl), fun _ => List.mem_of_getElem? (i := 8) rfl⟩
set_option maxRecDepth 100000 in
theorem zt_e17_63 : zt_eOK "ColumnVaultLaw" (237, 13, 614, 1, 7115) := ⟨"in", zt_ch_in (j := 7) (List.mem_of_getElem? (i := 115) rfl), fun _ => List.mem_of_getElem? (i := 7) rfl⟩
set_option maxRecDepth 100000 in
theorem zt_e17_62 : zt_eOK "ColumnVaultLaw" (235, 13, 612, 1, 7114) := ⟨"to", zt_ch_in (j := 7) (List.mem_of_getElem? (i := 114) rfl), fun _ => List.mem_of_getElem? (i := 6) rfl⟩
set_option maxRecDepth 100000 in
theorem zt_e17_61 : zt_eOK "ColumnVaultLaw" (233, 13, 610, 1, 7113) := ⟨"=", zt_ch_in (j := 7) (List.mem_of_getElem? (i := 113) rfl), fun _ => List.mem_of_getElem? (i := 5) rfl⟩
set_option maxRecDepth 100000 in
theorem zt_e17_60 : zt_eOK "ColumnVaultLaw" (231, 13, 608, 1, 7112) := ⟨">", zt_ch_in (j := 7) (List.mem_of_getElem? (i := 112) rfl), fun _ => List.mem_of_getElem? (i := 4) rfl⟩
set_option maxRecDepth 100000 in
theorem zt_e17_59 : zt_eOK "ColumnVaultLaw" (229, 13, 606, 1, 7111) := ⟨"<", zt_ch_in (j := 7) (List.mem_of_getElem? (i := 111) rfl), fun _ => List.mem_of_getElem? (i := 3) rfl⟩
set_option maxRecDepth 100000 in
theorem zt_e17_58 : zt_eOK "ColumnVaultLaw" (227, 13, 604, 1, 7081) := ⟨"", zt_ch_in (j := 7) (List.mem_of_getElem? (i := 81) rfl), fun _ => List.mem_of_getElem? (i := 2) rfl⟩
set_option maxRecDepth 100000 in
theorem zt_e17_57 : zt_eOK "ColumnVaultLaw" (225, 13, 602, 1, 7080) := ⟨" ", zt_ch_in (j := 7) (List.mem_of_getElem? (i := 80) rfl), fun _ => List.mem_of_getElem? (i := 1) rfl⟩
set_option maxRecDepth 100000 in
theorem zt_e17_56 : zt_eOK "ColumnVaultLaw" (222, 6, 166, 0, 7110) := ⟨_, rfl, (zt_in (j := 7) (k := 110) rfl rfl)⟩
set_option maxRecDepth 100000 in
theorem zt_e17_55 : zt_eOK "ColumnVaultLaw" (219, 6, 175, 0, 7098) := ⟨_, rfl, (zt_in (j := 7) (k := 98) rfl rfl)⟩
set_option maxRecDepth 100000 in
theorem zt_e17_54 : zt_eOK "ColumnVaultLaw" (217, 13, 600, 1, 7109) := ⟨"#", zt_ch_in (j := 7) (List.mem_of_getElem? (i := 109) rfl), fun _ => List.mem_of_getElem? (i := 0) rfl⟩
set_option maxRecDepth 100000 in
theorem zt_e17_53 : zt_eOK "ColumnVaultLaw" (214, 6, 245, 0, 7012) := ⟨_, rfl, (zt_in (j := 7) (k := 12) rfl rfl)⟩
set_option maxRecDepth 100000 in
theorem zt_e17_52 : zt_eOK "ColumnVaultLaw" (210, 4, 208, 0, 6085) := ⟨_, rfl, (zt_in (j := 6) (k := 85) rfl rfl)⟩
set_option maxRecDepth 100000 in
theorem zt_e17_51 : zt_eOK "ColumnVaultLaw" (206, 6, 204, 0, 6069) := ⟨_, rfl, (zt_in (j := 6) (k := 69) rfl rfl)⟩
set_option maxRecDepth 100000 in
theorem zt_e17_50 : zt_eOK "ColumnVaultLaw" (201, 6, 201, 0, 6056) := ⟨_, rfl, (zt_in (j := 6) (k := 56) rfl rfl)⟩
set_option maxRecDepth 100000 in
theorem zt_e17_49 : zt_eOK "ColumnVaultLaw" (198, 6, 17, 0, 2095) := ⟨_, rfl, (zt_in (j := 2) (k := 95) rfl rfl)⟩
set_option maxRecDepth 100000 in
theorem zt_e17_48 : zt_eOK "ColumnVaultLaw" (192, 4, 198, 0, 6043) := ⟨_, rfl, (zt_in (j := 6) (k := 43) rfl rfl)⟩
set_option maxRecDepth 100000 in
theorem zt_e17_47 : zt_eOK "ColumnVaultLaw" (188, 4, 197, 0, 6040) := ⟨_, rfl, (zt_in (j := 6) (k := 40) rfl rfl)⟩
set_option maxRecDepth 100000 in
theorem zt_e17_46 : zt_eOK "ColumnVaultLaw" (184, 4, 200, 0, 6051) := ⟨_, rfl, (zt_in (j := 6) (k := 51) rfl rfl)⟩
set_option maxRecDepth 100000 in
theorem zt_e17_45 : zt_eOK "ColumnVaultLaw" (178, 6, 199, 0, 6046) := ⟨_, rfl, (zt_in (j := 6) (k := 46) rfl rfl)⟩
set_option maxRecDepth 100000 in
theorem zt_e17_44 : zt_eOK "ColumnVaultLaw" (176, 18, 4, 0, 6054) := ⟨"[[J", _, (zt_in (j := 6) (k := 54) rfl rfl), rfl, by decide +kernel⟩
set_option maxRecDepth 100000 in
theorem zt_e17_43 : zt_eOK "ColumnVaultLaw" (173, 6, 193, 0, 6025) := ⟨_, rfl, (zt_in (j := 6) (k := 25) rfl rfl)⟩
set_option maxRecDepth 100000 in
theorem zt_e17_42 : zt_eOK "ColumnVaultLaw" (169, 4, 129, 0, 4215) := ⟨_, rfl, (zt_in (j := 4) (k := 215) rfl rfl)⟩
set_option maxRecDepth 100000 in
theorem zt_e17_41 : zt_eOK "ColumnVaultLaw" (166, 6, 128, 0, 4211) := ⟨_, rfl, (zt_in (j := 4) (k := 211) rfl rfl)⟩
set_option maxRecDepth 100000 in
theorem zt_e17_40 : zt_eOK "ColumnVaultLaw" (162, 2, 15, 999, 2119) := ⟨"java/lang/IllegalStateException", (zt_in (j := 2) (k := 119) rfl rfl), Or.inr rfl, Or.inl rfl⟩
set_option maxRecDepth 100000 in
theorem zt_e17_39 : zt_eOK "ColumnVaultLaw" (158, 2, 14, 999, 2118) := ⟨"java/lang/IllegalArgumentException", (zt_in (j := 2) (k := 118) rfl rfl), Or.inr rfl, Or.inl rfl⟩
set_option maxRecDepth 100000 in
theorem zt_e17_38 : zt_eOK "ColumnVaultLaw" (154, 2, 16, 999, 2117) := ⟨"java/util/NoSuchElementException", (zt_in (j := 2) (k := 117) rfl rfl), Or.inr rfl, Or.inl rfl⟩
set_option maxRecDepth 100000 in
theorem zt_e17_37 : zt_eOK "ColumnVaultLaw" (150, 2, 13, 999, 2116) := ⟨"java/lang/IndexOutOfBoundsException", (zt_in (j := 2) (k := 116) rfl rfl), Or.inr rfl, Or.inl rfl⟩
set_option maxRecDepth 100000 in
theorem zt_e17_36 : zt_eOK "ColumnVaultLaw" (147, 6, 9, 0, 1214) := ⟨_, rfl, (zt_in (j := 1) (k := 214) rfl rfl)⟩
set_option maxRecDepth 100000 in
theorem zt_e17_35 : zt_eOK "ColumnVaultLaw" (144, 6, 124, 0, 4192) := ⟨_, rfl, (zt_in (j := 4) (k := 192) rfl rfl)⟩
set_option maxRecDepth 100000 in
theorem zt_e17_34 : zt_eOK "ColumnVaultLaw" (141, 6, 123, 0, 4188) := ⟨_, rfl, (zt_in (j := 4) (k := 188) rfl rfl)⟩
set_option maxRecDepth 100000 in
theorem zt_e17_33 : zt_eOK "ColumnVaultLaw" (137, 6, 116, 0, 4156) := ⟨_, rfl, (zt_in (j := 4) (k := 156) rfl rfl)⟩
set_option maxRecDepth 100000 in
theorem zt_e17_32 : zt_eOK "ColumnVaultLaw" (133, 6, 112, 0, 4139) := ⟨_, rfl, (zt_in (j := 4) (k := 139) rfl rfl)⟩
set_option maxRecDepth 100000 in
theorem zt_e17_31 : zt_eOK "ColumnVaultLaw" (129, 6, 110, 0, 4129) := ⟨_, rfl, (zt_in (j := 4) (k := 129) rfl rfl)⟩
set_option maxRecDepth 100000 in
theorem zt_e17_30 : zt_eOK "ColumnVaultLaw" (125, 6, 109, 0, 4125) := ⟨_, rfl, (zt_in (j := 4) (k := 125) rfl rfl)⟩
set_option maxRecDepth 100000 in
theorem zt_e17_29 : zt_eOK "ColumnVaultLaw" (121, 6, 108, 0, 4117) := ⟨_, rfl, (zt_in (j := 4) (k := 117) rfl rfl)⟩
set_option maxRecDepth 100000 in
theorem zt_e17_28 : zt_eOK "ColumnVaultLaw" (118, 6, 102, 0, 4074) := ⟨_, rfl, (zt_in (j := 4) (k := 74) rfl rfl)⟩
set_option maxRecDepth 100000 in
theorem zt_e17_27 : zt_eOK "ColumnVaultLaw" (114, 6, 95, 0, 4040) := ⟨_, rfl, (zt_in (j := 4) (k := 40) rfl rfl)⟩
set_option maxRecDepth 100000 in
theorem zt_e17_26 : zt_eOK "ColumnVaultLaw" (110, 6, 93, 0, 4031) := ⟨_, rfl, (zt_in (j := 4) (k := 31) rfl rfl)⟩
set_option maxRecDepth 100000 in
theorem zt_e17_25 : zt_eOK "ColumnVaultLaw" (107, 6, 87, 0, 4004) := ⟨_, rfl, (zt_in (j := 4) (k := 4) rfl rfl)⟩
set_option maxRecDepth 100000 in
theorem zt_e17_24 : zt_eOK "ColumnVaultLaw" (104, 6, 86, 0, 4000) := ⟨_, rfl, (zt_in (j := 4) (k := 0) rfl rfl)⟩
set_option maxRecDepth 100000 in
theorem zt_e17_23 : zt_eOK "ColumnVaultLaw" (101, 6, 51, 0, 3024) := ⟨_, rfl, (zt_in (j := 3) (k := 24) rfl rfl)⟩
set_option maxRecDepth 100000 in
theorem zt_e17_22 : zt_eOK "ColumnVaultLaw" (98, 6, 48, 0, 3012) := ⟨_, rfl, (zt_in (j := 3) (k := 12) rfl rfl)⟩
set_option maxRecDepth 100000 in
theorem zt_e17_21 : zt_eOK "ColumnVaultLaw" (95, 6, 46, 0, 3003) := ⟨_, rfl, (zt_in (j := 3) (k := 3) rfl rfl)⟩
set_option maxRecDepth 100000 in
theorem zt_e17_20 : zt_eOK "ColumnVaultLaw" (91, 6, 43, 0, 2231) := ⟨_, rfl, (zt_in (j := 2) (k := 231) rfl rfl)⟩
set_option maxRecDepth 100000 in
theorem zt_e17_19 : zt_eOK "ColumnVaultLaw" (87, 6, 37, 0, 2206) := ⟨_, rfl, (zt_in (j := 2) (k := 206) rfl rfl)⟩
set_option maxRecDepth 100000 in
theorem zt_e17_18 : zt_eOK "ColumnVaultLaw" (83, 6, 32, 0, 2182) := ⟨_, rfl, (zt_in (j := 2) (k := 182) rfl rfl)⟩
set_option maxRecDepth 100000 in
theorem zt_e17_17 : zt_eOK "ColumnVaultLaw" (80, 6, 30, 0, 2173) := ⟨_, rfl, (zt_in (j := 2) (k := 173) rfl rfl)⟩
set_option maxRecDepth 100000 in
theorem zt_e17_16 : zt_eOK "ColumnVaultLaw" (76, 6, 22, 0, 2120) := ⟨_, rfl, (zt_in (j := 2) (k := 120) rfl rfl)⟩
set_option maxRecDepth 100000 in
theorem zt_e17_15 : zt_eOK "ColumnVaultLaw" (70, 4, 244, 0, 7009) := ⟨_, rfl, (zt_in (j := 7) (k := 9) rfl rfl)⟩
set_option maxRecDepth 100000 in
theorem zt_e17_14 : zt_eOK "ColumnVaultLaw" (64, 4, 243, 0, 7006) := ⟨_, rfl, (zt_in (j := 7) (k := 6) rfl rfl)⟩
set_option maxRecDepth 100000 in
theorem zt_e17_13 : zt_eOK "ColumnVaultLaw" (60, 6, 214, 0, 6106) := ⟨_, rfl, (zt_in (j := 6) (k := 106) rfl rfl)⟩
set_option maxRecDepth 100000 in
theorem zt_e17_12 : zt_eOK "ColumnVaultLaw" (56, 4, 209, 0, 6088) := ⟨_, rfl, (zt_in (j := 6) (k := 88) rfl rfl)⟩
set_option maxRecDepth 100000 in
theorem zt_e17_11 : zt_eOK "ColumnVaultLaw" (50, 4, 188, 0, 6003) := ⟨_, rfl, (zt_in (j := 6) (k := 3) rfl rfl)⟩
set_option maxRecDepth 100000 in
theorem zt_e17_10 : zt_eOK "ColumnVaultLaw" (46, 4, 130, 0, 4218) := ⟨_, rfl, (zt_in (j := 4) (k := 218) rfl rfl)⟩
set_option maxRecDepth 100000 in
theorem zt_e17_9 : zt_eOK "ColumnVaultLaw" (42, 6, 210, 0, 6091) := ⟨_, rfl, (zt_in (j := 6) (k := 91) rfl rfl)⟩
set_option maxRecDepth 100000 in
theorem zt_e17_8 : zt_eOK "ColumnVaultLaw" (38, 6, 189, 0, 6008) := ⟨_, rfl, (zt_in (j := 6) (k := 8) rfl rfl)⟩
set_option maxRecDepth 100000 in
theorem zt_e17_7 : zt_eOK "ColumnVaultLaw" (31, 2, 0, 6, 8052) := ⟨"java/lang/String", (zt_in (j := 8) (k := 52) rfl rfl), Or.inr rfl, Or.inr rfl⟩
set_option maxRecDepth 100000 in
theorem zt_e17_6 : zt_eOK "ColumnVaultLaw" (30, 6, 179, 0, 6006) := ⟨_, rfl, (zt_in (j := 6) (k := 6) rfl rfl)⟩
set_option maxRecDepth 100000 in
theorem zt_e17_5 : zt_eOK "ColumnVaultLaw" (26, 6, 157, 0, 5103) := ⟨_, rfl, (zt_in (j := 5) (k := 103) rfl rfl)⟩
set_option maxRecDepth 100000 in
theorem zt_e17_4 : zt_eOK "ColumnVaultLaw" (22, 6, 135, 0, 5012) := ⟨_, rfl, (zt_in (j := 5) (k := 12) rfl rfl)⟩
set_option maxRecDepth 100000 in
theorem zt_e17_3 : zt_eOK "ColumnVaultLaw" (16, 4, 20, 0, 2109) := ⟨_, rfl, (zt_in (j := 2) (k := 109) rfl rfl)⟩
set_option maxRecDepth 100000 in
theorem zt_e17_2 : zt_eOK "ColumnVaultLaw" (15, 8, 131, 0, 4223) := ⟨_, rfl, (zt_in (j := 4) (k := 223) rfl rfl)⟩
set_option maxRecDepth 100000 in
theorem zt_e17_1 : zt_eOK "ColumnVaultLaw" (13, 2, 1, 999, 4221) := ⟨"java/lang/StringBuilder", (zt_in (j := 4) (k := 221) rfl rfl), Or.inr rfl, Or.inl rfl⟩
set_option maxRecDepth 100000 in
theorem zt_e17_0 : zt_eOK "ColumnVaultLaw" (1, 2, 12, 999, 1034) := ⟨"ColumnVault", (zt_in (j := 1) (k := 34) rfl rfl), Or.inr rfl, Or.inl rfl⟩
theorem zt_pl17_ok : ∀ e ∈ zt_pl17, zt_eOK "ColumnVaultLaw" e := List.forall_mem_cons.mpr ⟨zt_e17_0, List.forall_mem_cons.mpr ⟨zt_e17_1, List.forall_mem_cons.mpr ⟨zt_e17_2, List.forall_mem_cons.mpr ⟨zt_e17_3, List.forall_mem_cons.mpr ⟨zt_e17_4, List.forall_mem_cons.mpr ⟨zt_e17_5, List.forall_mem_cons.mpr ⟨zt_e17_6, List.forall_mem_cons.mpr ⟨zt_e17_7, List.forall_mem_cons.mpr ⟨zt_e17_8, List.forall_mem_cons.mpr ⟨zt_e17_9, List.forall_mem_cons.mpr ⟨zt_e17_10, List.forall_mem_cons.mpr ⟨zt_e17_11, List.forall_mem_cons.mpr ⟨zt_e17_12, List.forall_mem_cons.mpr ⟨zt_e17_13, List.forall_mem_cons.mpr ⟨zt_e17_14, List.forall_mem_cons.mpr ⟨zt_e17_15, List.forall_mem_cons.mpr ⟨zt_e17_16, List.forall_mem_cons.mpr ⟨zt_e17_17, List.forall_mem_cons.mpr ⟨zt_e17_18, List.forall_mem_cons.mpr ⟨zt_e17_19, List.forall_mem_cons.mpr ⟨zt_e17_20, List.forall_mem_cons.mpr ⟨zt_e17_21, List.forall_mem_cons.mpr ⟨zt_e17_22, List.forall_mem_cons.mpr ⟨zt_e17_23, List.forall_mem_cons.mpr ⟨zt_e17_24, List.forall_mem_cons.mpr ⟨zt_e17_25, List.forall_mem_cons.mpr ⟨zt_e17_26, List.forall_mem_cons.mpr ⟨zt_e17_27, List.forall_mem_cons.mpr ⟨zt_e17_28, List.forall_mem_cons.mpr ⟨zt_e17_29, List.forall_mem_cons.mpr ⟨zt_e17_30, List.forall_mem_cons.mpr ⟨zt_e17_31, List.forall_mem_cons.mpr ⟨zt_e17_32, List.forall_mem_cons.mpr ⟨zt_e17_33, List.forall_mem_cons.mpr ⟨zt_e17_34, List.forall_mem_cons.mpr ⟨zt_e17_35, List.forall_mem_cons.mpr ⟨zt_e17_36, List.forall_mem_cons.mpr ⟨zt_e17_37, List.forall_mem_cons.mpr ⟨zt_e17_38, List.forall_mem_cons.mpr ⟨zt_e17_39, List.forall_mem_cons.mpr ⟨zt_e17_40, List.forall_mem_cons.mpr ⟨zt_e17_41, List.forall_mem_cons.mpr ⟨zt_e17_42, List.forall_mem_cons.mpr ⟨zt_e17_43, List.forall_mem_cons.mpr ⟨zt_e17_44, List.forall_mem_cons.mpr ⟨zt_e17_45, List.forall_mem_cons.mpr ⟨zt_e17_46, List.forall_mem_cons.mpr ⟨zt_e17_47, List.forall_mem_cons.mpr ⟨zt_e17_48, List.forall_mem_cons.mpr ⟨zt_e17_49, List.forall_mem_cons.mpr ⟨zt_e17_50, List.forall_mem_cons.mpr ⟨zt_e17_51, List.forall_mem_cons.mpr ⟨zt_e17_52, List.forall_mem_cons.mpr ⟨zt_e17_53, List.forall_mem_cons.mpr ⟨zt_e17_54, List.forall_mem_cons.mpr ⟨zt_e17_55, List.forall_mem_cons.mpr ⟨zt_e17_56, List.forall_mem_cons.mpr ⟨zt_e17_57, List.forall_mem_cons.mpr ⟨zt_e17_58, List.forall_mem_cons.mpr ⟨zt_e17_59, List.forall_mem_cons.mpr ⟨zt_e17_60, List.forall_mem_cons.mpr ⟨zt_e17_61, List.forall_mem_cons.mpr ⟨zt_e17_62, List.forall_mem_cons.mpr ⟨zt_e17_63, List.forall_mem_cons.mpr ⟨zt_e17_64, List.forall_mem_cons.mpr ⟨zt_e17_65, List.forall_mem_cons.mpr ⟨zt_e17_66, List.forall_mem_cons.mpr ⟨zt_e17_67, List.forall_mem_cons.mpr ⟨zt_e17_68, List.forall_mem_cons.mpr ⟨zt_e17_69, List.forall_mem_cons.mpr ⟨zt_e17_70, List.forall_mem_cons.mpr ⟨zt_e17_71, List.forall_mem_cons.mpr ⟨zt_e17_72, List.forall_mem_cons.mpr ⟨zt_e17_73, List.forall_mem_cons.mpr ⟨zt_e17_74, List.forall_mem_cons.mpr ⟨zt_e17_75, List.forall_mem_cons.mpr ⟨zt_e17_76, List.forall_mem_cons.mpr ⟨zt_e17_77, List.forall_mem_cons.mpr ⟨zt_e17_78, List.forall_mem_cons.mpr ⟨zt_e17_79, List.forall_mem_cons.mpr ⟨zt_e17_80, List.forall_mem_cons.mpr ⟨zt_e17_81, List.forall_mem_cons.mpr ⟨zt_e17_82, List.forall_mem_cons.mpr ⟨zt_e17_83, List.forall_mem_cons.mpr ⟨zt_e17_84, List.forall_mem_cons.mpr ⟨zt_e17_85, List.forall_mem_cons.mpr ⟨zt_e17_86, List.forall_mem_cons.mpr ⟨zt_e17_87, List.forall_mem_cons.mpr ⟨zt_e17_88, List.forall_mem_cons.mpr ⟨zt_e17_89, List.forall_mem_cons.mpr ⟨zt_e17_90, List.forall_mem_cons.mpr ⟨zt_e17_91, List.forall_mem_cons.mpr ⟨zt_e17_92, List.forall_mem_cons.mpr ⟨zt_e17_93, List.forall_mem_cons.mpr ⟨zt_e17_94, List.forall_mem_cons.mpr ⟨zt_e17_95, List.forall_mem_cons.mpr ⟨zt_e17_96, List.forall_mem_cons.mpr ⟨zt_e17_97, List.forall_mem_cons.mpr ⟨zt_e17_98, List.forall_mem_cons.mpr ⟨zt_e17_99, List.forall_mem_cons.mpr ⟨zt_e17_100, List.forall_mem_cons.mpr ⟨zt_e17_101, List.forall_mem_cons.mpr ⟨zt_e17_102, List.forall_mem_cons.mpr ⟨zt_e17_103, List.forall_mem_cons.mpr ⟨zt_e17_104, List.forall_mem_cons.mpr ⟨zt_e17_105, List.forall_mem_cons.mpr ⟨zt_e17_106, List.forall_mem_cons.mpr ⟨zt_e17_107, List.forall_mem_cons.mpr ⟨zt_e17_108, List.forall_mem_cons.mpr ⟨zt_e17_109, List.forall_mem_cons.mpr ⟨zt_e17_110, List.forall_mem_cons.mpr ⟨zt_e17_111, List.forall_mem_cons.mpr ⟨zt_e17_112, List.forall_mem_cons.mpr ⟨zt_e17_113, List.forall_mem_cons.mpr ⟨zt_e17_114, List.forall_mem_cons.mpr ⟨zt_e17_115, List.forall_mem_cons.mpr ⟨zt_e17_116, List.forall_mem_cons.mpr ⟨zt_e17_117, List.forall_mem_cons.mpr ⟨zt_e17_118, List.forall_mem_cons.mpr ⟨zt_e17_119, List.forall_mem_cons.mpr ⟨zt_e17_120, List.forall_mem_cons.mpr ⟨zt_e17_121, List.forall_mem_cons.mpr ⟨zt_e17_122, List.forall_mem_cons.mpr ⟨zt_e17_123, List.forall_mem_cons.mpr ⟨zt_e17_124, List.forall_mem_cons.mpr ⟨zt_e17_125, List.forall_mem_cons.mpr ⟨zt_e17_126, List.forall_mem_cons.mpr ⟨zt_e17_127, List.forall_mem_cons.mpr ⟨zt_e17_128, List.forall_mem_cons.mpr ⟨zt_e17_129, List.forall_mem_cons.mpr ⟨zt_e17_130, List.forall_mem_cons.mpr ⟨zt_e17_131, List.forall_mem_cons.mpr ⟨zt_e17_132, List.forall_mem_cons.mpr ⟨zt_e17_133, List.forall_mem_cons.mpr ⟨zt_e17_134, List.forall_mem_cons.mpr ⟨zt_e17_135, fun _ h => absurd h List.not_mem_nil⟩⟩⟩⟩⟩⟩⟩⟩⟩⟩⟩⟩⟩⟩⟩⟩⟩⟩⟩⟩⟩⟩⟩⟩⟩⟩⟩⟩⟩⟩⟩⟩⟩⟩⟩⟩⟩⟩⟩⟩⟩⟩⟩⟩⟩⟩⟩⟩⟩⟩⟩⟩⟩⟩⟩⟩⟩⟩⟩⟩⟩⟩⟩⟩⟩⟩⟩⟩⟩⟩⟩⟩⟩⟩⟩⟩⟩⟩⟩⟩⟩⟩⟩⟩⟩⟩⟩⟩⟩⟩⟩⟩⟩⟩⟩⟩⟩⟩⟩⟩⟩⟩⟩⟩⟩⟩⟩⟩⟩⟩⟩⟩⟩⟩⟩⟩⟩⟩⟩⟩⟩⟩⟩⟩⟩⟩⟩⟩⟩⟩⟩⟩⟩⟩⟩⟩
set_option maxRecDepth 100000 in
theorem zt_lc17_ok : ∀ e ∈ zt_lc17, Cond.constantLong "ColumnVaultLaw" e.1 e.2.1 ∈ zt_good := List.forall_mem_cons.mpr ⟨(zt_in (j := 4) (k := 204) rfl rfl), List.forall_mem_cons.mpr ⟨(zt_in (j := 4) (k := 205) rfl rfl), List.forall_mem_cons.mpr ⟨(zt_in (j := 4) (k := 206) rfl rfl), List.forall_mem_cons.mpr ⟨(zt_in (j := 4) (k := 207) rfl rfl), List.forall_mem_cons.mpr ⟨(zt_in (j := 6) (k := 7) rfl rfl), List.forall_mem_cons.mpr ⟨(zt_in (j := 6) (k := 64) rfl rfl), List.forall_mem_cons.mpr ⟨(zt_in (j := 7) (k := 184) rfl rfl), List.forall_mem_cons.mpr ⟨(zt_in (j := 8) (k := 144) rfl rfl), List.forall_mem_cons.mpr ⟨(zt_in (j := 8) (k := 156) rfl rfl), List.forall_mem_cons.mpr ⟨(zt_in (j := 8) (k := 169) rfl rfl), List.forall_mem_cons.mpr ⟨(zt_in (j := 8) (k := 173) rfl rfl), List.forall_mem_cons.mpr ⟨(zt_in (j := 8) (k := 174) rfl rfl), List.forall_mem_cons.mpr ⟨(zt_in (j := 8) (k := 175) rfl rfl), List.forall_mem_cons.mpr ⟨(zt_in (j := 8) (k := 176) rfl rfl), List.forall_mem_cons.mpr ⟨(zt_in (j := 8) (k := 177) rfl rfl), List.forall_mem_cons.mpr ⟨(zt_in (j := 8) (k := 178) rfl rfl), fun _ h => absurd h List.not_mem_nil⟩⟩⟩⟩⟩⟩⟩⟩⟩⟩⟩⟩⟩⟩⟩⟩
set_option maxRecDepth 100000 in
theorem zt_e18_3 : zt_eOK "java/lang/Long" (311, 4, 230, 0, 6197) := ⟨_, rfl, (zt_in (j := 6) (k := 197) rfl rfl)⟩
set_option maxRecDepth 100000 in
theorem zt_e18_2 : zt_eOK "java/lang/Long" (308, 4, 228, 0, 6188) := ⟨_, rfl, (zt_in (j := 6) (k := 188) rfl rfl)⟩
set_option maxRecDepth 100000 in
theorem zt_e18_1 : zt_eOK "java/lang/Long" (137, 14, 3, 0, 7135) := ⟨_, rfl, (zt_in (j := 7) (k := 135) rfl rfl)⟩
set_option maxRecDepth 100000 in
theorem zt_e18_0 : zt_eOK "java/lang/Long" (133, 14, 2, 0, 7134) := ⟨_, rfl, (zt_in (j := 7) (k := 134) rfl rfl)⟩
theorem zt_pl18_ok : ∀ e ∈ zt_pl18, zt_eOK "java/lang/Long" e := List.forall_mem_cons.mpr ⟨zt_e18_0, List.forall_mem_cons.mpr ⟨zt_e18_1, List.forall_mem_cons.mpr ⟨zt_e18_2, List.forall_mem_cons.mpr ⟨zt_e18_3, fun _ h => absurd h List.not_mem_nil⟩⟩⟩⟩
set_option maxRecDepth 100000 in
theorem zt_lc18_ok : ∀ e ∈ zt_lc18, Cond.constantLong "java/lang/Long" e.1 e.2.1 ∈ zt_good := List.forall_mem_cons.mpr ⟨(zt_in (j := 2) (k := 58) rfl rfl), List.forall_mem_cons.mpr ⟨(zt_in (j := 2) (k := 59) rfl rfl), List.forall_mem_cons.mpr ⟨(zt_in (j := 2) (k := 60) rfl rfl), List.forall_mem_cons.mpr ⟨(zt_in (j := 7) (k := 127) rfl rfl), List.forall_mem_cons.mpr ⟨(zt_in (j := 7) (k := 128) rfl rfl), List.forall_mem_cons.mpr ⟨(zt_in (j := 7) (k := 132) rfl rfl), List.forall_mem_cons.mpr ⟨(zt_in (j := 7) (k := 133) rfl rfl), fun _ h => absurd h List.not_mem_nil⟩⟩⟩⟩⟩⟩⟩
theorem zt_pl19_ok : ∀ e ∈ zt_pl19, zt_eOK "java/lang/Math" e := fun _ h => absurd h List.not_mem_nil
set_option maxRecDepth 100000 in
theorem zt_lc19_ok : ∀ e ∈ zt_lc19, Cond.constantLong "java/lang/Math" e.1 e.2.1 ∈ zt_good := fun _ h => absurd h List.not_mem_nil
set_option maxRecDepth 100000 in
theorem zt_e20_34 : zt_eOK "java/lang/AbstractStringBuilder" (399, 6, 183, 0, 5209) := ⟨_, rfl, (zt_in (j := 5) (k := 209) rfl rfl)⟩
set_option maxRecDepth 100000 in
theorem zt_e20_33 : zt_eOK "java/lang/AbstractStringBuilder" (397, 15, 182, 0, 5204) := ⟨_, rfl, (zt_in (j := 5) (k := 204) rfl rfl), (zt_in (j := 8) (k := 188) rfl rfl), (zt_inN (j := 5) (k := 205) rfl rfl)⟩
set_option maxRecDepth 100000 in
theorem zt_e20_32 : zt_eOK "java/lang/AbstractStringBuilder" (315, 4, 212, 0, 6098) := ⟨_, rfl, (zt_in (j := 6) (k := 98) rfl rfl)⟩
set_option maxRecDepth 100000 in
theorem zt_e20_31 : zt_eOK "java/lang/AbstractStringBuilder" (309, 17, 0, 0, 6105) := (zt_in (j := 6) (k := 105) rfl rfl)
set_option maxRecDepth 100000 in
theorem zt_e20_30 : zt_eOK "java/lang/AbstractStringBuilder" (283, 15, 213, 0, 6101) := ⟨_, rfl, (zt_in (j := 6) (k := 101) rfl rfl), (zt_in (j := 8) (k := 190) rfl rfl), (zt_inN (j := 6) (k := 102) rfl rfl)⟩
set_option maxRecDepth 100000 in
theorem zt_e20_29 : zt_eOK "java/lang/AbstractStringBuilder" (262, 4, 267, 0, 7136) := ⟨_, rfl, (zt_in (j := 7) (k := 136) rfl rfl)⟩
set_option maxRecDepth 100000 in
theorem zt_e20_28 : zt_eOK "java/lang/AbstractStringBuilder" (259, 4, 266, 0, 7129) := ⟨_, rfl, (zt_in (j := 7) (k := 129) rfl rfl)⟩
set_option maxRecDepth 100000 in
theorem zt_e20_27 : zt_eOK "java/lang/AbstractStringBuilder" (254, 4, 265, 0, 7124) := ⟨_, rfl, (zt_in (j := 7) (k := 124) rfl rfl)⟩
set_option maxRecDepth 100000 in
theorem zt_e20_26 : zt_eOK "java/lang/AbstractStringBuilder" (251, 4, 170, 0, 5159) := ⟨_, rfl, (zt_in (j := 5) (k := 159) rfl rfl)⟩
set_option maxRecDepth 100000 in
theorem zt_e20_25 : zt_eOK "java/lang/AbstractStringBuilder" (248, 4, 169, 0, 5152) := ⟨_, rfl, (zt_in (j := 5) (k := 152) rfl rfl)⟩
set_option maxRecDepth 100000 in
theorem zt_e20_24 : zt_eOK "java/lang/AbstractStringBuilder" (245, 4, 168, 0, 5149) := ⟨_, rfl, (zt_in (j := 5) (k := 149) rfl rfl)⟩
set_option maxRecDepth 100000 in
theorem zt_e20_23 : zt_eOK "java/lang/AbstractStringBuilder" (226, 4, 178, 0, 5188) := ⟨_, rfl, (zt_in (j := 5) (k := 188) rfl rfl)⟩
set_option maxRecDepth 100000 in
theorem zt_e20_22 : zt_eOK "java/lang/AbstractStringBuilder" (208, 15, 181, 0, 5200) := ⟨_, rfl, (zt_in (j := 5) (k := 200) rfl rfl), (zt_in (j := 8) (k := 187) rfl rfl), (zt_inN (j := 5) (k := 201) rfl rfl)⟩
set_option maxRecDepth 100000 in
theorem zt_e20_21 : zt_eOK "java/lang/AbstractStringBuilder" (204, 15, 177, 0, 5184) := ⟨_, rfl, (zt_in (j := 5) (k := 184) rfl rfl), (zt_in (j := 8) (k := 186) rfl rfl), (zt_inN (j := 5) (k := 185) rfl rfl)⟩
set_option maxRecDepth 100000 in
theorem zt_e20_20 : zt_eOK "java/lang/AbstractStringBuilder" (197, 4, 153, 0, 5091) := ⟨_, rfl, (zt_in (j := 5) (k := 91) rfl rfl)⟩
set_option maxRecDepth 100000 in
theorem zt_e20_19 : zt_eOK "java/lang/AbstractStringBuilder" (195, 15, 145, 0, 5058) := ⟨_, rfl, (zt_in (j := 5) (k := 58) rfl rfl), (zt_in (j := 8) (k := 183) rfl rfl), (zt_inN (j := 5) (k := 59) rfl rfl)⟩
set_option maxRecDepth 100000 in
theorem zt_e20_18 : zt_eOK "java/lang/AbstractStringBuilder" (191, 4, 144, 0, 5055) := ⟨_, rfl, (zt_in (j := 5) (k := 55) rfl rfl)⟩
set_option maxRecDepth 100000 in
theorem zt_e20_17 : zt_eOK "java/lang/AbstractStringBuilder" (148, 4, 186, 0, 7183) := ⟨_, rfl, (zt_in (j := 7) (k := 183) rfl rfl)⟩
set_option maxRecDepth 100000 in
theorem zt_e20_16 : zt_eOK "java/lang/AbstractStringBuilder" (144, 4, 155, 0, 7182) := ⟨_, rfl, (zt_in (j := 7) (k := 182) rfl rfl)⟩
set_option maxRecDepth 100000 in
theorem zt_e20_15 : zt_eOK "java/lang/AbstractStringBuilder" (138, 16, 0, 1, 7181) := Or.inr (Or.inl ⟨rfl, (zt_in (j := 7) (k := 181) rfl rfl), (zt_in (j := 5) (k := 47) rfl rfl), (zt_in (j := 1) (k := 17) rfl rfl), (zt_in (j := 5) (k := 48) rfl rfl)⟩)
set_option maxRecDepth 100000 in
theorem zt_e20_14 : zt_eOK "java/lang/AbstractStringBuilder" (125, 4, 146, 0, 5062) := ⟨_, rfl, (zt_in (j := 5) (k := 62) rfl rfl)⟩
set_option maxRecDepth 100000 in
theorem zt_e20_13 : zt_eOK "java/lang/AbstractStringBuilder" (114, 4, 139, 0, 5027) := ⟨_, rfl, (zt_in (j := 5) (k := 27) rfl rfl)⟩
set_option maxRecDepth 100000 in
theorem zt_e20_12 : zt_eOK "java/lang/AbstractStringBuilder" (108, 4, 141, 0, 5036) := ⟨_, rfl, (zt_in (j := 5) (k := 36) rfl rfl)⟩
set_option maxRecDepth 100000 in
theorem zt_e20_11 : zt_eOK "java/lang/AbstractStringBuilder" (104, 15, 138, 0, 5023) := ⟨_, rfl, (zt_in (j := 5) (k := 23) rfl rfl), (zt_in (j := 8) (k := 182) rfl rfl), (zt_inN (j := 5) (k := 24) rfl rfl)⟩
set_option maxRecDepth 100000 in
theorem zt_e20_10 : zt_eOK "java/lang/AbstractStringBuilder" (100, 15, 137, 0, 5019) := ⟨_, rfl, (zt_in (j := 5) (k := 19) rfl rfl), (zt_in (j := 8) (k := 181) rfl rfl), (zt_inN (j := 5) (k := 20) rfl rfl)⟩
set_option maxRecDepth 100000 in
theorem zt_e20_9 : zt_eOK "java/lang/AbstractStringBuilder" (83, 12, 0, 0, 5050) := ⟨_, rfl, (zt_in (j := 5) (k := 50) rfl rfl)⟩
set_option maxRecDepth 100000 in
theorem zt_e20_8 : zt_eOK "java/lang/AbstractStringBuilder" (79, 0, 1, 3, 5002) := ⟨_, "java/lang/AbstractStringBuilder", rfl, by decide, (zt_in (j := 5) (k := 2) rfl rfl), Or.inl rfl⟩
set_option maxRecDepth 100000 in
theorem zt_e20_7 : zt_eOK "java/lang/AbstractStringBuilder" (43, 12, 3, 0, 7089) := ⟨_, rfl, (zt_in (j := 7) (k := 89) rfl rfl)⟩
set_option maxRecDepth 100000 in
theorem zt_e20_6 : zt_eOK "java/lang/AbstractStringBuilder" (40, 6, 180, 0, 5208) := ⟨_, rfl, (zt_in (j := 5) (k := 208) rfl rfl)⟩
set_option maxRecDepth 100000 in
theorem zt_e20_5 : zt_eOK "java/lang/AbstractStringBuilder" (32, 6, 179, 0, 5191) := ⟨_, rfl, (zt_in (j := 5) (k := 191) rfl rfl)⟩
set_option maxRecDepth 100000 in
theorem zt_e20_4 : zt_eOK "java/lang/AbstractStringBuilder" (26, 4, 133, 0, 4232) := ⟨_, rfl, (zt_in (j := 4) (k := 232) rfl rfl)⟩
set_option maxRecDepth 100000 in
theorem zt_e20_3 : zt_eOK "java/lang/AbstractStringBuilder" (22, 0, 1, 1, 5000) := ⟨_, "java/lang/AbstractStringBuilder", rfl, by decide, (zt_in (j := 5) (k := 0) rfl rfl), Or.inl rfl⟩
set_option maxRecDepth 100000 in
theorem zt_e20_2 : zt_eOK "java/lang/AbstractStringBuilder" (18, 14, 0, 0, 4230) := ⟨_, rfl, (zt_in (j := 4) (k := 230) rfl rfl)⟩
set_option maxRecDepth 100000 in
theorem zt_e20_1 : zt_eOK "java/lang/AbstractStringBuilder" (15, 0, 1, 0, 4239) := ⟨_, "java/lang/AbstractStringBuilder", rfl, by decide, (zt_in (j := 4) (k := 239) rfl rfl), Or.inl rfl⟩
set_option maxRecDepth 100000 in
theorem zt_e20_0 : zt_eOK "java/lang/AbstractStringBuilder" (3, 10, 0, 0, 4229) := (zt_in (j := 4) (k := 229) rfl rfl)
theorem zt_pl20_ok : ∀ e ∈ zt_pl20, zt_eOK "java/lang/AbstractStringBuilder" e := List.forall_mem_cons.mpr ⟨zt_e20_0, List.forall_mem_cons.mpr ⟨zt_e20_1, List.forall_mem_cons.mpr ⟨zt_e20_2, List.forall_mem_cons.mpr ⟨zt_e20_3, List.forall_mem_cons.mpr ⟨zt_e20_4, List.forall_mem_cons.mpr ⟨zt_e20_5, List.forall_mem_cons.mpr ⟨zt_e20_6, List.forall_mem_cons.mpr ⟨zt_e20_7, List.forall_mem_cons.mpr ⟨zt_e20_8, List.forall_mem_cons.mpr ⟨zt_e20_9, List.forall_mem_cons.mpr ⟨zt_e20_10, List.forall_mem_cons.mpr ⟨zt_e20_11, List.forall_mem_cons.mpr ⟨zt_e20_12, List.forall_mem_cons.mpr ⟨zt_e20_13, List.forall_mem_cons.mpr ⟨zt_e20_14, List.forall_mem_cons.mpr ⟨zt_e20_15, List.forall_mem_cons.mpr ⟨zt_e20_16, List.forall_mem_cons.mpr ⟨zt_e20_17, List.forall_mem_cons.mpr ⟨zt_e20_18, List.forall_mem_cons.mpr ⟨zt_e20_19, List.forall_mem_cons.mpr ⟨zt_e20_20, List.forall_mem_cons.mpr ⟨zt_e20_21, List.forall_mem_cons.mpr ⟨zt_e20_22, List.forall_mem_cons.mpr ⟨zt_e20_23, List.forall_mem_cons.mpr ⟨zt_e20_24, List.forall_mem_cons.mpr ⟨zt_e20_25, List.forall_mem_cons.mpr ⟨zt_e20_26, List.forall_mem_cons.mpr ⟨zt_e20_27, List.forall_mem_cons.mpr ⟨zt_e20_28, List.forall_mem_cons.mpr ⟨zt_e20_29, List.forall_mem_cons.mpr ⟨zt_e20_30, List.forall_mem_cons.mpr ⟨zt_e20_31, List.forall_mem_cons.mpr ⟨zt_e20_32, List.forall_mem_cons.mpr ⟨zt_e20_33, List.forall_mem_cons.mpr ⟨zt_e20_34, fun _ h => absurd h List.not_mem_nil⟩⟩⟩⟩⟩⟩⟩⟩⟩⟩⟩⟩⟩⟩⟩⟩⟩⟩⟩⟩⟩⟩⟩⟩⟩⟩⟩⟩⟩⟩⟩⟩⟩⟩⟩
set_option maxRecDepth 100000 in
theorem zt_lc20_ok : ∀ e ∈ zt_lc20, Cond.constantLong "java/lang/AbstractStringBuilder" e.1 e.2.1 ∈ zt_good := fun _ h => absurd h List.not_mem_nil
set_option maxRecDepth 100000 in
theorem zt_e21_18 : zt_eOK "java/lang/StringUTF16" (419, 4, 150, 0, 5074) := ⟨_, rfl, (zt_in (j := 5) (k := 74) rfl rfl)⟩
set_option maxRecDepth 100000 in
theorem zt_e21_17 : zt_eOK "java/lang/StringUTF16" (414, 4, 155, 0, 5097) := ⟨_, rfl, (zt_in (j := 5) (k := 97) rfl rfl)⟩
set_option maxRecDepth 100000 in
theorem zt_e21_16 : zt_eOK "java/lang/StringUTF16" (407, 14, 3, 0, 5175) := ⟨_, rfl, (zt_in (j := 5) (k := 175) rfl rfl)⟩
set_option maxRecDepth 100000 in
theorem zt_e21_15 : zt_eOK "java/lang/StringUTF16" (403, 14, 2, 0, 5174) := ⟨_, rfl, (zt_in (j := 5) (k := 174) rfl rfl)⟩
set_option maxRecDepth 100000 in
theorem zt_e21_14 : zt_eOK "java/lang/StringUTF16" (396, 4, 268, 0, 7139) := ⟨_, rfl, (zt_in (j := 7) (k := 139) rfl rfl)⟩
set_option maxRecDepth 100000 in
theorem zt_e21_13 : zt_eOK "java/lang/StringUTF16" (393, 4, 174, 0, 5171) := ⟨_, rfl, (zt_in (j := 5) (k := 171) rfl rfl)⟩
set_option maxRecDepth 100000 in
theorem zt_e21_12 : zt_eOK "java/lang/StringUTF16" (241, 4, 172, 0, 5165) := ⟨_, rfl, (zt_in (j := 5) (k := 165) rfl rfl)⟩
set_option maxRecDepth 100000 in
theorem zt_e21_11 : zt_eOK "java/lang/StringUTF16" (189, 4, 239, 0, 7005) := ⟨_, rfl, (zt_in (j := 7) (k := 5) rfl rfl)⟩
set_option maxRecDepth 100000 in
theorem zt_e21_10 : zt_eOK "java/lang/StringUTF16" (183, 16, 0, 1, 6230) := Or.inr (Or.inl ⟨rfl, (zt_in (j := 6) (k := 230) rfl rfl), (zt_in (j := 5) (k := 47) rfl rfl), (zt_in (j := 1) (k := 17) rfl rfl), (zt_in (j := 5) (k := 48) rfl rfl)⟩)
set_option maxRecDepth 100000 in
theorem zt_e21_9 : zt_eOK "java/lang/StringUTF16" (176, 4, 238, 0, 6227) := ⟨_, rfl, (zt_in (j := 6) (k := 227) rfl rfl)⟩
set_option maxRecDepth 100000 in
theorem zt_e21_8 : zt_eOK "java/lang/StringUTF16" (173, 4, 148, 0, 5068) := ⟨_, rfl, (zt_in (j := 5) (k := 68) rfl rfl)⟩
set_option maxRecDepth 100000 in
theorem zt_e21_7 : zt_eOK "java/lang/StringUTF16" (126, 4, 163, 0, 5226) := ⟨_, rfl, (zt_in (j := 5) (k := 226) rfl rfl)⟩
set_option maxRecDepth 100000 in
theorem zt_e21_6 : zt_eOK "java/lang/StringUTF16" (123, 4, 185, 0, 5220) := ⟨_, rfl, (zt_in (j := 5) (k := 220) rfl rfl)⟩
set_option maxRecDepth 100000 in
theorem zt_e21_5 : zt_eOK "java/lang/StringUTF16" (111, 4, 152, 0, 5082) := ⟨_, rfl, (zt_in (j := 5) (k := 82) rfl rfl)⟩
set_option maxRecDepth 100000 in
theorem zt_e21_4 : zt_eOK "java/lang/StringUTF16" (96, 4, 171, 0, 5162) := ⟨_, rfl, (zt_in (j := 5) (k := 162) rfl rfl)⟩
set_option maxRecDepth 100000 in
theorem zt_e21_3 : zt_eOK "java/lang/StringUTF16" (71, 4, 186, 0, 5223) := ⟨_, rfl, (zt_in (j := 5) (k := 223) rfl rfl)⟩
set_option maxRecDepth 100000 in
theorem zt_e21_2 : zt_eOK "java/lang/StringUTF16" (67, 4, 154, 0, 5094) := ⟨_, rfl, (zt_in (j := 5) (k := 94) rfl rfl)⟩
set_option maxRecDepth 100000 in
theorem zt_e21_1 : zt_eOK "java/lang/StringUTF16" (48, 4, 149, 0, 5071) := ⟨_, rfl, (zt_in (j := 5) (k := 71) rfl rfl)⟩
set_option maxRecDepth 100000 in
theorem zt_e21_0 : zt_eOK "java/lang/StringUTF16" (11, 4, 134, 0, 4235) := ⟨_, rfl, (zt_in (j := 4) (k := 235) rfl rfl)⟩
theorem zt_pl21_ok : ∀ e ∈ zt_pl21, zt_eOK "java/lang/StringUTF16" e := List.forall_mem_cons.mpr ⟨zt_e21_0, List.forall_mem_cons.mpr ⟨zt_e21_1, List.forall_mem_cons.mpr ⟨zt_e21_2, List.forall_mem_cons.mpr ⟨zt_e21_3, List.forall_mem_cons.mpr ⟨zt_e21_4, List.forall_mem_cons.mpr ⟨zt_e21_5, List.forall_mem_cons.mpr ⟨zt_e21_6, List.forall_mem_cons.mpr ⟨zt_e21_7, List.forall_mem_cons.mpr ⟨zt_e21_8, List.forall_mem_cons.mpr ⟨zt_e21_9, List.forall_mem_cons.mpr ⟨zt_e21_10, List.forall_mem_cons.mpr ⟨zt_e21_11, List.forall_mem_cons.mpr ⟨zt_e21_12, List.forall_mem_cons.mpr ⟨zt_e21_13, List.forall_mem_cons.mpr ⟨zt_e21_14, List.forall_mem_cons.mpr ⟨zt_e21_15, List.forall_mem_cons.mpr ⟨zt_e21_16, List.forall_mem_cons.mpr ⟨zt_e21_17, List.forall_mem_cons.mpr ⟨zt_e21_18, fun _ h => absurd h List.not_mem_nil⟩⟩⟩⟩⟩⟩⟩⟩⟩⟩⟩⟩⟩⟩⟩⟩⟩⟩⟩
set_option maxRecDepth 100000 in
theorem zt_lc21_ok : ∀ e ∈ zt_lc21, Cond.constantLong "java/lang/StringUTF16" e.1 e.2.1 ∈ zt_good := List.forall_mem_cons.mpr ⟨(zt_in (j := 7) (k := 142) rfl rfl), List.forall_mem_cons.mpr ⟨(zt_in (j := 7) (k := 143) rfl rfl), fun _ h => absurd h List.not_mem_nil⟩⟩
set_option maxRecDepth 100000 in
theorem zt_e22_8 : zt_eOK "jdk/internal/util/ArraysSupport" (201, 4, 140, 0, 5032) := ⟨_, rfl, (zt_in (j := 5) (k := 32) rfl rfl)⟩
set_option maxRecDepth 100000 in
theorem zt_e22_7 : zt_eOK "jdk/internal/util/ArraysSupport" (194, 16, 0, 0, 5030) := Or.inl ⟨rfl, (zt_in (j := 5) (k := 30) rfl rfl), (zt_in (j := 3) (k := 109) rfl rfl), (zt_in (j := 1) (k := 17) rfl rfl), (zt_in (j := 3) (k := 110) rfl rfl)⟩
set_option maxRecDepth 100000 in
theorem zt_e22_6 : zt_eOK "jdk/internal/util/ArraysSupport" (122, 4, 218, 0, 6124) := ⟨_, rfl, (zt_in (j := 6) (k := 124) rfl rfl)⟩
set_option maxRecDepth 100000 in
theorem zt_e22_5 : zt_eOK "jdk/internal/util/ArraysSupport" (58, 4, 228, 0, 6219) := ⟨_, rfl, (zt_in (j := 6) (k := 219) rfl rfl)⟩
set_option maxRecDepth 100000 in
theorem zt_e22_4 : zt_eOK "jdk/internal/util/ArraysSupport" (54, 6, 231, 0, 6202) := ⟨_, rfl, (zt_in (j := 6) (k := 202) rfl rfl)⟩
set_option maxRecDepth 100000 in
theorem zt_e22_3 : zt_eOK "jdk/internal/util/ArraysSupport" (49, 4, 229, 0, 6194) := ⟨_, rfl, (zt_in (j := 6) (k := 194) rfl rfl)⟩
set_option maxRecDepth 100000 in
theorem zt_e22_2 : zt_eOK "jdk/internal/util/ArraysSupport" (40, 4, 227, 0, 6185) := ⟨_, rfl, (zt_in (j := 6) (k := 185) rfl rfl)⟩
set_option maxRecDepth 100000 in
theorem zt_e22_1 : zt_eOK "jdk/internal/util/ArraysSupport" (30, 6, 219, 0, 6131) := ⟨_, rfl, (zt_in (j := 6) (k := 131) rfl rfl)⟩
set_option maxRecDepth 100000 in
theorem zt_e22_0 : zt_eOK "jdk/internal/util/ArraysSupport" (11, 4, 230, 0, 6220) := ⟨_, rfl, (zt_in (j := 6) (k := 220) rfl rfl)⟩
theorem zt_pl22_ok : ∀ e ∈ zt_pl22, zt_eOK "jdk/internal/util/ArraysSupport" e := List.forall_mem_cons.mpr ⟨zt_e22_0, List.forall_mem_cons.mpr ⟨zt_e22_1, List.forall_mem_cons.mpr ⟨zt_e22_2, List.forall_mem_cons.mpr ⟨zt_e22_3, List.forall_mem_cons.mpr ⟨zt_e22_4, List.forall_mem_cons.mpr ⟨zt_e22_5, List.forall_mem_cons.mpr ⟨zt_e22_6, List.forall_mem_cons.mpr ⟨zt_e22_7, List.forall_mem_cons.mpr ⟨zt_e22_8, fun _ h => absurd h List.not_mem_nil⟩⟩⟩⟩⟩⟩⟩⟩⟩
set_option maxRecDepth 100000 in
theorem zt_lc22_ok : ∀ e ∈ zt_lc22, Cond.constantLong "jdk/internal/util/ArraysSupport" e.1 e.2.1 ∈ zt_good := fun _ h => absurd h List.not_mem_nil
set_option maxRecDepth 100000 in
theorem zt_e23_11 : zt_eOK "java/util/Arrays" (343, 4, 165, 0, 5136) := ⟨_, rfl, (zt_in (j := 5) (k := 136) rfl rfl)⟩
set_option maxRecDepth 100000 in
theorem zt_e23_10 : zt_eOK "java/util/Arrays" (339, 4, 164, 0, 5133) := ⟨_, rfl, (zt_in (j := 5) (k := 133) rfl rfl)⟩
set_option maxRecDepth 100000 in
theorem zt_e23_9 : zt_eOK "java/util/Arrays" (337, 13, 0, 0, 5176) := ⟨" > ", zt_ch_in (j := 5) (List.mem_of_getElem? (i := 176) rfl), fun h => absurd h (by decide)⟩
set_option maxRecDepth 100000 in
theorem zt_e23_8 : zt_eOK "java/util/Arrays" (311, 18, 3, 0, 5045) := ⟨"[B", _, (zt_in (j := 5) (k := 45) rfl rfl), rfl, by decide +kernel⟩
set_option maxRecDepth 100000 in
theorem zt_e23_7 : zt_eOK "java/util/Arrays" (304, 16, 0, 1, 5046) := Or.inr (Or.inl ⟨rfl, (zt_in (j := 5) (k := 46) rfl rfl), (zt_in (j := 5) (k := 47) rfl rfl), (zt_in (j := 1) (k := 17) rfl rfl), (zt_in (j := 5) (k := 48) rfl rfl)⟩)
set_option maxRecDepth 100000 in
theorem zt_e23_6 : zt_eOK "java/util/Arrays" (150, 17, 0, 0, 5049) := (zt_in (j := 5) (k := 49) rfl rfl)
set_option maxRecDepth 100000 in
theorem zt_e23_5 : zt_eOK "java/util/Arrays" (61, 6, 157, 0, 5215) := ⟨_, rfl, (zt_in (j := 5) (k := 215) rfl rfl)⟩
set_option maxRecDepth 100000 in
theorem zt_e23_4 : zt_eOK "java/util/Arrays" (54, 6, 166, 0, 5142) := ⟨_, rfl, (zt_in (j := 5) (k := 142) rfl rfl)⟩
set_option maxRecDepth 100000 in
theorem zt_e23_3 : zt_eOK "java/util/Arrays" (50, 6, 175, 0, 5177) := ⟨_, rfl, (zt_in (j := 5) (k := 177) rfl rfl)⟩
set_option maxRecDepth 100000 in
theorem zt_e23_2 : zt_eOK "java/util/Arrays" (47, 8, 131, 0, 5141) := ⟨_, rfl, (zt_in (j := 5) (k := 141) rfl rfl)⟩
set_option maxRecDepth 100000 in
theorem zt_e23_1 : zt_eOK "java/util/Arrays" (45, 2, 1, 999, 5140) := ⟨"java/lang/StringBuilder", (zt_in (j := 5) (k := 140) rfl rfl), Or.inr rfl, Or.inl rfl⟩
set_option maxRecDepth 100000 in
theorem zt_e23_0 : zt_eOK "java/util/Arrays" (43, 2, 14, 999, 5139) := ⟨"java/lang/IllegalArgumentException", (zt_in (j := 5) (k := 139) rfl rfl), Or.inr rfl, Or.inl rfl⟩
theorem zt_pl23_ok : ∀ e ∈ zt_pl23, zt_eOK "java/util/Arrays" e := List.forall_mem_cons.mpr ⟨zt_e23_0, List.forall_mem_cons.mpr ⟨zt_e23_1, List.forall_mem_cons.mpr ⟨zt_e23_2, List.forall_mem_cons.mpr ⟨zt_e23_3, List.forall_mem_cons.mpr ⟨zt_e23_4, List.forall_mem_cons.mpr ⟨zt_e23_5, List.forall_mem_cons.mpr ⟨zt_e23_6, List.forall_mem_cons.mpr ⟨zt_e23_7, List.forall_mem_cons.mpr ⟨zt_e23_8, List.forall_mem_cons.mpr ⟨zt_e23_9, List.forall_mem_cons.mpr ⟨zt_e23_10, List.forall_mem_cons.mpr ⟨zt_e23_11, fun _ h => absurd h List.not_mem_nil⟩⟩⟩⟩⟩⟩⟩⟩⟩⟩⟩⟩
set_option maxRecDepth 100000 in
theorem zt_lc23_ok : ∀ e ∈ zt_lc23, Cond.constantLong "java/util/Arrays" e.1 e.2.1 ∈ zt_good := fun _ h => absurd h List.not_mem_nil
set_option maxRecDepth 100000 in
theorem zt_e24_9 : zt_eOK "java/lang/StringLatin1" (240, 4, 147, 0, 5065) := ⟨_, rfl, (zt_in (j := 5) (k := 65) rfl rfl)⟩
set_option maxRecDepth 100000 in
theorem zt_e24_8 : zt_eOK "java/lang/StringLatin1" (65, 4, 186, 0, 7001) := ⟨_, rfl, (zt_in (j := 7) (k := 1) rfl rfl)⟩
set_option maxRecDepth 100000 in
theorem zt_e24_7 : zt_eOK "java/lang/StringLatin1" (59, 4, 241, 0, 6238) := ⟨_, rfl, (zt_in (j := 6) (k := 238) rfl rfl)⟩
set_option maxRecDepth 100000 in
theorem zt_e24_6 : zt_eOK "java/lang/StringLatin1" (58, 4, 149, 0, 6237) := ⟨_, rfl, (zt_in (j := 6) (k := 237) rfl rfl)⟩
set_option maxRecDepth 100000 in
theorem zt_e24_5 : zt_eOK "java/lang/StringLatin1" (54, 4, 240, 0, 6234) := ⟨_, rfl, (zt_in (j := 6) (k := 234) rfl rfl)⟩
set_option maxRecDepth 100000 in
theorem zt_e24_4 : zt_eOK "java/lang/StringLatin1" (50, 4, 236, 0, 6221) := ⟨_, rfl, (zt_in (j := 6) (k := 221) rfl rfl)⟩
set_option maxRecDepth 100000 in
theorem zt_e24_3 : zt_eOK "java/lang/StringLatin1" (44, 4, 217, 0, 6117) := ⟨_, rfl, (zt_in (j := 6) (k := 117) rfl rfl)⟩
set_option maxRecDepth 100000 in
theorem zt_e24_2 : zt_eOK "java/lang/StringLatin1" (38, 16, 0, 1, 6116) := Or.inr (Or.inl ⟨rfl, (zt_in (j := 6) (k := 116) rfl rfl), (zt_in (j := 5) (k := 47) rfl rfl), (zt_in (j := 1) (k := 17) rfl rfl), (zt_in (j := 5) (k := 48) rfl rfl)⟩)
set_option maxRecDepth 100000 in
theorem zt_e24_1 : zt_eOK "java/lang/StringLatin1" (34, 4, 216, 0, 6113) := ⟨_, rfl, (zt_in (j := 6) (k := 113) rfl rfl)⟩
set_option maxRecDepth 100000 in
theorem zt_e24_0 : zt_eOK "java/lang/StringLatin1" (9, 4, 155, 0, 6019) := ⟨_, rfl, (zt_in (j := 6) (k := 19) rfl rfl)⟩
theorem zt_pl24_ok : ∀ e ∈ zt_pl24, zt_eOK "java/lang/StringLatin1" e := List.forall_mem_cons.mpr ⟨zt_e24_0, List.forall_mem_cons.mpr ⟨zt_e24_1, List.forall_mem_cons.mpr ⟨zt_e24_2, List.forall_mem_cons.mpr ⟨zt_e24_3, List.forall_mem_cons.mpr ⟨zt_e24_4, List.forall_mem_cons.mpr ⟨zt_e24_5, List.forall_mem_cons.mpr ⟨zt_e24_6, List.forall_mem_cons.mpr ⟨zt_e24_7, List.forall_mem_cons.mpr ⟨zt_e24_8, List.forall_mem_cons.mpr ⟨zt_e24_9, fun _ h => absurd h List.not_mem_nil⟩⟩⟩⟩⟩⟩⟩⟩⟩⟩
set_option maxRecDepth 100000 in
theorem zt_lc24_ok : ∀ e ∈ zt_lc24, Cond.constantLong "java/lang/StringLatin1" e.1 e.2.1 ∈ zt_good := fun _ h => absurd h List.not_mem_nil
theorem zt_pl25_ok : ∀ e ∈ zt_pl25, zt_eOK "jdk/internal/util/Preconditions" e := fun _ h => absurd h List.not_mem_nil
set_option maxRecDepth 100000 in
theorem zt_lc25_ok : ∀ e ∈ zt_lc25, Cond.constantLong "jdk/internal/util/Preconditions" e.1 e.2.1 ∈ zt_good := fun _ h => absurd h List.not_mem_nil
set_option maxRecDepth 100000 in
theorem zt_e26_1 : zt_eOK "java/lang/Integer" (87, 14, 3, 0, 5157) := ⟨_, rfl, (zt_in (j := 5) (k := 157) rfl rfl)⟩
set_option maxRecDepth 100000 in
theorem zt_e26_0 : zt_eOK "java/lang/Integer" (83, 14, 2, 0, 5155) := ⟨_, rfl, (zt_in (j := 5) (k := 155) rfl rfl)⟩
theorem zt_pl26_ok : ∀ e ∈ zt_pl26, zt_eOK "java/lang/Integer" e := List.forall_mem_cons.mpr ⟨zt_e26_0, List.forall_mem_cons.mpr ⟨zt_e26_1, fun _ h => absurd h List.not_mem_nil⟩⟩
set_option maxRecDepth 100000 in
theorem zt_lc26_ok : ∀ e ∈ zt_lc26, Cond.constantLong "java/lang/Integer" e.1 e.2.1 ∈ zt_good := fun _ h => absurd h List.not_mem_nil
set_option maxRecDepth 100000 in
theorem zt_e27_10 : zt_eOK "jdk/internal/misc/Unsafe" (796, 4, 235, 0, 6216) := ⟨_, rfl, (zt_in (j := 6) (k := 216) rfl rfl)⟩
set_option maxRecDepth 100000 in
theorem zt_e27_9 : zt_eOK "jdk/internal/misc/Unsafe" (792, 4, 233, 0, 6209) := ⟨_, rfl, (zt_in (j := 6) (k := 209) rfl rfl)⟩
set_option maxRecDepth 100000 in
theorem zt_e27_8 : zt_eOK "jdk/internal/misc/Unsafe" (791, 4, 221, 0, 6149) := ⟨_, rfl, (zt_in (j := 6) (k := 149) rfl rfl)⟩
set_option maxRecDepth 100000 in
theorem zt_e27_7 : zt_eOK "jdk/internal/misc/Unsafe" (788, 4, 224, 0, 6167) := ⟨_, rfl, (zt_in (j := 6) (k := 167) rfl rfl)⟩
set_option maxRecDepth 100000 in
theorem zt_e27_6 : zt_eOK "jdk/internal/misc/Unsafe" (784, 4, 222, 0, 6153) := ⟨_, rfl, (zt_in (j := 6) (k := 153) rfl rfl)⟩
set_option maxRecDepth 100000 in
theorem zt_e27_5 : zt_eOK "jdk/internal/misc/Unsafe" (781, 4, 226, 0, 6179) := ⟨_, rfl, (zt_in (j := 6) (k := 179) rfl rfl)⟩
set_option maxRecDepth 100000 in
theorem zt_e27_4 : zt_eOK "jdk/internal/misc/Unsafe" (723, 4, 234, 0, 6213) := ⟨_, rfl, (zt_in (j := 6) (k := 213) rfl rfl)⟩
set_option maxRecDepth 100000 in
theorem zt_e27_3 : zt_eOK "jdk/internal/misc/Unsafe" (719, 4, 232, 0, 6206) := ⟨_, rfl, (zt_in (j := 6) (k := 206) rfl rfl)⟩
set_option maxRecDepth 100000 in
theorem zt_e27_2 : zt_eOK "jdk/internal/misc/Unsafe" (709, 4, 225, 0, 6176) := ⟨_, rfl, (zt_in (j := 6) (k := 176) rfl rfl)⟩
set_option maxRecDepth 100000 in
theorem zt_e27_1 : zt_eOK "jdk/internal/misc/Unsafe" (704, 4, 223, 0, 6164) := ⟨_, rfl, (zt_in (j := 6) (k := 164) rfl rfl)⟩
set_option maxRecDepth 100000 in
theorem zt_e27_0 : zt_eOK "jdk/internal/misc/Unsafe" (698, 4, 220, 0, 6146) := ⟨_, rfl, (zt_in (j := 6) (k := 146) rfl rfl)⟩
theorem zt_pl27_ok : ∀ e ∈ zt_pl27, zt_eOK "jdk/internal/misc/Unsafe" e := List.forall_mem_cons.mpr ⟨zt_e27_0, List.forall_mem_cons.mpr ⟨zt_e27_1, List.forall_mem_cons.mpr ⟨zt_e27_2, List.forall_mem_cons.mpr ⟨zt_e27_3, List.forall_mem_cons.mpr ⟨zt_e27_4, List.forall_mem_cons.mpr ⟨zt_e27_5, List.forall_mem_cons.mpr ⟨zt_e27_6, List.forall_mem_cons.mpr ⟨zt_e27_7, List.forall_mem_cons.mpr ⟨zt_e27_8, List.forall_mem_cons.mpr ⟨zt_e27_9, List.forall_mem_cons.mpr ⟨zt_e27_10, fun _ h => absurd h List.not_mem_nil⟩⟩⟩⟩⟩⟩⟩⟩⟩⟩⟩
set_option maxRecDepth 100000 in
theorem zt_lc27_ok : ∀ e ∈ zt_lc27, Cond.constantLong "jdk/internal/misc/Unsafe" e.1 e.2.1 ∈ zt_good := List.forall_mem_cons.mpr ⟨(zt_in (j := 6) (k := 135) rfl rfl), List.forall_mem_cons.mpr ⟨(zt_in (j := 6) (k := 140) rfl rfl), List.forall_mem_cons.mpr ⟨(zt_in (j := 6) (k := 145) rfl rfl), List.forall_mem_cons.mpr ⟨(zt_in (j := 6) (k := 152) rfl rfl), List.forall_mem_cons.mpr ⟨(zt_in (j := 6) (k := 162) rfl rfl), List.forall_mem_cons.mpr ⟨(zt_in (j := 6) (k := 163) rfl rfl), List.forall_mem_cons.mpr ⟨(zt_in (j := 6) (k := 170) rfl rfl), List.forall_mem_cons.mpr ⟨(zt_in (j := 6) (k := 175) rfl rfl), List.forall_mem_cons.mpr ⟨(zt_in (j := 6) (k := 182) rfl rfl), fun _ h => absurd h List.not_mem_nil⟩⟩⟩⟩⟩⟩⟩⟩⟩
/-- what a call that is found by the receiver stands on -/
def zt_vOK (e : Nat × Nat × Nat × Bool) : Prop := ∃ (x y : MethodName) (cc : ByteArray) (nL : Nat) (ret : Option FieldType) (oc np hsel : Nat) (r : vw_C), zt_vn[e.1]? = some x ∧ zt_m[e.2.2.1]? = some (y, cc, nL, ret, [], oc, np, 0, 0, hsel, 0) ∧ 0 < e.2.2.1 ∧ zt_cl[e.2.1]? = some r ∧ Cond.selects r.1 x y ∈ zt_good ∧ (x.cls ≠ "java/lang/invoke/MethodHandle" ∧ x.cls ≠ "java/lang/invoke/VarHandle") ∧ (parseMethodDescriptor x.desc).map (fun d => d.parameters.length) = some np ∧
  (if e.2.2.2 = true then Cond.declares x ∈ lw_tbl ∧ Cond.interfaceMethod x.cls x.cls x.name x.desc ∈ lw_tbl ∧ Cond.publicMethod y ∈ lw_tbl ∧ Cond.unhidden r.1 x.name x.desc ∈ lw_tbl ∧ Cond.castable r.1 x.cls ∈ lw_tbl
   else Cond.sameMethod x.cls x.cls x.name x.desc ∈ zt_good ∧ (Cond.declares x ∈ zt_nw ∨ (Cond.instanceMethod x ∈ zt_good ∧ ∃ (b : ByteArray) (m : Nat) (r : Option FieldType), Cond.code x b m r ∈ zt_good)))
set_option maxRecDepth 100000 in
theorem zt_v0 : zt_vOK (0, 1, 143, false) := ⟨_, _, _, _, _, _, 0, _, _, rfl, rfl, by decide, rfl, (zt_in (j := 5) (k := 53) rfl rfl), by decide +kernel, by decide +kernel, ⟨(zt_in (j := 5) (k := 52) rfl rfl), Or.inr ⟨(zt_in (j := 5) (k := 51) rfl rfl), _, _, _, (zt_in (j := 5) (k := 54) rfl rfl)⟩⟩⟩
set_option maxRecDepth 100000 in
theorem zt_v1 : zt_vOK (1, 1, 160, false) := ⟨_, _, _, _, _, _, 0, _, _, rfl, rfl, by decide, rfl, (zt_in (j := 5) (k := 119) rfl rfl), by decide +kernel, by decide +kernel, ⟨(zt_in (j := 5) (k := 118) rfl rfl), Or.inr ⟨(zt_in (j := 5) (k := 117) rfl rfl), _, _, _, (zt_in (j := 5) (k := 120) rfl rfl)⟩⟩⟩
set_option maxRecDepth 100000 in
theorem zt_v2 : zt_vOK (2, 1, 161, false) := ⟨_, _, _, _, _, _, 0, _, _, rfl, rfl, by decide, rfl, (zt_in (j := 5) (k := 124) rfl rfl), by decide +kernel, by decide +kernel, ⟨(zt_in (j := 5) (k := 123) rfl rfl), Or.inr ⟨(zt_in (j := 5) (k := 122) rfl rfl), _, _, _, (zt_in (j := 5) (k := 128) rfl rfl)⟩⟩⟩
set_option maxRecDepth 100000 in
theorem zt_v3 : zt_vOK (3, 1, 259, false) := ⟨_, _, _, _, _, _, 1, _, _, rfl, rfl, by decide, rfl, (zt_in (j := 8) (k := 191) rfl rfl), by decide +kernel, by decide +kernel, ⟨(zt_in (j := 8) (k := 185) rfl rfl), Or.inr ⟨(zt_in (j := 5) (k := 182) rfl rfl), _, _, _, (zt_in (j := 5) (k := 183) rfl rfl)⟩⟩⟩
set_option maxRecDepth 100000 in
theorem zt_v4 : zt_vOK (4, 0, 179, true) := ⟨_, _, _, _, _, _, 0, _, _, rfl, rfl, by decide, rfl, (zt_in (j := 7) (k := 159) rfl rfl), by decide +kernel, by decide +kernel, ⟨(zt_ch_in (j := 7) (List.mem_of_getElem? (i := 157) rfl)), (zt_ch_in (j := 7) (List.mem_of_getElem? (i := 156) rfl)), (zt_ch_in (j := 7) (List.mem_of_getElem? (i := 161) rfl)), (zt_ch_in (j := 7) (List.mem_of_getElem? (i := 160) rfl)), (zt_ch_in (j := 7) (List.mem_of_getElem? (i := 158) rfl))⟩⟩
set_option maxRecDepth 100000 in
theorem zt_v5 : zt_vOK (4, 1, 161, true) := ⟨_, _, _, _, _, _, 0, _, _, rfl, rfl, by decide, rfl, (zt_in (j := 7) (k := 163) rfl rfl), by decide +kernel, by decide +kernel, ⟨(zt_ch_in (j := 7) (List.mem_of_getElem? (i := 157) rfl)), (zt_ch_in (j := 7) (List.mem_of_getElem? (i := 156) rfl)), (zt_ch_in (j := 7) (List.mem_of_getElem? (i := 165) rfl)), (zt_ch_in (j := 7) (List.mem_of_getElem? (i := 164) rfl)), (zt_ch_in (j := 7) (List.mem_of_getElem? (i := 162) rfl))⟩⟩
set_option maxRecDepth 100000 in
theorem zt_v6 : zt_vOK (5, 0, 189, true) := ⟨_, _, _, _, _, _, 1, _, _, rfl, rfl, by decide, rfl, (zt_in (j := 7) (k := 170) rfl rfl), by decide +kernel, by decide +kernel, ⟨(zt_ch_in (j := 7) (List.mem_of_getElem? (i := 169) rfl)), (zt_ch_in (j := 7) (List.mem_of_getElem? (i := 168) rfl)), (zt_ch_in (j := 7) (List.mem_of_getElem? (i := 172) rfl)), (zt_ch_in (j := 7) (List.mem_of_getElem? (i := 171) rfl)), (zt_ch_in (j := 7) (List.mem_of_getElem? (i := 158) rfl))⟩⟩
set_option maxRecDepth 100000 in
theorem zt_v7 : zt_vOK (5, 1, 271, true) := ⟨_, _, _, _, _, _, 1, _, _, rfl, rfl, by decide, rfl, (zt_in (j := 7) (k := 173) rfl rfl), by decide +kernel, by decide +kernel, ⟨(zt_ch_in (j := 7) (List.mem_of_getElem? (i := 169) rfl)), (zt_ch_in (j := 7) (List.mem_of_getElem? (i := 168) rfl)), (zt_ch_in (j := 7) (List.mem_of_getElem? (i := 176) rfl)), (zt_ch_in (j := 7) (List.mem_of_getElem? (i := 174) rfl)), (zt_ch_in (j := 7) (List.mem_of_getElem? (i := 162) rfl))⟩⟩
set_option maxRecDepth 100000 in
theorem zt_v8 : zt_vOK (6, 0, 281, false) := ⟨_, _, _, _, _, _, 0, _, _, rfl, rfl, by decide, rfl, (zt_in (j := 8) (k := 39) rfl rfl), by decide +kernel, by decide +kernel, ⟨(zt_in (j := 7) (k := 219) rfl rfl), Or.inl (zt_inN (j := 7) (k := 216) rfl rfl)⟩⟩
set_option maxRecDepth 100000 in
theorem zt_v9 : zt_vOK (6, 1, 157, false) := ⟨_, _, _, _, _, _, 0, _, _, rfl, rfl, by decide, rfl, (zt_in (j := 8) (k := 42) rfl rfl), by decide +kernel, by decide +kernel, ⟨(zt_in (j := 7) (k := 219) rfl rfl), Or.inl (zt_inN (j := 7) (k := 216) rfl rfl)⟩⟩
set_option maxRecDepth 100000 in
theorem zt_vt_ok : ∀ e ∈ zt_vt, zt_vOK e := List.forall_mem_cons.mpr ⟨zt_v0, List.forall_mem_cons.mpr ⟨zt_v1, List.forall_mem_cons.mpr ⟨zt_v2, List.forall_mem_cons.mpr ⟨zt_v3, List.forall_mem_cons.mpr ⟨zt_v4, List.forall_mem_cons.mpr ⟨zt_v5, List.forall_mem_cons.mpr ⟨zt_v6, List.forall_mem_cons.mpr ⟨zt_v7, List.forall_mem_cons.mpr ⟨zt_v8, List.forall_mem_cons.mpr ⟨zt_v9, fun _ h => absurd h List.not_mem_nil⟩⟩⟩⟩⟩⟩⟩⟩⟩⟩
set_option maxRecDepth 100000 in
theorem zt_acopy : Cond.native arraycopyName ∈ zt_good ∧ Cond.static arraycopyName ∈ zt_good ∧ Cond.initialized "java/lang/System" ∈ zt_good := ⟨(zt_in (j := 2) (k := 156) rfl rfl), (zt_in (j := 2) (k := 155) rfl rfl), (zt_in (j := 1) (k := 15) rfl rfl)⟩
theorem zt_pl_ok {oc : Nat} {own : String} {l : List (Nat × Nat × Nat × Nat × Nat)} (ho : zt_on[oc]? = some own) (h : zt_pl[oc]? = some l) : ∀ e ∈ l, zt_eOK own e := by
  match oc, ho, h with
  | 0, ho, h => cases ho; cases h; exact zt_pl0_ok
  | 1, ho, h => cases ho; cases h; exact zt_pl1_ok
  | 2, ho, h => cases ho; cases h; exact zt_pl2_ok
  | 3, ho, h => cases ho; cases h; exact zt_pl3_ok
  | 4, ho, h => cases ho; cases h; exact zt_pl4_ok
  | 5, ho, h => cases ho; cases h; exact zt_pl5_ok
  | 6, ho, h => cases ho; cases h; exact zt_pl6_ok
  | 7, ho, h => cases ho; cases h; exact zt_pl7_ok
  | 8, ho, h => cases ho; cases h; exact zt_pl8_ok
  | 9, ho, h => cases ho; cases h; exact zt_pl9_ok
  | 10, ho, h => cases ho; cases h; exact zt_pl10_ok
  | 11, ho, h => cases ho; cases h; exact zt_pl11_ok
  | 12, ho, h => cases ho; cases h; exact zt_pl12_ok
  | 13, ho, h => cases ho; cases h; exact zt_pl13_ok
  | 14, ho, h => cases ho; cases h; exact zt_pl14_ok
  | 15, ho, h => cases ho; cases h; exact zt_pl15_ok
  | 16, ho, h => cases ho; cases h; exact zt_pl16_ok
  | 17, ho, h => cases ho; cases h; exact zt_pl17_ok
  | 18, ho, h => cases ho; cases h; exact zt_pl18_ok
  | 19, ho, h => cases ho; cases h; exact zt_pl19_ok
  | 20, ho, h => cases ho; cases h; exact zt_pl20_ok
  | 21, ho, h => cases ho; cases h; exact zt_pl21_ok
  | 22, ho, h => cases ho; cases h; exact zt_pl22_ok
  | 23, ho, h => cases ho; cases h; exact zt_pl23_ok
  | 24, ho, h => cases ho; cases h; exact zt_pl24_ok
  | 25, ho, h => cases ho; cases h; exact zt_pl25_ok
  | 26, ho, h => cases ho; cases h; exact zt_pl26_ok
  | 27, ho, h => cases ho; cases h; exact zt_pl27_ok
  | k + 28, ho, h => exact absurd ho (by simp [zt_on])
theorem zt_lc_ok {oc : Nat} {own : String} {l : List (Nat × Int64 × Nat)} (ho : zt_on[oc]? = some own) (h : zt_lc[oc]? = some l) : ∀ e ∈ l, Cond.constantLong own e.1 e.2.1 ∈ zt_good := by
  match oc, ho, h with
  | 0, ho, h => cases ho; cases h; exact zt_lc0_ok
  | 1, ho, h => cases ho; cases h; exact zt_lc1_ok
  | 2, ho, h => cases ho; cases h; exact zt_lc2_ok
  | 3, ho, h => cases ho; cases h; exact zt_lc3_ok
  | 4, ho, h => cases ho; cases h; exact zt_lc4_ok
  | 5, ho, h => cases ho; cases h; exact zt_lc5_ok
  | 6, ho, h => cases ho; cases h; exact zt_lc6_ok
  | 7, ho, h => cases ho; cases h; exact zt_lc7_ok
  | 8, ho, h => cases ho; cases h; exact zt_lc8_ok
  | 9, ho, h => cases ho; cases h; exact zt_lc9_ok
  | 10, ho, h => cases ho; cases h; exact zt_lc10_ok
  | 11, ho, h => cases ho; cases h; exact zt_lc11_ok
  | 12, ho, h => cases ho; cases h; exact zt_lc12_ok
  | 13, ho, h => cases ho; cases h; exact zt_lc13_ok
  | 14, ho, h => cases ho; cases h; exact zt_lc14_ok
  | 15, ho, h => cases ho; cases h; exact zt_lc15_ok
  | 16, ho, h => cases ho; cases h; exact zt_lc16_ok
  | 17, ho, h => cases ho; cases h; exact zt_lc17_ok
  | 18, ho, h => cases ho; cases h; exact zt_lc18_ok
  | 19, ho, h => cases ho; cases h; exact zt_lc19_ok
  | 20, ho, h => cases ho; cases h; exact zt_lc20_ok
  | 21, ho, h => cases ho; cases h; exact zt_lc21_ok
  | 22, ho, h => cases ho; cases h; exact zt_lc22_ok
  | 23, ho, h => cases ho; cases h; exact zt_lc23_ok
  | 24, ho, h => cases ho; cases h; exact zt_lc24_ok
  | 25, ho, h => cases ho; cases h; exact zt_lc25_ok
  | 26, ho, h => cases ho; cases h; exact zt_lc26_ok
  | 27, ho, h => cases ho; cases h; exact zt_lc27_ok
  | k + 28, ho, h => exact absurd ho (by simp [zt_on])
set_option maxRecDepth 100000 in
theorem zt_ic0_ok : ∀ e ∈ zt_ic0, Cond.constant "java/lang/String" e.1 e.2.1 ∈ zt_good := fun _ h => absurd h List.not_mem_nil
set_option maxRecDepth 100000 in
theorem zt_ic1_ok : ∀ e ∈ zt_ic1, Cond.constant "java/lang/StringBuilder" e.1 e.2.1 ∈ zt_good := fun _ h => absurd h List.not_mem_nil
set_option maxRecDepth 100000 in
theorem zt_ic2_ok : ∀ e ∈ zt_ic2, Cond.constant "ColumnVault$Checks" e.1 e.2.1 ∈ zt_good := fun _ h => absurd h List.not_mem_nil
set_option maxRecDepth 100000 in
theorem zt_ic3_ok : ∀ e ∈ zt_ic3, Cond.constant "ColumnVault$FilterReader" e.1 e.2.1 ∈ zt_good := fun _ h => absurd h List.not_mem_nil
set_option maxRecDepth 100000 in
theorem zt_ic4_ok : ∀ e ∈ zt_ic4, Cond.constant "ColumnVault$FilterText" e.1 e.2.1 ∈ zt_good := fun _ h => absurd h List.not_mem_nil
set_option maxRecDepth 100000 in
theorem zt_ic5_ok : ∀ e ∈ zt_ic5, Cond.constant "ColumnVault$Groups" e.1 e.2.1 ∈ zt_good := fun _ h => absurd h List.not_mem_nil
set_option maxRecDepth 100000 in
theorem zt_ic6_ok : ∀ e ∈ zt_ic6, Cond.constant "ColumnVault$History" e.1 e.2.1 ∈ zt_good := fun _ h => absurd h List.not_mem_nil
set_option maxRecDepth 100000 in
theorem zt_ic7_ok : ∀ e ∈ zt_ic7, Cond.constant "ColumnVault$JoinWays" e.1 e.2.1 ∈ zt_good := fun _ h => absurd h List.not_mem_nil
set_option maxRecDepth 100000 in
theorem zt_ic8_ok : ∀ e ∈ zt_ic8, Cond.constant "ColumnVault$Node" e.1 e.2.1 ∈ zt_good := fun _ h => absurd h List.not_mem_nil
set_option maxRecDepth 100000 in
theorem zt_ic9_ok : ∀ e ∈ zt_ic9, Cond.constant "ColumnVault$Pairs" e.1 e.2.1 ∈ zt_good := fun _ h => absurd h List.not_mem_nil
set_option maxRecDepth 100000 in
theorem zt_ic10_ok : ∀ e ∈ zt_ic10, Cond.constant "ColumnVault$Sheet" e.1 e.2.1 ∈ zt_good := fun _ h => absurd h List.not_mem_nil
set_option maxRecDepth 100000 in
theorem zt_ic11_ok : ∀ e ∈ zt_ic11, Cond.constant "ColumnVault$Tokens" e.1 e.2.1 ∈ zt_good := fun _ h => absurd h List.not_mem_nil
set_option maxRecDepth 100000 in
theorem zt_ic12_ok : ∀ e ∈ zt_ic12, Cond.constant "ColumnVault" e.1 e.2.1 ∈ zt_good := fun _ h => absurd h List.not_mem_nil
set_option maxRecDepth 100000 in
theorem zt_ic13_ok : ∀ e ∈ zt_ic13, Cond.constant "java/lang/IndexOutOfBoundsException" e.1 e.2.1 ∈ zt_good := fun _ h => absurd h List.not_mem_nil
set_option maxRecDepth 100000 in
theorem zt_ic14_ok : ∀ e ∈ zt_ic14, Cond.constant "java/lang/IllegalArgumentException" e.1 e.2.1 ∈ zt_good := fun _ h => absurd h List.not_mem_nil
set_option maxRecDepth 100000 in
theorem zt_ic15_ok : ∀ e ∈ zt_ic15, Cond.constant "java/lang/IllegalStateException" e.1 e.2.1 ∈ zt_good := fun _ h => absurd h List.not_mem_nil
set_option maxRecDepth 100000 in
theorem zt_ic16_ok : ∀ e ∈ zt_ic16, Cond.constant "java/util/NoSuchElementException" e.1 e.2.1 ∈ zt_good := fun _ h => absurd h List.not_mem_nil
set_option maxRecDepth 100000 in
theorem zt_ic17_ok : ∀ e ∈ zt_ic17, Cond.constant "ColumnVaultLaw" e.1 e.2.1 ∈ zt_good := List.forall_mem_cons.mpr ⟨(zt_in (j := 2) (k := 106) rfl rfl), List.forall_mem_cons.mpr ⟨(zt_in (j := 2) (k := 107) rfl rfl), List.forall_mem_cons.mpr ⟨(zt_in (j := 2) (k := 108) rfl rfl), List.forall_mem_cons.mpr ⟨(zt_in (j := 2) (k := 112) rfl rfl), List.forall_mem_cons.mpr ⟨(zt_in (j := 6) (k := 23) rfl rfl), List.forall_mem_cons.mpr ⟨(zt_in (j := 6) (k := 24) rfl rfl), List.forall_mem_cons.mpr ⟨(zt_in (j := 8) (k := 51) rfl rfl), fun _ h => absurd h List.not_mem_nil⟩⟩⟩⟩⟩⟩⟩
set_option maxRecDepth 100000 in
theorem zt_ic18_ok : ∀ e ∈ zt_ic18, Cond.constant "java/lang/Long" e.1 e.2.1 ∈ zt_good := fun _ h => absurd h List.not_mem_nil
set_option maxRecDepth 100000 in
theorem zt_ic19_ok : ∀ e ∈ zt_ic19, Cond.constant "java/lang/Math" e.1 e.2.1 ∈ zt_good := fun _ h => absurd h List.not_mem_nil
set_option maxRecDepth 100000 in
theorem zt_ic20_ok : ∀ e ∈ zt_ic20, Cond.constant "java/lang/AbstractStringBuilder" e.1 e.2.1 ∈ zt_good := List.forall_mem_cons.mpr ⟨(zt_in (j := 5) (k := 35) rfl rfl), List.forall_mem_cons.mpr ⟨(zt_in (j := 7) (k := 88) rfl rfl), fun _ h => absurd h List.not_mem_nil⟩⟩
set_option maxRecDepth 100000 in
theorem zt_ic21_ok : ∀ e ∈ zt_ic21, Cond.constant "java/lang/StringUTF16" e.1 e.2.1 ∈ zt_good := List.forall_mem_cons.mpr ⟨(zt_in (j := 4) (k := 238) rfl rfl), fun _ h => absurd h List.not_mem_nil⟩
set_option maxRecDepth 100000 in
theorem zt_ic22_ok : ∀ e ∈ zt_ic22, Cond.constant "jdk/internal/util/ArraysSupport" e.1 e.2.1 ∈ zt_good := List.forall_mem_cons.mpr ⟨(zt_in (j := 5) (k := 31) rfl rfl), fun _ h => absurd h List.not_mem_nil⟩
set_option maxRecDepth 100000 in
theorem zt_ic23_ok : ∀ e ∈ zt_ic23, Cond.constant "java/util/Arrays" e.1 e.2.1 ∈ zt_good := fun _ h => absurd h List.not_mem_nil
set_option maxRecDepth 100000 in
theorem zt_ic24_ok : ∀ e ∈ zt_ic24, Cond.constant "java/lang/StringLatin1" e.1 e.2.1 ∈ zt_good := fun _ h => absurd h List.not_mem_nil
set_option maxRecDepth 100000 in
theorem zt_ic25_ok : ∀ e ∈ zt_ic25, Cond.constant "jdk/internal/util/Preconditions" e.1 e.2.1 ∈ zt_good := fun _ h => absurd h List.not_mem_nil
set_option maxRecDepth 100000 in
theorem zt_ic26_ok : ∀ e ∈ zt_ic26, Cond.constant "java/lang/Integer" e.1 e.2.1 ∈ zt_good := List.forall_mem_cons.mpr ⟨(zt_in (j := 6) (k := 191) rfl rfl), fun _ h => absurd h List.not_mem_nil⟩
set_option maxRecDepth 100000 in
theorem zt_ic27_ok : ∀ e ∈ zt_ic27, Cond.constant "jdk/internal/misc/Unsafe" e.1 e.2.1 ∈ zt_good := List.forall_mem_cons.mpr ⟨(zt_in (j := 6) (k := 212) rfl rfl), fun _ h => absurd h List.not_mem_nil⟩
theorem zt_ic_ok {oc : Nat} {own : String} {l : List (Nat × Int32 × Nat)} (ho : zt_on[oc]? = some own) (h : zt_ic[oc]? = some l) : ∀ e ∈ l, Cond.constant own e.1 e.2.1 ∈ zt_good := by
  match oc, ho, h with
  | 0, ho, h => cases ho; cases h; exact zt_ic0_ok
  | 1, ho, h => cases ho; cases h; exact zt_ic1_ok
  | 2, ho, h => cases ho; cases h; exact zt_ic2_ok
  | 3, ho, h => cases ho; cases h; exact zt_ic3_ok
  | 4, ho, h => cases ho; cases h; exact zt_ic4_ok
  | 5, ho, h => cases ho; cases h; exact zt_ic5_ok
  | 6, ho, h => cases ho; cases h; exact zt_ic6_ok
  | 7, ho, h => cases ho; cases h; exact zt_ic7_ok
  | 8, ho, h => cases ho; cases h; exact zt_ic8_ok
  | 9, ho, h => cases ho; cases h; exact zt_ic9_ok
  | 10, ho, h => cases ho; cases h; exact zt_ic10_ok
  | 11, ho, h => cases ho; cases h; exact zt_ic11_ok
  | 12, ho, h => cases ho; cases h; exact zt_ic12_ok
  | 13, ho, h => cases ho; cases h; exact zt_ic13_ok
  | 14, ho, h => cases ho; cases h; exact zt_ic14_ok
  | 15, ho, h => cases ho; cases h; exact zt_ic15_ok
  | 16, ho, h => cases ho; cases h; exact zt_ic16_ok
  | 17, ho, h => cases ho; cases h; exact zt_ic17_ok
  | 18, ho, h => cases ho; cases h; exact zt_ic18_ok
  | 19, ho, h => cases ho; cases h; exact zt_ic19_ok
  | 20, ho, h => cases ho; cases h; exact zt_ic20_ok
  | 21, ho, h => cases ho; cases h; exact zt_ic21_ok
  | 22, ho, h => cases ho; cases h; exact zt_ic22_ok
  | 23, ho, h => cases ho; cases h; exact zt_ic23_ok
  | 24, ho, h => cases ho; cases h; exact zt_ic24_ok
  | 25, ho, h => cases ho; cases h; exact zt_ic25_ok
  | 26, ho, h => cases ho; cases h; exact zt_ic26_ok
  | 27, ho, h => cases ho; cases h; exact zt_ic27_ok
  | k + 28, ho, h => exact absurd ho (by simp [zt_on])
theorem zt_at_ok : ∀ (t : Nat) (ty : FieldType), zt_at[t]? = some ty → ((((∀ C, ty ≠ .object C) ∧ (∀ t, ty ≠ .array t)) ∧ Cond.arrayClass ty ∈ zt_good) ∨ (∃ C, ty = .object C ∧ Cond.arrayOver ty ∈ lw_tbl) ∨ ∃ t, ty = .array t ∧ Cond.arrayOver ty ∈ lw_tbl) := by
  intro t ty h
  match t, h with
  | 0, h => cases h; exact Or.inr (Or.inl ⟨_, rfl, zt_ch_in (j := 1) (List.mem_of_getElem? (i := 49) rfl)⟩)
  | 1, h => cases h; exact Or.inl ⟨⟨fun C h => FieldType.noConfusion h, fun C h => FieldType.noConfusion h⟩, (zt_in (j := 1) (k := 86) rfl rfl)⟩
  | 2, h => cases h; exact Or.inl ⟨⟨fun C h => FieldType.noConfusion h, fun C h => FieldType.noConfusion h⟩, (zt_in (j := 1) (k := 87) rfl rfl)⟩
  | 3, h => cases h; exact Or.inl ⟨⟨fun C h => FieldType.noConfusion h, fun C h => FieldType.noConfusion h⟩, (zt_in (j := 2) (k := 54) rfl rfl)⟩
  | 4, h => cases h; exact Or.inr (Or.inr ⟨_, rfl, zt_ch_in (j := 6) (List.mem_of_getElem? (i := 55) rfl)⟩)
  | 5, h => cases h; exact Or.inl ⟨⟨fun C h => FieldType.noConfusion h, fun C h => FieldType.noConfusion h⟩, (zt_in (j := 6) (k := 65) rfl rfl)⟩
  | 6, h => cases h; exact Or.inr (Or.inl ⟨_, rfl, zt_ch_in (j := 8) (List.mem_of_getElem? (i := 53) rfl)⟩)
  | k + 7, h => exact absurd h (by simp [zt_at])
theorem zt_aok_lt {t : Nat} (h : zt_aok[t]? = some true) : t < zt_at.length := by
  have h1 := (List.getElem?_eq_some_iff.mp h).1
  have h2 : zt_aok.length = zt_at.length := rfl
  omega
theorem zt_atc_ok : ∀ (t ci : Nat) (C : String), zt_at[t]? = some (.object C) → zt_atc[t]? = some ci → ci ≠ 999 → (zt_cl[ci]?).map (·.1) = some C := by
  intro t ci C h h2 h3
  match t, h, h2 with
  | 0, h, h2 => cases h; cases h2; exact rfl
  | 1, h, h2 => cases h
  | 2, h, h2 => cases h
  | 3, h, h2 => cases h
  | 4, h, h2 => cases h
  | 5, h, h2 => cases h
  | 6, h, h2 => cases h; cases h2; exact rfl
  | k + 7, h, h2 => exact absurd h (by simp [zt_at])

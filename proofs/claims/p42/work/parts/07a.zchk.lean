/-! ===== the tables are right: each entry's word stands among the claim's words (written by wip/zx/gen_tables.py) ===== -/
def zt_good : List Cond := lw_tbl.filter goodWord
theorem zt_in {j k : Nat} {w : Cond} (h : (zt_ch j)[k]? = some w) (hg : goodWord w = true) : w ∈ zt_good := List.mem_filter.mpr ⟨zt_ch_in (List.mem_of_getElem? h), hg⟩
/-- words that a warm machine keeps, though they are no good words -/
def zx_nwk : Cond → Bool
  | .fieldLinkNest .. | .methodLinkNest .. | .declares _ | .castable .. | .privateMethod _ => true
  | _ => false
def zt_nw : List Cond := lw_tbl.filter zx_nwk
theorem zt_inN {j k : Nat} {w : Cond} (h : (zt_ch j)[k]? = some w) (hg : zx_nwk w = true) : w ∈ zt_nw := List.mem_filter.mpr ⟨zt_ch_in (List.mem_of_getElem? h), hg⟩
/-- a class: its fields' words, types and names; that it can be made -/
def zt_cOK (ci : Nat) (r : vw_C) : Prop := (∀ k, k < r.2.2 → u_lay r.1 r.2.1 k ∈ zt_good) ∧ (∀ k, k < r.2.2 → parseFieldDescriptor (r.2.1 k).2.2.1 = some (((zt_fty.getD ci []).getD k .int))) ∧
  (∀ a, a < r.2.2 → ∀ b, b < r.2.2 → a ≠ b → (r.2.1 a).2.1 ≠ (r.2.1 b).2.1) ∧ (ci < zt_x0 → Cond.instantiable r.1 r.2.2 ∈ zt_good) ∧ Cond.initialized r.1 ∈ zt_good ∧ (∀ k, k < r.2.2 → (zt_own.getD ci []).getD k false = true → (r.2.1 k).1 = r.1)
set_option maxRecDepth 100000 in
theorem zt_c0 : zt_cOK 0 ("java/lang/String", zt_T_TJ0, 4) := ⟨fun k hk => match k, hk with
    | 0, _ => (zt_in (j := 5) (k := 234) rfl rfl)
    | 1, _ => (zt_in (j := 5) (k := 236) rfl rfl)
    | 2, _ => (zt_in (j := 5) (k := 238) rfl rfl)
    | 3, _ => (zt_in (j := 6) (k := 0) rfl rfl)
    | k + 4, hk => absurd hk (Nat.not_lt.mpr (Nat.le_add_left 4 k)),
  fun k hk => match k, hk with
    | 0, _ => by decide +kernel
    | 1, _ => by decide +kernel
    | 2, _ => by decide +kernel
    | 3, _ => by decide +kernel
    | k + 4, hk => absurd hk (Nat.not_lt.mpr (Nat.le_add_left 4 k)),
  by decide +kernel,
  fun _ => (zt_in (j := 5) (k := 108) rfl rfl), (zt_in (j := 1) (k := 24) rfl rfl),
  fun k hk => match k, hk with
    | 0, _ => fun _ => rfl
    | 1, _ => fun _ => rfl
    | 2, _ => fun _ => rfl
    | 3, _ => fun _ => rfl
    | k + 4, hk => absurd hk (Nat.not_lt.mpr (Nat.le_add_left 4 k))⟩
set_option maxRecDepth 100000 in
theorem zt_c1 : zt_cOK 1 ("java/lang/StringBuilder", zt_T_TJ4, 4) := ⟨fun k hk => match k, hk with
    | 0, _ => (zt_in (j := 5) (k := 3) rfl rfl)
    | 1, _ => (zt_in (j := 5) (k := 5) rfl rfl)
    | 2, _ => (zt_in (j := 5) (k := 7) rfl rfl)
    | 3, _ => (zt_in (j := 5) (k := 9) rfl rfl)
    | k + 4, hk => absurd hk (Nat.not_lt.mpr (Nat.le_add_left 4 k)),
  fun k hk => match k, hk with
    | 0, _ => by decide +kernel
    | 1, _ => by decide +kernel
    | 2, _ => by decide +kernel
    | 3, _ => by decide +kernel
    | k + 4, hk => absurd hk (Nat.not_lt.mpr (Nat.le_add_left 4 k)),
  by decide +kernel,
  fun _ => (zt_in (j := 4) (k := 222) rfl rfl), (zt_in (j := 1) (k := 23) rfl rfl),
  fun k hk => match k, hk with
    | 0, _ => fun h => absurd h (by decide)
    | 1, _ => fun h => absurd h (by decide)
    | 2, _ => fun h => absurd h (by decide)
    | 3, _ => fun h => absurd h (by decide)
    | k + 4, hk => absurd hk (Nat.not_lt.mpr (Nat.le_add_left 4 k))⟩
set_option maxRecDepth 100000 in
theorem zt_c2 : zt_cOK 2 ("ColumnVault$Checks", zt_T_TX0, 3) := ⟨fun k hk => match k, hk with
    | 0, _ => (zt_in (j := 1) (k := 188) rfl rfl)
    | 1, _ => (zt_in (j := 1) (k := 190) rfl rfl)
    | 2, _ => (zt_in (j := 1) (k := 192) rfl rfl)
    | k + 3, hk => absurd hk (Nat.not_lt.mpr (Nat.le_add_left 3 k)),
  fun k hk => match k, hk with
    | 0, _ => by decide +kernel
    | 1, _ => by decide +kernel
    | 2, _ => by decide +kernel
    | k + 3, hk => absurd hk (Nat.not_lt.mpr (Nat.le_add_left 3 k)),
  by decide +kernel,
  fun _ => (zt_in (j := 1) (k := 176) rfl rfl), (zt_in (j := 1) (k := 8) rfl rfl),
  fun k hk => match k, hk with
    | 0, _ => fun _ => rfl
    | 1, _ => fun _ => rfl
    | 2, _ => fun _ => rfl
    | k + 3, hk => absurd hk (Nat.not_lt.mpr (Nat.le_add_left 3 k))⟩
set_option maxRecDepth 100000 in
theorem zt_c3 : zt_cOK 3 ("ColumnVault$FilterReader", zt_T_TX1, 7) := ⟨fun k hk => match k, hk with
    | 0, _ => (zt_in (j := 3) (k := 52) rfl rfl)
    | 1, _ => (zt_in (j := 3) (k := 54) rfl rfl)
    | 2, _ => (zt_in (j := 3) (k := 56) rfl rfl)
    | 3, _ => (zt_in (j := 3) (k := 58) rfl rfl)
    | 4, _ => (zt_in (j := 3) (k := 60) rfl rfl)
    | 5, _ => (zt_in (j := 3) (k := 62) rfl rfl)
    | 6, _ => (zt_in (j := 3) (k := 64) rfl rfl)
    | k + 7, hk => absurd hk (Nat.not_lt.mpr (Nat.le_add_left 7 k)),
  fun k hk => match k, hk with
    | 0, _ => by decide +kernel
    | 1, _ => by decide +kernel
    | 2, _ => by decide +kernel
    | 3, _ => by decide +kernel
    | 4, _ => by decide +kernel
    | 5, _ => by decide +kernel
    | 6, _ => by decide +kernel
    | k + 7, hk => absurd hk (Nat.not_lt.mpr (Nat.le_add_left 7 k)),
  by decide +kernel,
  fun _ => (zt_in (j := 3) (k := 38) rfl rfl), (zt_in (j := 1) (k := 16) rfl rfl),
  fun k hk => match k, hk with
    | 0, _ => fun _ => rfl
    | 1, _ => fun _ => rfl
    | 2, _ => fun _ => rfl
    | 3, _ => fun _ => rfl
    | 4, _ => fun _ => rfl
    | 5, _ => fun _ => rfl
    | 6, _ => fun _ => rfl
    | k + 7, hk => absurd hk (Nat.not_lt.mpr (Nat.le_add_left 7 k))⟩
set_option maxRecDepth 100000 in
theorem zt_c4 : zt_cOK 4 ("ColumnVault$FilterText", zt_T_TX2, 2) := ⟨fun k hk => match k, hk with
    | 0, _ => (zt_in (j := 1) (k := 106) rfl rfl)
    | 1, _ => (zt_in (j := 1) (k := 108) rfl rfl)
    | k + 2, hk => absurd hk (Nat.not_lt.mpr (Nat.le_add_left 2 k)),
  fun k hk => match k, hk with
    | 0, _ => by decide +kernel
    | 1, _ => by decide +kernel
    | k + 2, hk => absurd hk (Nat.not_lt.mpr (Nat.le_add_left 2 k)),
  by decide +kernel,
  fun _ => (zt_in (j := 1) (k := 97) rfl rfl), (zt_in (j := 1) (k := 4) rfl rfl),
  fun k hk => match k, hk with
    | 0, _ => fun _ => rfl
    | 1, _ => fun _ => rfl
    | k + 2, hk => absurd hk (Nat.not_lt.mpr (Nat.le_add_left 2 k))⟩
set_option maxRecDepth 100000 in
theorem zt_c5 : zt_cOK 5 ("ColumnVault$Groups", zt_T_TX3, 5) := ⟨fun k hk => match k, hk with
    | 0, _ => (zt_in (j := 1) (k := 164) rfl rfl)
    | 1, _ => (zt_in (j := 1) (k := 166) rfl rfl)
    | 2, _ => (zt_in (j := 1) (k := 168) rfl rfl)
    | 3, _ => (zt_in (j := 1) (k := 170) rfl rfl)
    | 4, _ => (zt_in (j := 1) (k := 172) rfl rfl)
    | k + 5, hk => absurd hk (Nat.not_lt.mpr (Nat.le_add_left 5 k)),
  fun k hk => match k, hk with
    | 0, _ => by decide +kernel
    | 1, _ => by decide +kernel
    | 2, _ => by decide +kernel
    | 3, _ => by decide +kernel
    | 4, _ => by decide +kernel
    | k + 5, hk => absurd hk (Nat.not_lt.mpr (Nat.le_add_left 5 k)),
  by decide +kernel,
  fun _ => (zt_in (j := 1) (k := 148) rfl rfl), (zt_in (j := 1) (k := 7) rfl rfl),
  fun k hk => match k, hk with
    | 0, _ => fun _ => rfl
    | 1, _ => fun _ => rfl
    | 2, _ => fun _ => rfl
    | 3, _ => fun _ => rfl
    | 4, _ => fun _ => rfl
    | k + 5, hk => absurd hk (Nat.not_lt.mpr (Nat.le_add_left 5 k))⟩
set_option maxRecDepth 100000 in
theorem zt_c6 : zt_cOK 6 ("ColumnVault$History", zt_T_TX4, 2) := ⟨fun k hk => match k, hk with
    | 0, _ => (zt_in (j := 1) (k := 91) rfl rfl)
    | 1, _ => (zt_in (j := 1) (k := 93) rfl rfl)
    | k + 2, hk => absurd hk (Nat.not_lt.mpr (Nat.le_add_left 2 k)),
  fun k hk => match k, hk with
    | 0, _ => by decide +kernel
    | 1, _ => by decide +kernel
    | k + 2, hk => absurd hk (Nat.not_lt.mpr (Nat.le_add_left 2 k)),
  by decide +kernel,
  fun _ => (zt_in (j := 1) (k := 43) rfl rfl), (zt_in (j := 1) (k := 2) rfl rfl),
  fun k hk => match k, hk with
    | 0, _ => fun _ => rfl
    | 1, _ => fun _ => rfl
    | k + 2, hk => absurd hk (Nat.not_lt.mpr (Nat.le_add_left 2 k))⟩
set_option maxRecDepth 100000 in
theorem zt_c7 : zt_cOK 7 ("ColumnVault$JoinWays", zt_T_TX5, 4) := ⟨fun k hk => match k, hk with
    | 0, _ => (zt_in (j := 8) (k := 95) rfl rfl)
    | 1, _ => (zt_in (j := 8) (k := 97) rfl rfl)
    | 2, _ => (zt_in (j := 8) (k := 99) rfl rfl)
    | 3, _ => (zt_in (j := 8) (k := 101) rfl rfl)
    | k + 4, hk => absurd hk (Nat.not_lt.mpr (Nat.le_add_left 4 k)),
  fun k hk => match k, hk with
    | 0, _ => by decide +kernel
    | 1, _ => by decide +kernel
    | 2, _ => by decide +kernel
    | 3, _ => by decide +kernel
    | k + 4, hk => absurd hk (Nat.not_lt.mpr (Nat.le_add_left 4 k)),
  by decide +kernel,
  fun _ => (zt_in (j := 8) (k := 86) rfl rfl), (zt_in (j := 1) (k := 33) rfl rfl),
  fun k hk => match k, hk with
    | 0, _ => fun _ => rfl
    | 1, _ => fun _ => rfl
    | 2, _ => fun _ => rfl
    | 3, _ => fun _ => rfl
    | k + 4, hk => absurd hk (Nat.not_lt.mpr (Nat.le_add_left 4 k))⟩
set_option maxRecDepth 100000 in
theorem zt_c8 : zt_cOK 8 ("ColumnVault$Node", zt_T_TX6, 7) := ⟨fun k hk => match k, hk with
    | 0, _ => (zt_in (j := 3) (k := 134) rfl rfl)
    | 1, _ => (zt_in (j := 3) (k := 136) rfl rfl)
    | 2, _ => (zt_in (j := 3) (k := 138) rfl rfl)
    | 3, _ => (zt_in (j := 3) (k := 140) rfl rfl)
    | 4, _ => (zt_in (j := 3) (k := 142) rfl rfl)
    | 5, _ => (zt_in (j := 3) (k := 144) rfl rfl)
    | 6, _ => (zt_in (j := 3) (k := 146) rfl rfl)
    | k + 7, hk => absurd hk (Nat.not_lt.mpr (Nat.le_add_left 7 k)),
  fun k hk => match k, hk with
    | 0, _ => by decide +kernel
    | 1, _ => by decide +kernel
    | 2, _ => by decide +kernel
    | 3, _ => by decide +kernel
    | 4, _ => by decide +kernel
    | 5, _ => by decide +kernel
    | 6, _ => by decide +kernel
    | k + 7, hk => absurd hk (Nat.not_lt.mpr (Nat.le_add_left 7 k)),
  by decide +kernel,
  fun _ => (zt_in (j := 3) (k := 116) rfl rfl), (zt_in (j := 1) (k := 18) rfl rfl),
  fun k hk => match k, hk with
    | 0, _ => fun _ => rfl
    | 1, _ => fun _ => rfl
    | 2, _ => fun _ => rfl
    | 3, _ => fun _ => rfl
    | 4, _ => fun _ => rfl
    | 5, _ => fun _ => rfl
    | 6, _ => fun _ => rfl
    | k + 7, hk => absurd hk (Nat.not_lt.mpr (Nat.le_add_left 7 k))⟩
set_option maxRecDepth 100000 in
theorem zt_c9 : zt_cOK 9 ("ColumnVault$Pairs", zt_T_TX7, 3) := ⟨fun k hk => match k, hk with
    | 0, _ => (zt_in (j := 1) (k := 140) rfl rfl)
    | 1, _ => (zt_in (j := 1) (k := 142) rfl rfl)
    | 2, _ => (zt_in (j := 1) (k := 144) rfl rfl)
    | k + 3, hk => absurd hk (Nat.not_lt.mpr (Nat.le_add_left 3 k)),
  fun k hk => match k, hk with
    | 0, _ => by decide +kernel
    | 1, _ => by decide +kernel
    | 2, _ => by decide +kernel
    | k + 3, hk => absurd hk (Nat.not_lt.mpr (Nat.le_add_left 3 k)),
  by decide +kernel,
  fun _ => (zt_in (j := 1) (k := 131) rfl rfl), (zt_in (j := 1) (k := 6) rfl rfl),
  fun k hk => match k, hk with
    | 0, _ => fun _ => rfl
    | 1, _ => fun _ => rfl
    | 2, _ => fun _ => rfl
    | k + 3, hk => absurd hk (Nat.not_lt.mpr (Nat.le_add_left 3 k))⟩
set_option maxRecDepth 100000 in
theorem zt_c10 : zt_cOK 10 ("ColumnVault$Sheet", zt_T_TX8, 6) := ⟨fun k hk => match k, hk with
    | 0, _ => (zt_in (j := 1) (k := 73) rfl rfl)
    | 1, _ => (zt_in (j := 1) (k := 75) rfl rfl)
    | 2, _ => (zt_in (j := 1) (k := 77) rfl rfl)
    | 3, _ => (zt_in (j := 1) (k := 79) rfl rfl)
    | 4, _ => (zt_in (j := 1) (k := 81) rfl rfl)
    | 5, _ => (zt_in (j := 1) (k := 83) rfl rfl)
    | k + 6, hk => absurd hk (Nat.not_lt.mpr (Nat.le_add_left 6 k)),
  fun k hk => match k, hk with
    | 0, _ => by decide +kernel
    | 1, _ => by decide +kernel
    | 2, _ => by decide +kernel
    | 3, _ => by decide +kernel
    | 4, _ => by decide +kernel
    | 5, _ => by decide +kernel
    | k + 6, hk => absurd hk (Nat.not_lt.mpr (Nat.le_add_left 6 k)),
  by decide +kernel,
  fun _ => (zt_in (j := 1) (k := 50) rfl rfl), (zt_in (j := 1) (k := 3) rfl rfl),
  fun k hk => match k, hk with
    | 0, _ => fun _ => rfl
    | 1, _ => fun _ => rfl
    | 2, _ => fun _ => rfl
    | 3, _ => fun _ => rfl
    | 4, _ => fun _ => rfl
    | 5, _ => fun _ => rfl
    | k + 6, hk => absurd hk (Nat.not_lt.mpr (Nat.le_add_left 6 k))⟩
set_option maxRecDepth 100000 in
theorem zt_c11 : zt_cOK 11 ("ColumnVault$Tokens", zt_T_TX9, 4) := ⟨fun k hk => match k, hk with
    | 0, _ => (zt_in (j := 1) (k := 121) rfl rfl)
    | 1, _ => (zt_in (j := 1) (k := 123) rfl rfl)
    | 2, _ => (zt_in (j := 1) (k := 125) rfl rfl)
    | 3, _ => (zt_in (j := 1) (k := 127) rfl rfl)
    | k + 4, hk => absurd hk (Nat.not_lt.mpr (Nat.le_add_left 4 k)),
  fun k hk => match k, hk with
    | 0, _ => by decide +kernel
    | 1, _ => by decide +kernel
    | 2, _ => by decide +kernel
    | 3, _ => by decide +kernel
    | k + 4, hk => absurd hk (Nat.not_lt.mpr (Nat.le_add_left 4 k)),
  by decide +kernel,
  fun _ => (zt_in (j := 1) (k := 112) rfl rfl), (zt_in (j := 1) (k := 5) rfl rfl),
  fun k hk => match k, hk with
    | 0, _ => fun _ => rfl
    | 1, _ => fun _ => rfl
    | 2, _ => fun _ => rfl
    | 3, _ => fun _ => rfl
    | k + 4, hk => absurd hk (Nat.not_lt.mpr (Nat.le_add_left 4 k))⟩
set_option maxRecDepth 100000 in
theorem zt_c12 : zt_cOK 12 ("ColumnVault", zt_T_TX10, 6) := ⟨fun k hk => match k, hk with
    | 0, _ => (zt_in (j := 1) (k := 201) rfl rfl)
    | 1, _ => (zt_in (j := 1) (k := 203) rfl rfl)
    | 2, _ => (zt_in (j := 1) (k := 205) rfl rfl)
    | 3, _ => (zt_in (j := 1) (k := 207) rfl rfl)
    | 4, _ => (zt_in (j := 1) (k := 209) rfl rfl)
    | 5, _ => (zt_in (j := 1) (k := 211) rfl rfl)
    | k + 6, hk => absurd hk (Nat.not_lt.mpr (Nat.le_add_left 6 k)),
  fun k hk => match k, hk with
    | 0, _ => by decide +kernel
    | 1, _ => by decide +kernel
    | 2, _ => by decide +kernel
    | 3, _ => by decide +kernel
    | 4, _ => by decide +kernel
    | 5, _ => by decide +kernel
    | k + 6, hk => absurd hk (Nat.not_lt.mpr (Nat.le_add_left 6 k)),
  by decide +kernel,
  fun _ => (zt_in (j := 1) (k := 35) rfl rfl), (zt_in (j := 1) (k := 1) rfl rfl),
  fun k hk => match k, hk with
    | 0, _ => fun _ => rfl
    | 1, _ => fun _ => rfl
    | 2, _ => fun _ => rfl
    | 3, _ => fun _ => rfl
    | 4, _ => fun _ => rfl
    | 5, _ => fun _ => rfl
    | k + 6, hk => absurd hk (Nat.not_lt.mpr (Nat.le_add_left 6 k))⟩
set_option maxRecDepth 100000 in
theorem zt_c13 : zt_cOK 13 ("java/lang/IndexOutOfBoundsException", fun _ => ("", "", "", false), 0) := ⟨fun k hk => absurd hk (Nat.not_lt_zero k), fun k hk => absurd hk (Nat.not_lt_zero k), fun k hk => absurd hk (Nat.not_lt_zero k), fun h => absurd h (by decide), (zt_in (j := 1) (k := 12) rfl rfl), fun k hk => absurd hk (Nat.not_lt_zero k)⟩
set_option maxRecDepth 100000 in
theorem zt_c14 : zt_cOK 14 ("java/lang/IllegalArgumentException", fun _ => ("", "", "", false), 0) := ⟨fun k hk => absurd hk (Nat.not_lt_zero k), fun k hk => absurd hk (Nat.not_lt_zero k), fun k hk => absurd hk (Nat.not_lt_zero k), fun h => absurd h (by decide), (zt_in (j := 1) (k := 13) rfl rfl), fun k hk => absurd hk (Nat.not_lt_zero k)⟩
set_option maxRecDepth 100000 in
theorem zt_c15 : zt_cOK 15 ("java/lang/IllegalStateException", fun _ => ("", "", "", false), 0) := ⟨fun k hk => absurd hk (Nat.not_lt_zero k), fun k hk => absurd hk (Nat.not_lt_zero k), fun k hk => absurd hk (Nat.not_lt_zero k), fun h => absurd h (by decide), (zt_in (j := 1) (k := 14) rfl rfl), fun k hk => absurd hk (Nat.not_lt_zero k)⟩
set_option maxRecDepth 100000 in
theorem zt_c16 : zt_cOK 16 ("java/util/NoSuchElementException", fun _ => ("", "", "", false), 0) := ⟨fun k hk => absurd hk (Nat.not_lt_zero k), fun k hk => absurd hk (Nat.not_lt_zero k), fun k hk => absurd hk (Nat.not_lt_zero k), fun h => absurd h (by decide), (zt_in (j := 1) (k := 21) rfl rfl), fun k hk => absurd hk (Nat.not_lt_zero k)⟩
theorem zt_cl_ok {ci : Nat} {r : vw_C} (h : zt_cl[ci]? = some r) : zt_cOK ci r := by
  match ci, h with
  | 0, h => cases h; exact zt_c0
  | 1, h => cases h; exact zt_c1
  | 2, h => cases h; exact zt_c2
  | 3, h => cases h; exact zt_c3
  | 4, h => cases h; exact zt_c4
  | 5, h => cases h; exact zt_c5
  | 6, h => cases h; exact zt_c6
  | 7, h => cases h; exact zt_c7
  | 8, h => cases h; exact zt_c8
  | 9, h => cases h; exact zt_c9
  | 10, h => cases h; exact zt_c10
  | 11, h => cases h; exact zt_c11
  | 12, h => cases h; exact zt_c12
  | 13, h => cases h; exact zt_c13
  | 14, h => cases h; exact zt_c14
  | 15, h => cases h; exact zt_c15
  | 16, h => cases h; exact zt_c16
  | k + 17, h => exact absurd h (by simp [zt_cl])
set_option maxRecDepth 100000 in
theorem zt_obj : Cond.instanceMethod objectInit ∈ zt_good ∧ Cond.code objectInit ⟨#[0xb1]⟩ 1 none ∈ zt_good := ⟨(zt_in (j := 1) (k := 40) rfl rfl), (zt_in (j := 1) (k := 41) rfl rfl)⟩
set_option maxRecDepth 100000 in
theorem zt_on_ok : ∀ c ∈ zt_on, (c ≠ "java/lang/invoke/MethodHandle" ∧ c ≠ "java/lang/invoke/VarHandle") ∧ True := by decide +kernel
theorem zt_xsz {ci : Nat} {r : vw_C} (h : zt_cl[ci]? = some r) (hc : zt_x0 ≤ ci) : r.2.2 = 0 ∧ zt_sz.getD ci 0 = 6 := by
  match ci, h with
  | 0, h => exact absurd hc (by decide)
  | 1, h => exact absurd hc (by decide)
  | 2, h => exact absurd hc (by decide)
  | 3, h => exact absurd hc (by decide)
  | 4, h => exact absurd hc (by decide)
  | 5, h => exact absurd hc (by decide)
  | 6, h => exact absurd hc (by decide)
  | 7, h => exact absurd hc (by decide)
  | 8, h => exact absurd hc (by decide)
  | 9, h => exact absurd hc (by decide)
  | 10, h => exact absurd hc (by decide)
  | 11, h => exact absurd hc (by decide)
  | 12, h => exact absurd hc (by decide)
  | 13, h => cases h; exact ⟨rfl, rfl⟩
  | 14, h => cases h; exact ⟨rfl, rfl⟩
  | 15, h => cases h; exact ⟨rfl, rfl⟩
  | 16, h => cases h; exact ⟨rfl, rfl⟩
  | k + 17, h => exact absurd h (by simp [zt_cl])
theorem zt_cast : ∀ (ci : Nat) (r : vw_C), zt_x0 ≤ ci → zt_cl[ci]? = some r → Cond.castable r.1 r.1 ∈ zt_nw := by
  intro ci r hc h
  match ci, h with
  | 0, h => exact absurd hc (by decide)
  | 1, h => exact absurd hc (by decide)
  | 2, h => exact absurd hc (by decide)
  | 3, h => exact absurd hc (by decide)
  | 4, h => exact absurd hc (by decide)
  | 5, h => exact absurd hc (by decide)
  | 6, h => exact absurd hc (by decide)
  | 7, h => exact absurd hc (by decide)
  | 8, h => exact absurd hc (by decide)
  | 9, h => exact absurd hc (by decide)
  | 10, h => exact absurd hc (by decide)
  | 11, h => exact absurd hc (by decide)
  | 12, h => exact absurd hc (by decide)
  | 13, h => cases h; exact (zt_inN (j := 1) (k := 228) rfl rfl)
  | 14, h => cases h; exact (zt_inN (j := 2) (k := 81) rfl rfl)
  | 15, h => cases h; exact (zt_inN (j := 2) (k := 127) rfl rfl)
  | 16, h => cases h; exact (zt_inN (j := 4) (k := 103) rfl rfl)
  | k + 17, h => exact absurd h (by simp [zt_cl])
theorem zt_cobj : ∀ (ci : Nat) (r : vw_C), ci < zt_x0 → zt_cl[ci]? = some r → Cond.castable r.1 "java/lang/Object" ∈ zt_nw := by
  intro ci r hc h
  match ci, h with
  | 0, h => cases h; exact (zt_inN (j := 8) (k := 210) rfl rfl)
  | 1, h => cases h; exact (zt_inN (j := 8) (k := 209) rfl rfl)
  | 2, h => cases h; exact (zt_inN (j := 8) (k := 202) rfl rfl)
  | 3, h => cases h; exact (zt_inN (j := 8) (k := 206) rfl rfl)
  | 4, h => cases h; exact (zt_inN (j := 8) (k := 198) rfl rfl)
  | 5, h => cases h; exact (zt_inN (j := 8) (k := 201) rfl rfl)
  | 6, h => cases h; exact (zt_inN (j := 8) (k := 196) rfl rfl)
  | 7, h => cases h; exact (zt_inN (j := 8) (k := 212) rfl rfl)
  | 8, h => cases h; exact (zt_inN (j := 8) (k := 207) rfl rfl)
  | 9, h => cases h; exact (zt_inN (j := 8) (k := 200) rfl rfl)
  | 10, h => cases h; exact (zt_inN (j := 8) (k := 197) rfl rfl)
  | 11, h => cases h; exact (zt_inN (j := 8) (k := 199) rfl rfl)
  | 12, h => cases h; exact (zt_inN (j := 8) (k := 195) rfl rfl)
  | 13, h => exact absurd hc (by decide)
  | 14, h => exact absurd hc (by decide)
  | 15, h => exact absurd hc (by decide)
  | 16, h => exact absurd hc (by decide)
  | k + 17, h => exact absurd h (by simp [zt_cl])
theorem zt_aobj : ∀ (t : Nat) (ty : FieldType), zt_aok[t]? = some true → zt_at[t]? = some ty → ∃ nm, nm = "[" ++ ty.toString ∧ Cond.castable nm "java/lang/Object" ∈ zt_nw := by
  intro t ty hk h
  match t, hk, h with
  | 0, hk, h => cases hk
  | 1, hk, h => cases hk
  | 2, hk, h => cases hk
  | 3, hk, h => cases hk
  | 4, hk, h => cases hk
  | 5, hk, h => cases hk
  | 6, hk, h => cases hk
  | k + 7, hk, h => exact absurd h (by simp [zt_at])
theorem zt_xobj : ∀ (C : String), C ∈ (["java/lang/String"] : List String) → Cond.castable C "java/lang/Object" ∈ zt_nw := by
  intro C h
  simp only [List.mem_cons, List.not_mem_nil, or_false] at h
  subst h; exact (zt_inN (j := 8) (k := 210) rfl rfl)
theorem zt_ext_obj : ∀ (j : Nat) (C : String) (o : Nat × List Value), zt_ext j = some (.object C, .inr o) → C ∈ (["java/lang/String"] : List String) := by
  intro j C o h
  unfold zt_ext at h
  split at h
  · cases h
  · split at h
    · simp only [Option.map_eq_some_iff] at h
      obtain ⟨t, -, h1⟩ := h
      unfold zt_tc at h1
      split at h1
      · cases h1; simp
      · cases h1
    · repeat' (split at h)
      all_goals cases h
theorem zt_bool1 (h : (zt_ext 1).isSome = true) : zt_ext 1 = some (.object "java/lang/Boolean", .inr (999, [])) := by
  exact absurd h (by decide)
theorem zt_bool2 (h : (zt_ext 2).isSome = true) : zt_ext 2 = some (.object "java/lang/Boolean", .inr (999, [])) := by
  exact absurd h (by decide)
theorem zt_objT_ok (h : zt_objT ≠ 999) : zt_at[zt_objT]? = some (.object "java/lang/Object") := by
  exact absurd rfl h
theorem zt_pln_ok {oc : Nat} {own : String} (ho : zt_on[oc]? = some own) (h : zt_pln[oc]? = some true) : plainName own = true := by
  match oc, ho, h with
  | 0, ho, h => cases ho; decide +kernel
  | 1, ho, h => cases ho; decide +kernel
  | 2, ho, h => cases ho; decide +kernel
  | 3, ho, h => cases ho; decide +kernel
  | 4, ho, h => cases ho; decide +kernel
  | 5, ho, h => cases ho; decide +kernel
  | 6, ho, h => cases ho; decide +kernel
  | 7, ho, h => cases ho; decide +kernel
  | 8, ho, h => cases ho; decide +kernel
  | 9, ho, h => cases ho; decide +kernel
  | 10, ho, h => cases ho; decide +kernel
  | 11, ho, h => cases ho; decide +kernel
  | 12, ho, h => cases ho; decide +kernel
  | 13, ho, h => cases ho; decide +kernel
  | 14, ho, h => cases ho; decide +kernel
  | 15, ho, h => cases ho; decide +kernel
  | 16, ho, h => cases ho; decide +kernel
  | 17, ho, h => cases ho; decide +kernel
  | 18, ho, h => cases ho; decide +kernel
  | 19, ho, h => cases h
  | 20, ho, h => cases ho; decide +kernel
  | 21, ho, h => cases ho; decide +kernel
  | 22, ho, h => cases ho; decide +kernel
  | 23, ho, h => cases ho; decide +kernel
  | 24, ho, h => cases ho; decide +kernel
  | 25, ho, h => cases ho; decide +kernel
  | 26, ho, h => cases ho; decide +kernel
  | 27, ho, h => cases h
  | k + 28, ho, h => exact absurd ho (by simp [zt_on])
/-- a method: its code's word, its class's, static or not -/
def zt_mOK (q : zx_M) : Prop := match q with
  | (y, cc, nL, ret, hh, oc, np, _, hs, hsel, _) => (if hh = [] then Cond.code y cc nL ret else Cond.codeWith y cc nL ret hh) ∈ zt_good ∧ zt_on[oc]? = some y.cls ∧ Cond.initialized y.cls ∈ zt_good ∧
    (if hs = 1 then Cond.static y else Cond.instanceMethod y) ∈ zt_good ∧ (hsel = 99999 ∨ Cond.selects y.cls y y ∈ zt_good) ∧ (parseMethodDescriptor y.desc).map (fun d => (d.parameters.length, d.returnType)) = some (np, ret) ∧ nL ≤ 31 ∧ (hs = 2 → y.name = "<init>")
set_option maxRecDepth 100000 in
theorem zt_m_1 : zt_mOK (⟨"ColumnVault", "<init>", "()V"⟩, prog_1_method_1_code, 1, none, [], 12, 0, 0, 2, 99999, 0) := ⟨(zt_in (j := 1) (k := 38) rfl rfl), rfl, (zt_in (j := 1) (k := 1) rfl rfl), (zt_in (j := 1) (k := 37) rfl rfl), Or.inl rfl, by decide +kernel, by decide, fun _ => rfl⟩
set_option maxRecDepth 100000 in
theorem zt_m_2 : zt_mOK (⟨"ColumnVault$History", "<init>", "()V"⟩, prog_6_method_1_code, 2, none, [], 6, 0, 0, 2, 99999, 0) := ⟨(zt_in (j := 1) (k := 46) rfl rfl), rfl, (zt_in (j := 1) (k := 2) rfl rfl), (zt_in (j := 1) (k := 45) rfl rfl), Or.inl rfl, by decide +kernel, by decide, fun _ => rfl⟩
set_option maxRecDepth 100000 in
theorem zt_m_3 : zt_mOK (⟨"ColumnVault$Sheet", "<init>", "()V"⟩, prog_10_method_1_code, 1, none, [], 10, 0, 0, 2, 99999, 0) := ⟨(zt_in (j := 1) (k := 53) rfl rfl), rfl, (zt_in (j := 1) (k := 3) rfl rfl), (zt_in (j := 1) (k := 52) rfl rfl), Or.inl rfl, by decide +kernel, by decide, fun _ => rfl⟩
set_option maxRecDepth 100000 in
theorem zt_m_4 : zt_mOK (⟨"ColumnVault$FilterText", "<init>", "()V"⟩, prog_4_method_1_code, 1, none, [], 4, 0, 0, 2, 99999, 0) := ⟨(zt_in (j := 1) (k := 100) rfl rfl), rfl, (zt_in (j := 1) (k := 4) rfl rfl), (zt_in (j := 1) (k := 99) rfl rfl), Or.inl rfl, by decide +kernel, by decide, fun _ => rfl⟩
set_option maxRecDepth 100000 in
theorem zt_m_5 : zt_mOK (⟨"ColumnVault$Tokens", "<init>", "()V"⟩, prog_11_method_1_code, 1, none, [], 11, 0, 0, 2, 99999, 0) := ⟨(zt_in (j := 1) (k := 115) rfl rfl), rfl, (zt_in (j := 1) (k := 5) rfl rfl), (zt_in (j := 1) (k := 114) rfl rfl), Or.inl rfl, by decide +kernel, by decide, fun _ => rfl⟩
set_option maxRecDepth 100000 in
theorem zt_m_6 : zt_mOK (⟨"ColumnVault$Pairs", "<init>", "()V"⟩, prog_9_method_1_code, 1, none, [], 9, 0, 0, 2, 99999, 0) := ⟨(zt_in (j := 1) (k := 134) rfl rfl), rfl, (zt_in (j := 1) (k := 6) rfl rfl), (zt_in (j := 1) (k := 133) rfl rfl), Or.inl rfl, by decide +kernel, by decide, fun _ => rfl⟩
set_option maxRecDepth 100000 in
theorem zt_m_7 : zt_mOK (⟨"ColumnVault$Groups", "<init>", "()V"⟩, prog_5_method_1_code, 1, none, [], 5, 0, 0, 2, 99999, 0) := ⟨(zt_in (j := 1) (k := 151) rfl rfl), rfl, (zt_in (j := 1) (k := 7) rfl rfl), (zt_in (j := 1) (k := 150) rfl rfl), Or.inl rfl, by decide +kernel, by decide, fun _ => rfl⟩
set_option maxRecDepth 100000 in
theorem zt_m_8 : zt_mOK (⟨"ColumnVault$Checks", "<init>", "()V"⟩, prog_2_method_1_code, 1, none, [], 2, 0, 0, 2, 99999, 0) := ⟨(zt_in (j := 1) (k := 179) rfl rfl), rfl, (zt_in (j := 1) (k := 8) rfl rfl), (zt_in (j := 1) (k := 178) rfl rfl), Or.inl rfl, by decide +kernel, by decide, fun _ => rfl⟩
set_option maxRecDepth 100000 in
theorem zt_m_9 : zt_mOK (⟨"ColumnVault", "size", "(II)I"⟩, prog_1_method_8_code, 4, some (.int), [], 12, 2, 0, 0, 0, 0) := ⟨(zt_in (j := 1) (k := 217) rfl rfl), rfl, (zt_in (j := 1) (k := 1) rfl rfl), (zt_in (j := 1) (k := 215) rfl rfl), Or.inr (zt_in (j := 1) (k := 216) rfl rfl), by decide +kernel, by decide, fun h => absurd h (by decide)⟩
set_option maxRecDepth 100000 in
theorem zt_m_10 : zt_mOK (⟨"ColumnVault", "sheetOf", "(I)LColumnVault$Sheet;"⟩, prog_1_method_41_code, 3, some (.object "ColumnVault$Sheet"), [], 12, 1, 0, 0, 0, 0) := ⟨(zt_in (j := 1) (k := 221) rfl rfl), rfl, (zt_in (j := 1) (k := 1) rfl rfl), (zt_in (j := 1) (k := 220) rfl rfl), Or.inr (zt_in (j := 0) (k := 0) rfl rfl), by decide +kernel, by decide, fun h => absurd h (by decide)⟩
set_option maxRecDepth 100000 in
theorem zt_m_11 : zt_mOK (⟨"ColumnVault$History", "sheetIn", "(II)LColumnVault$Sheet;"⟩, prog_6_method_3_code, 3, some (.object "ColumnVault$Sheet"), [], 6, 2, 0, 0, 0, 0) := ⟨(zt_in (j := 1) (k := 225) rfl rfl), rfl, (zt_in (j := 1) (k := 2) rfl rfl), (zt_in (j := 1) (k := 223) rfl rfl), Or.inr (zt_in (j := 1) (k := 224) rfl rfl), by decide +kernel, by decide, fun h => absurd h (by decide)⟩
set_option maxRecDepth 100000 in
theorem zt_m_12 : zt_mOK (⟨"java/lang/Long", "bitCount", "(J)I"⟩, prog_27_method_50_code, 2, some (.int), [], 18, 1, 0, 1, 99999, 0) := ⟨(zt_in (j := 2) (k := 57) rfl rfl), rfl, (zt_in (j := 1) (k := 20) rfl rfl), (zt_in (j := 2) (k := 56) rfl rfl), Or.inl rfl, by decide +kernel, by decide, fun h => absurd h (by decide)⟩
set_option maxRecDepth 100000 in
theorem zt_m_13 : zt_mOK (⟨"ColumnVault$Sheet", "missingValues", "()I"⟩, prog_10_method_10_code, 3, some (.int), [], 10, 0, 0, 0, 0, 0) := ⟨(zt_in (j := 2) (k := 64) rfl rfl), rfl, (zt_in (j := 1) (k := 3) rfl rfl), (zt_in (j := 2) (k := 62) rfl rfl), Or.inr (zt_in (j := 2) (k := 63) rfl rfl), by decide +kernel, by decide, fun h => absurd h (by decide)⟩
set_option maxRecDepth 100000 in
theorem zt_m_14 : zt_mOK (⟨"ColumnVault$Sheet", "rowsWith", "(IJ)J"⟩, prog_10_method_24_code, 4, some (.long), [], 10, 2, 0, 0, 0, 0) := ⟨(zt_in (j := 2) (k := 69) rfl rfl), rfl, (zt_in (j := 1) (k := 3) rfl rfl), (zt_in (j := 2) (k := 67) rfl rfl), Or.inr (zt_in (j := 2) (k := 68) rfl rfl), by decide +kernel, by decide, fun h => absurd h (by decide)⟩
set_option maxRecDepth 100000 in
theorem zt_m_15 : zt_mOK (⟨"ColumnVault$Sheet", "rowsFromTo", "(IJJ)J"⟩, prog_10_method_25_code, 11, some (.long), [], 10, 3, 0, 0, 0, 0) := ⟨(zt_in (j := 2) (k := 73) rfl rfl), rfl, (zt_in (j := 1) (k := 3) rfl rfl), (zt_in (j := 2) (k := 71) rfl rfl), Or.inr (zt_in (j := 2) (k := 72) rfl rfl), by decide +kernel, by decide, fun h => absurd h (by decide)⟩
set_option maxRecDepth 100000 in
theorem zt_m_16 : zt_mOK (⟨"ColumnVault$Sheet", "keyAt", "(II)J"⟩, prog_10_method_7_code, 3, some (.long), [], 10, 2, 0, 0, 0, 0) := ⟨(zt_in (j := 2) (k := 77) rfl rfl), rfl, (zt_in (j := 1) (k := 3) rfl rfl), (zt_in (j := 2) (k := 75) rfl rfl), Or.inr (zt_in (j := 2) (k := 76) rfl rfl), by decide +kernel, by decide, fun h => absurd h (by decide)⟩
set_option maxRecDepth 100000 in
theorem zt_m_17 : zt_mOK (⟨"ColumnVault", "version", "()I"⟩, prog_1_method_10_code, 1, some (.int), [], 12, 0, 0, 0, 0, 0) := ⟨(zt_in (j := 2) (k := 98) rfl rfl), rfl, (zt_in (j := 1) (k := 1) rfl rfl), (zt_in (j := 2) (k := 96) rfl rfl), Or.inr (zt_in (j := 2) (k := 97) rfl rfl), by decide +kernel, by decide, fun h => absurd h (by decide)⟩
set_option maxRecDepth 100000 in
theorem zt_m_18 : zt_mOK (⟨"ColumnVault", "chosenShare", "(I)F"⟩, prog_1_method_40_code, 3, some (.float), [], 12, 1, 0, 0, 0, 0) := ⟨(zt_in (j := 2) (k := 102) rfl rfl), rfl, (zt_in (j := 1) (k := 1) rfl rfl), (zt_in (j := 2) (k := 100) rfl rfl), Or.inr (zt_in (j := 2) (k := 101) rfl rfl), by decide +kernel, by decide, fun h => absurd h (by decide)⟩
set_option maxRecDepth 100000 in
theorem zt_m_19 : zt_mOK (⟨"ColumnVaultLaw", "seed", "([I)[I"⟩, method_2_code, 3, some (.array (.int)), [], 17, 1, 0, 1, 99999, 0) := ⟨(zt_in (j := 2) (k := 105) rfl rfl), rfl, (zt_in (j := 1) (k := 0) rfl rfl), (zt_in (j := 2) (k := 104) rfl rfl), Or.inl rfl, by decide +kernel, by decide, fun h => absurd h (by decide)⟩
set_option maxRecDepth 100000 in
theorem zt_m_20 : zt_mOK (⟨"ColumnVaultLaw", "draw", "([II)I"⟩, method_3_code, 2, some (.int), [], 17, 2, 0, 1, 99999, 0) := ⟨(zt_in (j := 2) (k := 111) rfl rfl), rfl, (zt_in (j := 1) (k := 0) rfl rfl), (zt_in (j := 2) (k := 110) rfl rfl), Or.inl rfl, by decide +kernel, by decide, fun h => absurd h (by decide)⟩
set_option maxRecDepth 100000 in
theorem zt_m_21 : zt_mOK (⟨"ColumnVaultLaw", "asks", "(LColumnVault;IIIJ)J"⟩, method_9_code, 7, some (.long), [(0, 107, 316, 150), (108, 114, 316, 150), (115, 128, 316, 150), (129, 146, 316, 150), (147, 156, 316, 150), (157, 163, 316, 150), (164, 171, 316, 150), (172, 179, 316, 150), (180, 186, 316, 150), (187, 199, 316, 150), (200, 207, 316, 150), (208, 214, 316, 150), (215, 224, 316, 150), (225, 236, 316, 150), (237, 248, 316, 150), (249, 258, 316, 150), (259, 268, 316, 150), (269, 276, 316, 150), (277, 287, 316, 150), (288, 297, 316, 150), (298, 307, 316, 150), (308, 315, 316, 150), (0, 107, 322, 154), (108, 114, 322, 154), (115, 128, 322, 154), (129, 146, 322, 154), (147, 156, 322, 154), (157, 163, 322, 154), (164, 171, 322, 154), (172, 179, 322, 154), (180, 186, 322, 154), (187, 199, 322, 154), (200, 207, 322, 154), (208, 214, 322, 154), (215, 224, 322, 154), (225, 236, 322, 154), (237, 248, 322, 154), (249, 258, 322, 154), (259, 268, 322, 154), (269, 276, 322, 154), (277, 287, 322, 154), (288, 297, 322, 154), (298, 307, 322, 154), (308, 315, 322, 154), (0, 107, 328, 158), (108, 114, 328, 158), (115, 128, 328, 158), (129, 146, 328, 158), (147, 156, 328, 158), (157, 163, 328, 158), (164, 171, 328, 158), (172, 179, 328, 158), (180, 186, 328, 158), (187, 199, 328, 158), (200, 207, 328, 158), (208, 214, 328, 158), (215, 224, 328, 158), (225, 236, 328, 158), (237, 248, 328, 158), (249, 258, 328, 158), (259, 268, 328, 158), (269, 276, 328, 158), (277, 287, 328, 158), (288, 297, 328, 158), (298, 307, 328, 158), (308, 315, 328, 158), (0, 107, 334, 162), (108, 114, 334, 162), (115, 128, 334, 162), (129, 146, 334, 162), (147, 156, 334, 162), (157, 163, 334, 162), (164, 171, 334, 162), (172, 179, 334, 162), (180, 186, 334, 162), (187, 199, 334, 162), (200, 207, 334, 162), (208, 214, 334, 162), (215, 224, 334, 162), (225, 236, 334, 162), (237, 248, 334, 162), (249, 258, 334, 162), (259, 268, 334, 162), (269, 276, 334, 162), (277, 287, 334, 162), (288, 297, 334, 162), (298, 307, 334, 162), (308, 315, 334, 162)], 17, 5, 0, 1, 99999, 0) := ⟨(zt_in (j := 2) (k := 115) rfl rfl), rfl, (zt_in (j := 1) (k := 0) rfl rfl), (zt_in (j := 2) (k := 114) rfl rfl), Or.inl rfl, by decide +kernel, by decide, fun h => absurd h (by decide)⟩
set_option maxRecDepth 100000 in
theorem zt_m_22 : zt_mOK (⟨"ColumnVault", "addColumn", "(II)I"⟩, prog_1_method_2_code, 4, some (.int), [], 12, 2, 0, 0, 0, 0) := ⟨(zt_in (j := 2) (k := 123) rfl rfl), rfl, (zt_in (j := 1) (k := 1) rfl rfl), (zt_in (j := 2) (k := 121) rfl rfl), Or.inr (zt_in (j := 2) (k := 122) rfl rfl), by decide +kernel, by decide, fun h => absurd h (by decide)⟩
set_option maxRecDepth 100000 in
theorem zt_m_23 : zt_mOK (⟨"ColumnVault", "nextSheetOf", "(I)LColumnVault$Sheet;"⟩, prog_1_method_43_code, 2, some (.object "ColumnVault$Sheet"), [], 12, 1, 0, 0, 0, 0) := ⟨(zt_in (j := 2) (k := 144) rfl rfl), rfl, (zt_in (j := 1) (k := 1) rfl rfl), (zt_in (j := 2) (k := 143) rfl rfl), Or.inr (zt_in (j := 0) (k := 2) rfl rfl), by decide +kernel, by decide, fun h => absurd h (by decide)⟩
set_option maxRecDepth 100000 in
theorem zt_m_24 : zt_mOK (⟨"ColumnVault$History", "makeNextFrom", "(I)V"⟩, prog_6_method_4_code, 5, none, [], 6, 1, 0, 0, 0, 0) := ⟨(zt_in (j := 2) (k := 148) rfl rfl), rfl, (zt_in (j := 1) (k := 2) rfl rfl), (zt_in (j := 2) (k := 146) rfl rfl), Or.inr (zt_in (j := 2) (k := 147) rfl rfl), by decide +kernel, by decide, fun h => absurd h (by decide)⟩
set_option maxRecDepth 100000 in
theorem zt_m_25 : zt_mOK (⟨"ColumnVault$Sheet", "copyFrom", "(LColumnVault$Sheet;)V"⟩, prog_10_method_2_code, 2, none, [], 10, 1, 0, 0, 0, 0) := ⟨(zt_in (j := 2) (k := 153) rfl rfl), rfl, (zt_in (j := 1) (k := 3) rfl rfl), (zt_in (j := 2) (k := 151) rfl rfl), Or.inr (zt_in (j := 2) (k := 152) rfl rfl), by decide +kernel, by decide, fun h => absurd h (by decide)⟩
set_option maxRecDepth 100000 in
theorem zt_m_26 : zt_mOK (⟨"ColumnVault$Sheet", "appendColumn", "(I)I"⟩, prog_10_method_11_code, 4, some (.int), [], 10, 1, 0, 0, 0, 0) := ⟨(zt_in (j := 2) (k := 160) rfl rfl), rfl, (zt_in (j := 1) (k := 3) rfl rfl), (zt_in (j := 2) (k := 158) rfl rfl), Or.inr (zt_in (j := 2) (k := 159) rfl rfl), by decide +kernel, by decide, fun h => absurd h (by decide)⟩
set_option maxRecDepth 100000 in
theorem zt_m_27 : zt_mOK (⟨"ColumnVault$Sheet", "putKey", "(IIJ)V"⟩, prog_10_method_8_code, 5, none, [], 10, 3, 0, 0, 0, 0) := ⟨(zt_in (j := 2) (k := 164) rfl rfl), rfl, (zt_in (j := 1) (k := 3) rfl rfl), (zt_in (j := 2) (k := 162) rfl rfl), Or.inr (zt_in (j := 2) (k := 163) rfl rfl), by decide +kernel, by decide, fun h => absurd h (by decide)⟩
set_option maxRecDepth 100000 in
theorem zt_m_28 : zt_mOK (⟨"ColumnVault$Sheet", "hasColumn", "(I)Z"⟩, prog_10_method_3_code, 2, some (.boolean), [], 10, 1, 0, 0, 0, 0) := ⟨(zt_in (j := 2) (k := 168) rfl rfl), rfl, (zt_in (j := 1) (k := 3) rfl rfl), (zt_in (j := 2) (k := 166) rfl rfl), Or.inr (zt_in (j := 2) (k := 167) rfl rfl), by decide +kernel, by decide, fun h => absurd h (by decide)⟩
set_option maxRecDepth 100000 in
theorem zt_m_29 : zt_mOK (⟨"ColumnVault$Sheet", "hasRow", "(I)Z"⟩, prog_10_method_4_code, 2, some (.boolean), [], 10, 1, 0, 0, 0, 0) := ⟨(zt_in (j := 2) (k := 172) rfl rfl), rfl, (zt_in (j := 1) (k := 3) rfl rfl), (zt_in (j := 2) (k := 170) rfl rfl), Or.inr (zt_in (j := 2) (k := 171) rfl rfl), by decide +kernel, by decide, fun h => absurd h (by decide)⟩
set_option maxRecDepth 100000 in
theorem zt_m_30 : zt_mOK (⟨"ColumnVault", "addRow", "(I)I"⟩, prog_1_method_3_code, 2, some (.int), [], 12, 1, 0, 0, 0, 0) := ⟨(zt_in (j := 2) (k := 176) rfl rfl), rfl, (zt_in (j := 1) (k := 1) rfl rfl), (zt_in (j := 2) (k := 174) rfl rfl), Or.inr (zt_in (j := 2) (k := 175) rfl rfl), by decide +kernel, by decide, fun h => absurd h (by decide)⟩
set_option maxRecDepth 100000 in
theorem zt_m_31 : zt_mOK (⟨"ColumnVault$Sheet", "appendRow", "()I"⟩, prog_10_method_12_code, 3, some (.int), [], 10, 0, 0, 0, 0, 0) := ⟨(zt_in (j := 2) (k := 181) rfl rfl), rfl, (zt_in (j := 1) (k := 3) rfl rfl), (zt_in (j := 2) (k := 179) rfl rfl), Or.inr (zt_in (j := 2) (k := 180) rfl rfl), by decide +kernel, by decide, fun h => absurd h (by decide)⟩
set_option maxRecDepth 100000 in
theorem zt_m_32 : zt_mOK (⟨"ColumnVault", "fill", "(IIIII)I"⟩, prog_1_method_4_code, 9, some (.int), [], 12, 5, 0, 0, 0, 0) := ⟨(zt_in (j := 2) (k := 185) rfl rfl), rfl, (zt_in (j := 1) (k := 1) rfl rfl), (zt_in (j := 2) (k := 183) rfl rfl), Or.inr (zt_in (j := 2) (k := 184) rfl rfl), by decide +kernel, by decide, fun h => absurd h (by decide)⟩
set_option maxRecDepth 100000 in
theorem zt_m_33 : zt_mOK (⟨"ColumnVault", "sheetWith", "(II)LColumnVault$Sheet;"⟩, prog_1_method_42_code, 4, some (.object "ColumnVault$Sheet"), [], 12, 2, 0, 0, 0, 0) := ⟨(zt_in (j := 2) (k := 189) rfl rfl), rfl, (zt_in (j := 1) (k := 1) rfl rfl), (zt_in (j := 2) (k := 188) rfl rfl), Or.inr (zt_in (j := 0) (k := 3) rfl rfl), by decide +kernel, by decide, fun h => absurd h (by decide)⟩
set_option maxRecDepth 100000 in
theorem zt_m_34 : zt_mOK (⟨"ColumnVault", "requireColumn", "(LColumnVault$Sheet;I)V"⟩, prog_1_method_47_code, 2, none, [], 12, 2, 0, 1, 99999, 0) := ⟨(zt_in (j := 2) (k := 192) rfl rfl), rfl, (zt_in (j := 1) (k := 1) rfl rfl), (zt_in (j := 2) (k := 191) rfl rfl), Or.inl rfl, by decide +kernel, by decide, fun h => absurd h (by decide)⟩
set_option maxRecDepth 100000 in
theorem zt_m_35 : zt_mOK (⟨"ColumnVault$Sheet", "kindOf", "(I)I"⟩, prog_10_method_6_code, 2, some (.int), [], 10, 1, 0, 0, 0, 0) := ⟨(zt_in (j := 2) (k := 198) rfl rfl), rfl, (zt_in (j := 1) (k := 3) rfl rfl), (zt_in (j := 2) (k := 196) rfl rfl), Or.inr (zt_in (j := 2) (k := 197) rfl rfl), by decide +kernel, by decide, fun h => absurd h (by decide)⟩
set_option maxRecDepth 100000 in
theorem zt_m_36 : zt_mOK (⟨"ColumnVault", "isNumber", "(J)Z"⟩, prog_1_method_53_code, 2, some (.boolean), [], 12, 1, 0, 1, 99999, 0) := ⟨(zt_in (j := 2) (k := 201) rfl rfl), rfl, (zt_in (j := 1) (k := 1) rfl rfl), (zt_in (j := 2) (k := 200) rfl rfl), Or.inl rfl, by decide +kernel, by decide, fun h => absurd h (by decide)⟩
set_option maxRecDepth 100000 in
theorem zt_m_37 : zt_mOK (⟨"ColumnVault", "set", "(IIIJ)Z"⟩, prog_1_method_5_code, 12, some (.boolean), [], 12, 4, 0, 0, 0, 0) := ⟨(zt_in (j := 2) (k := 209) rfl rfl), rfl, (zt_in (j := 1) (k := 1) rfl rfl), (zt_in (j := 2) (k := 207) rfl rfl), Or.inr (zt_in (j := 2) (k := 208) rfl rfl), by decide +kernel, by decide, fun h => absurd h (by decide)⟩
set_option maxRecDepth 100000 in
theorem zt_m_38 : zt_mOK (⟨"ColumnVault", "requireRow", "(LColumnVault$Sheet;I)V"⟩, prog_1_method_48_code, 2, none, [], 12, 2, 0, 1, 99999, 0) := ⟨(zt_in (j := 2) (k := 212) rfl rfl), rfl, (zt_in (j := 1) (k := 1) rfl rfl), (zt_in (j := 2) (k := 211) rfl rfl), Or.inl rfl, by decide +kernel, by decide, fun h => absurd h (by decide)⟩
set_option maxRecDepth 100000 in
theorem zt_m_39 : zt_mOK (⟨"ColumnVault", "requireValue", "(IJ)V"⟩, prog_1_method_50_code, 3, none, [], 12, 2, 0, 1, 99999, 0) := ⟨(zt_in (j := 2) (k := 218) rfl rfl), rfl, (zt_in (j := 1) (k := 1) rfl rfl), (zt_in (j := 2) (k := 217) rfl rfl), Or.inl rfl, by decide +kernel, by decide, fun h => absurd h (by decide)⟩
set_option maxRecDepth 100000 in
theorem zt_m_40 : zt_mOK (⟨"ColumnVault", "isWord", "(J)Z"⟩, prog_1_method_54_code, 3, some (.boolean), [], 12, 1, 0, 1, 99999, 0) := ⟨(zt_in (j := 2) (k := 221) rfl rfl), rfl, (zt_in (j := 1) (k := 1) rfl rfl), (zt_in (j := 2) (k := 220) rfl rfl), Or.inl rfl, by decide +kernel, by decide, fun h => absurd h (by decide)⟩
